/-! the class Verifier: isFaultless (wip/gen/p72.py) -/
section JVi
variable {l : Launch} {G : jl_G} {σ : jl_S}
variable {tb : Nat → Bool} {pr : Nat → Option Nat} {ow fi ft : Nat → Nat} {mt : Nat → Option Nat}
variable {a : Nat} {q1 q2 : Option Nat} {rs : Nat} {op : Nat → Nat} {ag : Nat → Int32} {sz : Nat} {fr tt tg kd : Nat → Nat} {nc : Nat} {mp : Nat → Int32} {fh : Nat → Bool}
variable {wr wz : Int32} {bf gv jn : Nat → Option Nat} {sg : Int32 → Option Sg}
theorem d_Ve_isFaultless_28 : decode m_Ve_isFaultless.2.1 28 = .ok (.iload 4, 2) := by decide +kernel
theorem d_Ve_isFaultless_30 : decode m_Ve_isFaultless.2.1 30 = .ok (.ldc 70, 2) := by decide +kernel
theorem d_Ve_isFaultless_32 : decode m_Ve_isFaultless.2.1 32 = .ok (.if_icmp .ge 112, 3) := by decide +kernel
theorem d_Ve_isFaultless_144 : decode m_Ve_isFaultless.2.1 144 = .ok (.iconst 1, 1) := by decide +kernel
theorem d_Ve_isFaultless_145 : decode m_Ve_isFaultless.2.1 145 = .ok (.ireturn, 1) := by decide +kernel
theorem d_Ve_isFaultless_35 : decode m_Ve_isFaultless.2.1 35 = .ok (.aload_n 1, 1) := by decide +kernel
theorem k_Ve_isFaultless_71 : jl_cv m_Ve_isFaultless m_Me_leastFresh 71 0 = true := by decide +kernel
theorem d_Ve_isFaultless_36 : decode m_Ve_isFaultless.2.1 36 = .ok (.invokevirtual 71, 3) := by decide +kernel
theorem d_Ve_isFaultless_39 : decode m_Ve_isFaultless.2.1 39 = .ok (.istore 5, 2) := by decide +kernel
theorem d_Ve_isFaultless_41 : decode m_Ve_isFaultless.2.1 41 = .ok (.iload 5, 2) := by decide +kernel
theorem d_Ve_isFaultless_43 : decode m_Ve_isFaultless.2.1 43 = .ok (.iconst (-1), 1) := by decide +kernel
theorem d_Ve_isFaultless_44 : decode m_Ve_isFaultless.2.1 44 = .ok (.if_icmp .ne 5, 3) := by decide +kernel
theorem d_Ve_isFaultless_47 : decode m_Ve_isFaultless.2.1 47 = .ok (.iconst 1, 1) := by decide +kernel
theorem d_Ve_isFaultless_48 : decode m_Ve_isFaultless.2.1 48 = .ok (.ireturn, 1) := by decide +kernel
theorem d_Ve_isFaultless_49 : decode m_Ve_isFaultless.2.1 49 = .ok (.aload_n 1, 1) := by decide +kernel
theorem f_Ve_isFaultless_75 : jl_fd m_Ve_isFaultless 75 2 12 = true := by decide +kernel
theorem d_Ve_isFaultless_50 : decode m_Ve_isFaultless.2.1 50 = .ok (.getfield 75, 3) := by decide +kernel
theorem d_Ve_isFaultless_53 : decode m_Ve_isFaultless.2.1 53 = .ok (.iload 5, 2) := by decide +kernel
theorem d_Ve_isFaultless_55 : decode m_Ve_isFaultless.2.1 55 = .ok (.iconst 0, 1) := by decide +kernel
theorem d_Ve_isFaultless_56 : decode m_Ve_isFaultless.2.1 56 = .ok (.bastore, 1) := by decide +kernel
theorem d_Ve_isFaultless_57 : decode m_Ve_isFaultless.2.1 57 = .ok (.aload_n 1, 1) := by decide +kernel
theorem f_Ve_isFaultless_79 : jl_fd m_Ve_isFaultless 79 2 11 = true := by decide +kernel
theorem d_Ve_isFaultless_58 : decode m_Ve_isFaultless.2.1 58 = .ok (.getfield 79, 3) := by decide +kernel
theorem d_Ve_isFaultless_61 : decode m_Ve_isFaultless.2.1 61 = .ok (.iload 5, 2) := by decide +kernel
theorem d_Ve_isFaultless_63 : decode m_Ve_isFaultless.2.1 63 = .ok (.bipush 12, 2) := by decide +kernel
theorem d_Ve_isFaultless_65 : decode m_Ve_isFaultless.2.1 65 = .ok (.imul, 1) := by decide +kernel
theorem d_Ve_isFaultless_66 : decode m_Ve_isFaultless.2.1 66 = .ok (.aload_n 0, 1) := by decide +kernel
theorem f_Ve_isFaultless_9 : jl_fd m_Ve_isFaultless 9 4 2 = true := by decide +kernel
theorem d_Ve_isFaultless_67 : decode m_Ve_isFaultless.2.1 67 = .ok (.getfield 9, 3) := by decide +kernel
theorem d_Ve_isFaultless_70 : decode m_Ve_isFaultless.2.1 70 = .ok (.iconst 0, 1) := by decide +kernel
theorem d_Ve_isFaultless_71 : decode m_Ve_isFaultless.2.1 71 = .ok (.bipush 12, 2) := by decide +kernel
theorem k_Ve_isFaultless_ac82 : Cond.methodLink m_Ve_isFaultless.1.cls 82 arraycopyName ∈ jl_gw := by decide +kernel
theorem d_Ve_isFaultless_73 : decode m_Ve_isFaultless.2.1 73 = .ok (.invokestatic 82, 3) := by decide +kernel
theorem d_Ve_isFaultless_76 : decode m_Ve_isFaultless.2.1 76 = .ok (.aload_n 0, 1) := by decide +kernel
theorem f_Ve_isFaultless_32 : jl_fd m_Ve_isFaultless 32 4 1 = true := by decide +kernel
theorem d_Ve_isFaultless_77 : decode m_Ve_isFaultless.2.1 77 = .ok (.getfield 32, 3) := by decide +kernel
theorem d_Ve_isFaultless_80 : decode m_Ve_isFaultless.2.1 80 = .ok (.aload_n 1, 1) := by decide +kernel
theorem d_Ve_isFaultless_81 : decode m_Ve_isFaultless.2.1 81 = .ok (.iload 5, 2) := by decide +kernel
theorem d_Ve_isFaultless_83 : decode m_Ve_isFaultless.2.1 83 = .ok (.aload_n 0, 1) := by decide +kernel
theorem d_Ve_isFaultless_84 : decode m_Ve_isFaultless.2.1 84 = .ok (.getfield 9, 3) := by decide +kernel
theorem d_Ve_isFaultless_87 : decode m_Ve_isFaultless.2.1 87 = .ok (.iconst 0, 1) := by decide +kernel
theorem k_Ve_isFaultless_88 : jl_cv m_Ve_isFaultless m_Ck_firstFault 88 4 = true := by decide +kernel
theorem d_Ve_isFaultless_88 : decode m_Ve_isFaultless.2.1 88 = .ok (.invokevirtual 88, 3) := by decide +kernel
theorem d_Ve_isFaultless_91 : decode m_Ve_isFaultless.2.1 91 = .ok (.istore 6, 2) := by decide +kernel
theorem d_Ve_isFaultless_93 : decode m_Ve_isFaultless.2.1 93 = .ok (.iload 6, 2) := by decide +kernel
theorem d_Ve_isFaultless_95 : decode m_Ve_isFaultless.2.1 95 = .ok (.ifCond .ne 26, 3) := by decide +kernel
theorem d_Ve_isFaultless_121 : decode m_Ve_isFaultless.2.1 121 = .ok (.iload 6, 2) := by decide +kernel
theorem d_Ve_isFaultless_123 : decode m_Ve_isFaultless.2.1 123 = .ok (.ifCond .eq 15, 3) := by decide +kernel
theorem d_Ve_isFaultless_126 : decode m_Ve_isFaultless.2.1 126 = .ok (.aload_n 0, 1) := by decide +kernel
theorem d_Ve_isFaultless_127 : decode m_Ve_isFaultless.2.1 127 = .ok (.iload_n 2, 1) := by decide +kernel
theorem d_Ve_isFaultless_128 : decode m_Ve_isFaultless.2.1 128 = .ok (.iload_n 3, 1) := by decide +kernel
theorem d_Ve_isFaultless_129 : decode m_Ve_isFaultless.2.1 129 = .ok (.iload 5, 2) := by decide +kernel
theorem d_Ve_isFaultless_131 : decode m_Ve_isFaultless.2.1 131 = .ok (.iload 6, 2) := by decide +kernel
theorem k_Ve_isFaultless_62 : jl_cv m_Ve_isFaultless m_Ve_tell 62 4 = true := by decide +kernel
theorem d_Ve_isFaultless_133 : decode m_Ve_isFaultless.2.1 133 = .ok (.invokevirtual 62, 3) := by decide +kernel
theorem d_Ve_isFaultless_136 : decode m_Ve_isFaultless.2.1 136 = .ok (.iconst 0, 1) := by decide +kernel
theorem d_Ve_isFaultless_137 : decode m_Ve_isFaultless.2.1 137 = .ok (.ireturn, 1) := by decide +kernel
theorem d_Ve_isFaultless_98 : decode m_Ve_isFaultless.2.1 98 = .ok (.aload_n 0, 1) := by decide +kernel
theorem d_Ve_isFaultless_99 : decode m_Ve_isFaultless.2.1 99 = .ok (.aload_n 1, 1) := by decide +kernel
theorem d_Ve_isFaultless_100 : decode m_Ve_isFaultless.2.1 100 = .ok (.iload 5, 2) := by decide +kernel
theorem k_Ve_isFaultless_94 : jl_cv m_Ve_isFaultless m_Ve_giveCatchers 94 2 = true := by decide +kernel
theorem d_Ve_isFaultless_102 : decode m_Ve_isFaultless.2.1 102 = .ok (.invokevirtual 94, 3) := by decide +kernel
theorem d_Ve_isFaultless_105 : decode m_Ve_isFaultless.2.1 105 = .ok (.ifCond .eq 13, 3) := by decide +kernel
theorem d_Ve_isFaultless_108 : decode m_Ve_isFaultless.2.1 108 = .ok (.aload_n 0, 1) := by decide +kernel
theorem d_Ve_isFaultless_109 : decode m_Ve_isFaultless.2.1 109 = .ok (.aload_n 1, 1) := by decide +kernel
theorem d_Ve_isFaultless_110 : decode m_Ve_isFaultless.2.1 110 = .ok (.iload 5, 2) := by decide +kernel
theorem k_Ve_isFaultless_97 : jl_cv m_Ve_isFaultless m_Ve_giveNext 97 2 = true := by decide +kernel
theorem d_Ve_isFaultless_112 : decode m_Ve_isFaultless.2.1 112 = .ok (.invokevirtual 97, 3) := by decide +kernel
theorem d_Ve_isFaultless_115 : decode m_Ve_isFaultless.2.1 115 = .ok (.ifCond .ne 6, 3) := by decide +kernel
theorem d_Ve_isFaultless_138 : decode m_Ve_isFaultless.2.1 138 = .ok (.iinc 4 1, 3) := by decide +kernel
theorem d_Ve_isFaultless_141 : decode m_Ve_isFaultless.2.1 141 = .ok (.goto (-113), 3) := by decide +kernel
theorem d_Ve_isFaultless_118 : decode m_Ve_isFaultless.2.1 118 = .ok (.iconst 3, 1) := by decide +kernel
theorem d_Ve_isFaultless_119 : decode m_Ve_isFaultless.2.1 119 = .ok (.istore 6, 2) := by decide +kernel
theorem ve_isf_l (hl : l.stackTraces = false) {P : jl_O → jl_S → Prop} {k sl : Nat} {σ0 : jl_S}  (hok : WoOk tb pr ow fi) (hmt : MtOk mt) (ha : 54 ≤ a ∧ (a - 54) % 9 = 0) (hk : k < 6) (hsl : sl < 4) (hop : ∀ j, j < 24 → op j < 26) (hsz : sz ≤ 24) (hnc : nc ≤ 2) (hcf : ∀ i, i < 2 → fr i < 100 ∧ tt i < 100 ∧ tg i < 24 ∧ kd i < 7) (hft : ∀ k f, tyv (some (fty pr fi ft k f))) (hsgv : ∀ x g, sg x = some g → tyv (some g.2.2)) (hrs : rs < 16) : ∀ (nn : Nat) (i : Nat) (s : MF) (σ : jl_S) (bf gv jn : Rw) (mp : Nat → Int32) (fh : Nat → Bool), 1000000 - i < nn → i ≤ 1000000 → VB σ tb pr ow fi ft mt sg a q1 q2 rs op ag sz fr tt tg kd nc wr wz bf gv jn mp fh → Fr a σ0 σ → gok gv → gok bf → MpC mp s.1 → frp fh s.2 → SV s → (∀ s', verA tb pr ow fi ft sg op ag sz fr tt tg kd nc rs (1000000 - i) s = (none, s') → ∀ bf' gv' jn' mp' fh' σ', gok bf' → gok gv' → MpC mp' s'.1 → frp fh' s'.2 → AV s'.1 → VB σ' tb pr ow fi ft mt sg a q1 q2 rs op ag sz fr tt tg kd nc wr wz bf' gv' jn' mp' fh' → Fr a σ0 σ' → P (.inl (some (.int (nI 1)))) σ') → (∀ pc f s', verA tb pr ow fi ft sg op ag sz fr tt tg kd nc rs (1000000 - i) s = (some (pc, f), s') → ∀ bf' gv' jn' mp' fh' σ', gok bf' → gok gv' → MpC mp' s'.1 → frp fh' s'.2 → AV s'.1 → VB σ' tb pr ow fi ft mt sg a q1 q2 rs op ag sz fr tt tg kd nc (nI (1000 * k + 100 * sl + pc)) (nI f) bf' gv' jn' mp' fh' → Fr a σ0 σ' → P (.inl (some (.int (nI 0)))) σ') → jl_E l G m_Ve_isFaultless (0, 0) 28 [some (.ref 9), some (.ref a), some (.int (nI k)), some (.int (nI sl)), some (.int (nI i)), none, none] [] σ P := by
  intro nn
  induction nn with
  | zero => intro i s σ bf gv jn mp fh hnn; exact absurd hnn (Nat.not_lt_zero _)
  | succ nn ihn =>
    intro i s σ bf gv jn mp fh hnn hi hvb hfr hgk hbk hA hF hSV hT hN
    obtain ⟨hw, hc, hsg, hm, hV, hB, hG, hJ⟩ := id hvb
    obtain ⟨hW, h2, h3, h4, h5, h6, h7⟩ := id hw
    obtain ⟨hM, g1, g2, g3, g4, g5, g6, g7, g8⟩ := id hm
    refine er_iload d_Ve_isFaultless_28 rfl ?_
    refine er_ldc (nI 1000000) d_Ve_isFaultless_30 (by decide +kernel) ?_
    refine er_icmp_geN 144 d_Ve_isFaultless_32 (by decide) (by omega) (by omega) (fun c1 => ?_) (fun c1 => ?_)
    · refine er_iconst ((nI (1))) d_Ve_isFaultless_144 (by decide) ?_
      exact er_zret d_Ve_isFaultless_145 rfl (by decide) (hT s (by rw [show 1000000 - i = 0 by omega]; rfl) bf gv jn mp fh σ hbk hgk hA hF hSV.1 hvb hfr) (by decide) (by decide)
    · refine er_aload_n d_Ve_isFaultless_35 rfl ?_
      refine er_callV (As := []) d_Ve_isFaultless_36 k_Ve_isFaultless_71 hM rfl rfl rfl (Nat.le_of_ble_eq_true rfl) (by decide) (by decide) (me_least hl hm) ?_
      show jl_E l G m_Ve_isFaultless (0, 0) 39 [some (.ref 9), some (.ref a), some (.int (nI k)), some (.int (nI sl)), some (.int (nI i)), none, none] [.int (en (lfr fh 24 0))] (σ) P
      cases hlf : lfr fh 24 0 with
      | none =>
        show jl_E l G m_Ve_isFaultless (0, 0) 39 [some (.ref 9), some (.ref a), some (.int (nI k)), some (.int (nI sl)), some (.int (nI i)), none, none] [.int (-1)] (σ) P
        refine er_istore d_Ve_isFaultless_39 (by decide) ?_
        show jl_E l G m_Ve_isFaultless (0, 0) 41 [some (.ref 9), some (.ref a), some (.int (nI k)), some (.int (nI sl)), some (.int (nI i)), some (.int (-1)), none] [] (σ) P
        refine er_iload d_Ve_isFaultless_41 rfl ?_
        refine er_iconst ((-1)) d_Ve_isFaultless_43 (by decide) ?_
        refine er_icmp_ne 49 d_Ve_isFaultless_44 (by decide) (fun z => absurd rfl z) (fun _ => ?_)
        refine er_iconst ((nI (1))) d_Ve_isFaultless_47 (by decide) ?_
        exact er_zret d_Ve_isFaultless_48 rfl (by decide) (hT s (by rw [show 1000000 - i = (1000000 - (i + 1)) + 1 by omega]; exact ver_n ((lfr_e 24 0 (fun j _ hj => (hF j (by omega)).symm)).trans hlf)) bf gv jn mp fh σ hbk hgk hA hF hSV.1 hvb hfr) (by decide) (by decide)
      | some pc =>
        obtain ⟨-, hpc, hfp⟩ := lfr_of 24 0 pc hlf
        have hpc : pc < 24 := by omega
        have hlF : lfr s.2 24 0 = some pc := (lfr_e 24 0 (fun j _ hj => (hF j (by omega)).symm)).trans hlf
        obtain ⟨r, hr⟩ : ∃ r, s.1 pc = some r := Option.ne_none_iff_exists'.mp (hSV.2 pc ((hF pc hpc).symm.trans hfp))
        obtain ⟨h, hrv⟩ := hSV.1 pc r hr
        have hh5 := hrv.2.1
        show jl_E l G m_Ve_isFaultless (0, 0) 39 [some (.ref 9), some (.ref a), some (.int (nI k)), some (.int (nI sl)), some (.int (nI i)), none, none] [.int (nI pc)] (σ) P
        refine er_istore d_Ve_isFaultless_39 (by decide) ?_
        show jl_E l G m_Ve_isFaultless (0, 0) 41 [some (.ref 9), some (.ref a), some (.int (nI k)), some (.int (nI sl)), some (.int (nI i)), some (.int (nI pc)), none] [] (σ) P
        refine er_iload d_Ve_isFaultless_41 rfl ?_
        refine er_iconst ((-1)) d_Ve_isFaultless_43 (by decide) ?_
        refine er_icmp_ne 49 d_Ve_isFaultless_44 (by decide) (fun _ => ?_) (fun z => absurd z (en_m1ne (by omega)))
        refine er_aload_n d_Ve_isFaultless_49 rfl ?_
        refine er_getf d_Ve_isFaultless_50 f_Ve_isFaultless_75 hM rfl ?_
        refine er_iload d_Ve_isFaultless_53 rfl ?_
        refine er_iconst ((nI (0))) d_Ve_isFaultless_55 (by decide) ?_
        refine er_bastN d_Ve_isFaultless_56 g8 (by omega) (by omega) (by decide) ?_
        rw [show upd (fun j => bi (fh j)) (pc) ((nI (0))) = (fun j => bi ((va_up fh (pc) (false)) j)) from bi_up fh (pc) (false)]
        show jl_E l G m_Ve_isFaultless (0, 0) 57 [some (.ref 9), some (.ref a), some (.int (nI k)), some (.int (nI sl)), some (.int (nI i)), some (.int (nI pc)), none] [] (σ.set (a + 8) (.inl (1, 24, .inl (fun j => bi ((va_up fh (pc) (false)) j))))) P
        refine er_aload_n d_Ve_isFaultless_57 rfl ?_
        refine er_getf d_Ve_isFaultless_58 f_Ve_isFaultless_79 (jl_sn (by omega) hM) rfl ?_
        refine er_iload d_Ve_isFaultless_61 rfl ?_
        refine er_bipush ((nI (12))) d_Ve_isFaultless_63 (by decide) ?_
        refine er_imulN d_Ve_isFaultless_65 ?_
        refine er_aload_n d_Ve_isFaultless_66 rfl ?_
        refine er_getf d_Ve_isFaultless_67 f_Ve_isFaultless_9 (jl_sn (by omega) hV) rfl ?_
        refine er_iconst ((nI (0))) d_Ve_isFaultless_70 (by decide) ?_
        refine er_bipush ((nI (12))) d_Ve_isFaultless_71 (by decide) ?_
        refine er_copy d_Ve_isFaultless_73 k_Ve_isFaultless_ac82 (jl_sn (by omega) g7) (jl_sn (by omega) hB) (by omega) (by omega) (by decide) (by decide) (by decide) (by decide) ?_
        show jl_E l G m_Ve_isFaultless (0, 0) 76 [some (.ref 9), some (.ref a), some (.int (nI k)), some (.int (nI sl)), some (.int (nI i)), some (.int (nI pc)), none] [] ((σ.set (a + 8) (.inl (1, 24, .inl (fun j => bi ((va_up fh (pc) (false)) j))))).set (10) (.inl (0, 12, .inl (va_cpy (mp) (fun j => en (bf j)) ((pc) * (12)) (0) (12))))) P
        rw [show va_cpy (mp) (fun j => en (bf j)) ((pc) * (12)) (0) (12) = (fun j => en ((va_cpy r bf 0 0 12) j)) from cpy_mp (hA.s hpc hr)]
        show jl_E l G m_Ve_isFaultless (0, 0) 76 [some (.ref 9), some (.ref a), some (.int (nI k)), some (.int (nI sl)), some (.int (nI i)), some (.int (nI pc)), none] [] ((σ.set (a + 8) (.inl (1, 24, .inl (fun j => bi ((va_up fh (pc) (false)) j))))).set (10) (.inl (0, 12, .inl (fun j => en ((va_cpy r bf 0 0 12) j))))) P
        have hv1 := (hvb.s8 (fh' := va_up fh pc false) hmt ha).s10 (bf' := (va_cpy r bf 0 0 12)) hmt ha
        have hrq : req (fun j => (va_cpy r bf 0 0 12) (0 + j)) r := fun j hj => (congrArg (va_cpy r bf 0 0 12) (Nat.zero_add j)).trans (req_cpy j hj)
        have hbB : rv (va_cpy r bf 0 0 12) h := rv_cpy hrv hbk
        obtain ⟨fl, hfl⟩ : ∃ fl, flt tb pr ow fi ft sg (op pc) (ag pc) sz fr tt tg kd nc rs pc r h = fl := ⟨_, rfl⟩
        have hfb : fl ≤ 5 := hfl ▸ flt_le
        have hfr2 := (hfr.set (b := a + 8) (c := .inl (1, 24, .inl fun j => bi (va_up fh pc false j))) (by omega)).set (b := 10) (c := .inl (0, 12, .inl fun j => en ((va_cpy r bf 0 0 12) j))) (by omega)
        have hF2 : frp (va_up fh pc false) (va_up s.2 pc false) := hF.up pc false
        refine er_aload_n d_Ve_isFaultless_76 rfl ?_
        refine er_getf d_Ve_isFaultless_77 f_Ve_isFaultless_32 (jl_sn (by decide) (jl_sn (by omega) hV)) rfl ?_
        refine er_aload_n d_Ve_isFaultless_80 rfl ?_
        refine er_iload d_Ve_isFaultless_81 rfl ?_
        refine er_aload_n d_Ve_isFaultless_83 rfl ?_
        refine er_getf d_Ve_isFaultless_84 f_Ve_isFaultless_9 (jl_sn (by decide) (jl_sn (by omega) hV)) rfl ?_
        refine er_iconst ((nI (0))) d_Ve_isFaultless_87 (by decide) ?_
        refine er_callV (As := [.ref a, .int (nI pc), .ref 10, .int (nI 0)]) d_Ve_isFaultless_88 k_Ve_isFaultless_88 (jl_sn (by decide) (jl_sn (by omega) hc)) rfl rfl rfl (Nat.le_of_ble_eq_true rfl) (by decide) (by decide) (jl_meq (o' := .inl (some (.int (nI fl)))) (by rw [flt_e hrq hh5, hfl]) (ck_first (rr := 10) (N := 12) (at_ := 0) (h := h) (ty := (va_cpy r bf 0 0 12)) hl hv1.2.1 hv1.1 hv1.2.2.2.1 hok hv1.2.2.1 hv1.2.2.2.2.2.1 (by decide) hbB.ob (hop pc hpc) hpc hsz hnc hcf (by decide) hbB.1 hh5 (fun k f => (hft k f) _ rfl |>.1) hrs)) ?_
        show jl_E l G m_Ve_isFaultless (0, 0) 91 [some (.ref 9), some (.ref a), some (.int (nI k)), some (.int (nI sl)), some (.int (nI i)), some (.int (nI pc)), none] [.int (nI fl)] ((σ.set (a + 8) (.inl (1, 24, .inl (fun j => bi ((va_up fh (pc) (false)) j))))).set (10) (.inl (0, 12, .inl (fun j => en ((va_cpy r bf 0 0 12) j))))) P
        refine er_istore d_Ve_isFaultless_91 (by decide) ?_
        show jl_E l G m_Ve_isFaultless (0, 0) 93 [some (.ref 9), some (.ref a), some (.int (nI k)), some (.int (nI sl)), some (.int (nI i)), some (.int (nI pc)), some (.int (nI fl))] [] ((σ.set (a + 8) (.inl (1, 24, .inl (fun j => bi ((va_up fh (pc) (false)) j))))).set (10) (.inl (0, 12, .inl (fun j => en ((va_cpy r bf 0 0 12) j))))) P
        refine er_iload d_Ve_isFaultless_93 rfl ?_
        refine er_if_neN 121 d_Ve_isFaultless_95 (by decide) (by omega) (fun c2 => ?_) (fun c2 => ?_)
        · refine er_iload d_Ve_isFaultless_121 rfl ?_
          refine er_if_eqN 138 d_Ve_isFaultless_123 (by decide) (by omega) (fun c3 => ?_) (fun c3 => ?_)
          · exfalso; omega
          · refine er_aload_n d_Ve_isFaultless_126 rfl ?_
            refine er_iload_n d_Ve_isFaultless_127 rfl ?_
            refine er_iload_n d_Ve_isFaultless_128 rfl ?_
            refine er_iload d_Ve_isFaultless_129 rfl ?_
            refine er_iload d_Ve_isFaultless_131 rfl ?_
            refine er_callV (As := [.int (nI k), .int (nI sl), .int (nI pc), .int (nI fl)]) d_Ve_isFaultless_133 k_Ve_isFaultless_62 (jl_sn (by decide) (jl_sn (by omega) hV)) rfl rfl rfl (Nat.le_of_ble_eq_true rfl) (by decide) (by decide) (ve_tell hl hv1.2.2.2.2.1) ?_
            show jl_E l G m_Ve_isFaultless (0, 0) 136 [some (.ref 9), some (.ref a), some (.int (nI k)), some (.int (nI sl)), some (.int (nI i)), some (.int (nI pc)), some (.int (nI fl))] [] (((σ.set (a + 8) (.inl (1, 24, .inl (fun j => bi ((va_up fh (pc) (false)) j))))).set (10) (.inl (0, 12, .inl (fun j => en ((va_cpy r bf 0 0 12) j))))).set (9) (.inr (4, [.ref 1, .ref 8, .ref 10, .ref 11, .ref 12, .int (nI (1000 * k + 100 * sl + pc)), .int (nI fl)]))) P
            refine er_iconst ((nI (0))) d_Ve_isFaultless_136 (by decide) ?_
            exact er_zret d_Ve_isFaultless_137 rfl (by decide) (hN pc _ (s.1, va_up s.2 pc false) (by rw [show 1000000 - i = (1000000 - (i + 1)) + 1 by omega]; exact ver_f hlF hr hrv (lk_f hfl (by omega)) (by omega)) _ gv jn mp _ _ hbB.g hgk hA hF2 hSV.1 (hv1.s9 hmt ha) (hfr2.set (by omega))) (by decide) (by decide)
        · have hf0 : fl = 0 := by omega
          subst hf0
          show jl_E l G m_Ve_isFaultless (0, 0) 98 [some (.ref 9), some (.ref a), some (.int (nI k)), some (.int (nI sl)), some (.int (nI i)), some (.int (nI pc)), some (.int (nI 0))] [] ((σ.set (a + 8) (.inl (1, 24, .inl (fun j => bi ((va_up fh (pc) (false)) j))))).set (10) (.inl (0, 12, .inl (fun j => en ((va_cpy r bf 0 0 12) j))))) P
          refine er_aload_n d_Ve_isFaultless_98 rfl ?_
          refine er_aload_n d_Ve_isFaultless_99 rfl ?_
          refine er_iload d_Ve_isFaultless_100 rfl ?_
          refine er_callVE (As := [.ref a, .int (nI pc)]) d_Ve_isFaultless_102 k_Ve_isFaultless_94 (jl_sn (by decide) (jl_sn (by omega) hV)) rfl rfl rfl (Nat.le_of_ble_eq_true rfl) (by decide) (by decide) (ve_cat (bf := (va_cpy r bf 0 0 12)) (r0 := r) (s := (s.1, va_up s.2 pc false)) hl hv1 hok hmt ha hpc hnc hcf hbB req_cpy hrv hgk hA hF2 hSV.1 (fun s1 ec gv jn mp fh σ hgk hA hF hAV hvb hfr1 => ⟨_, rfl, ?_⟩) (fun s1 ec gv jn mp fh σ hgk hA hF hAV hvb hfr1 => ⟨_, rfl, ?_⟩))
          · skip
            have hfr := hfr2.trans hfr1
            obtain ⟨hw, hc, hsg, hm, hV, hB, hG, hJ⟩ := id hvb
            obtain ⟨hW, h2, h3, h4, h5, h6, h7⟩ := id hw
            obtain ⟨hM, g1, g2, g3, g4, g5, g6, g7, g8⟩ := id hm
            show jl_E l G m_Ve_isFaultless (0, 0) 105 [some (.ref 9), some (.ref a), some (.int (nI k)), some (.int (nI sl)), some (.int (nI i)), some (.int (nI pc)), some (.int (nI 0))] [.int (nI 1)] (σ) P
            refine er_if_eq 118 d_Ve_isFaultless_105 (by decide) (fun z => absurd z (by decide)) (fun _ => ?_)
            refine er_aload_n d_Ve_isFaultless_108 rfl ?_
            refine er_aload_n d_Ve_isFaultless_109 rfl ?_
            refine er_iload d_Ve_isFaultless_110 rfl ?_
            refine er_callVE (As := [.ref a, .int (nI pc)]) d_Ve_isFaultless_112 k_Ve_isFaultless_97 hV rfl rfl rfl (Nat.le_of_ble_eq_true rfl) (by decide) (by decide) (ve_next (bf := (va_cpy r bf 0 0 12)) (r0 := r) (s := s1) hl hvb hok hmt ha hpc hsz (hop pc hpc) rfl rfl hbB req_cpy hrv hfl hft hsgv hgk hA hF hAV (fun s2 ex gv jn mp fh σ hgk hA hF hAV hvb hfr1 => ⟨_, rfl, ?_⟩) (fun s2 ex gv jn mp fh σ hgk hA hF hAV hvb hfr1 => ⟨_, rfl, ?_⟩))
            · skip
              have hfr := hfr.trans hfr1
              obtain ⟨hw, hc, hsg, hm, hV, hB, hG, hJ⟩ := id hvb
              obtain ⟨hW, h2, h3, h4, h5, h6, h7⟩ := id hw
              obtain ⟨hM, g1, g2, g3, g4, g5, g6, g7, g8⟩ := id hm
              show jl_E l G m_Ve_isFaultless (0, 0) 115 [some (.ref 9), some (.ref a), some (.int (nI k)), some (.int (nI sl)), some (.int (nI i)), some (.int (nI pc)), some (.int (nI 0))] [.int (nI 1)] (σ) P
              refine er_if_ne 121 d_Ve_isFaultless_115 (by decide) (fun _ => ?_) (fun z => absurd z (by decide))
              refine er_iload d_Ve_isFaultless_121 rfl ?_
              refine er_if_eq 138 d_Ve_isFaultless_123 (by decide) (fun _ => ?_) (fun z => absurd (by decide) z)
              have hSV2 : SV s2 := by
                have z1 := catA_SV (pr := pr) (fr := fr) (tt := tt) (tg := tg) (kd := kd) (pc := pc) hok.1 hrv (fun i hi => (hcf i hi).2.2.2) nc 0 (s.1, va_up s.2 pc false) (by omega) (hSV.off pc)
                rw [ec] at z1
                obtain ⟨-, hf5, hf1, htf⟩ := flt0 hfl
                have z2 := nxtA_SV (pr := pr) (pc := pc) (o := op pc) (x := ag pc) hok.1 (rv_act (hop pc hpc) hrv hrv (f5o_f hf5) (f1_b hf1) htf hft hsgv) z1
                rw [ex] at z2
                exact z2
              refine er_iinc ((nI (i + 1))) d_Ve_isFaultless_138 (by decide) rfl (jl_inc _) ?_
              show jl_E l G m_Ve_isFaultless (0, 0) 141 [some (.ref 9), some (.ref a), some (.int (nI k)), some (.int (nI sl)), some (.int (nI (i + 1))), some (.int (nI pc)), some (.int (nI 0))] [] (σ) P
              refine er_goto 28 d_Ve_isFaultless_141 (by decide) ?_
              exact er_weak (ls' := [some (.ref 9), some (.ref a), some (.int (nI k)), some (.int (nI sl)), some (.int (nI (i + 1))), none, none]) (fun q v hv => by match q, hv with | 0, hv => exact hv | 1, hv => exact hv | 2, hv => exact hv | 3, hv => exact hv | 4, hv => exact hv | 5, hv => cases hv | 6, hv => cases hv | q + 7, hv => cases hv) (ihn (i + 1) s2 σ _ gv jn mp fh (by omega) (by omega) hvb hfr hgk hbB.g hA hF hSV2 (fun s' e => hT s' (by rw [show 1000000 - i = (1000000 - (i + 1)) + 1 by omega]; exact (ver_s hlF hr hrv (lk_0 hfl ec ex)).trans e)) (fun pc f s' e => hN pc f s' (by rw [show 1000000 - i = (1000000 - (i + 1)) + 1 by omega]; exact (ver_s hlF hr hrv (lk_0 hfl ec ex)).trans e)))
            · skip
              have hfr := hfr.trans hfr1
              obtain ⟨hw, hc, hsg, hm, hV, hB, hG, hJ⟩ := id hvb
              obtain ⟨hW, h2, h3, h4, h5, h6, h7⟩ := id hw
              obtain ⟨hM, g1, g2, g3, g4, g5, g6, g7, g8⟩ := id hm
              show jl_E l G m_Ve_isFaultless (0, 0) 115 [some (.ref 9), some (.ref a), some (.int (nI k)), some (.int (nI sl)), some (.int (nI i)), some (.int (nI pc)), some (.int (nI 0))] [.int (nI 0)] (σ) P
              refine er_if_ne 121 d_Ve_isFaultless_115 (by decide) (fun z => absurd rfl z) (fun _ => ?_)
              refine er_iconst ((nI (3))) d_Ve_isFaultless_118 (by decide) ?_
              refine er_istore d_Ve_isFaultless_119 (by decide) ?_
              show jl_E l G m_Ve_isFaultless (0, 0) 121 [some (.ref 9), some (.ref a), some (.int (nI k)), some (.int (nI sl)), some (.int (nI i)), some (.int (nI pc)), some (.int (nI 3))] [] (σ) P
              refine er_iload d_Ve_isFaultless_121 rfl ?_
              refine er_if_eq 138 d_Ve_isFaultless_123 (by decide) (fun z => absurd z (by decide)) (fun _ => ?_)
              refine er_aload_n d_Ve_isFaultless_126 rfl ?_
              refine er_iload_n d_Ve_isFaultless_127 rfl ?_
              refine er_iload_n d_Ve_isFaultless_128 rfl ?_
              refine er_iload d_Ve_isFaultless_129 rfl ?_
              refine er_iload d_Ve_isFaultless_131 rfl ?_
              refine er_callV (As := [.int (nI k), .int (nI sl), .int (nI pc), .int (nI 3)]) d_Ve_isFaultless_133 k_Ve_isFaultless_62 hV rfl rfl rfl (Nat.le_of_ble_eq_true rfl) (by decide) (by decide) (ve_tell hl hvb.2.2.2.2.1) ?_
              show jl_E l G m_Ve_isFaultless (0, 0) 136 [some (.ref 9), some (.ref a), some (.int (nI k)), some (.int (nI sl)), some (.int (nI i)), some (.int (nI pc)), some (.int (nI 3))] [] (σ.set (9) (.inr (4, [.ref 1, .ref 8, .ref 10, .ref 11, .ref 12, .int (nI (1000 * k + 100 * sl + pc)), .int (nI 3)]))) P
              refine er_iconst ((nI (0))) d_Ve_isFaultless_136 (by decide) ?_
              exact er_zret d_Ve_isFaultless_137 rfl (by decide) (hN pc _ s2 (by rw [show 1000000 - i = (1000000 - (i + 1)) + 1 by omega]; exact ver_f hlF hr hrv (lk_n hfl ec ex) (by omega)) _ gv jn mp fh _ hbB.g hgk hA hF hAV (hvb.s9 hmt ha) (hfr.set (by omega))) (by decide) (by decide)
          · skip
            have hfr := hfr2.trans hfr1
            obtain ⟨hw, hc, hsg, hm, hV, hB, hG, hJ⟩ := id hvb
            obtain ⟨hW, h2, h3, h4, h5, h6, h7⟩ := id hw
            obtain ⟨hM, g1, g2, g3, g4, g5, g6, g7, g8⟩ := id hm
            show jl_E l G m_Ve_isFaultless (0, 0) 105 [some (.ref 9), some (.ref a), some (.int (nI k)), some (.int (nI sl)), some (.int (nI i)), some (.int (nI pc)), some (.int (nI 0))] [.int (nI 0)] (σ) P
            refine er_if_eq 118 d_Ve_isFaultless_105 (by decide) (fun _ => ?_) (fun z => absurd (by decide) z)
            refine er_iconst ((nI (3))) d_Ve_isFaultless_118 (by decide) ?_
            refine er_istore d_Ve_isFaultless_119 (by decide) ?_
            show jl_E l G m_Ve_isFaultless (0, 0) 121 [some (.ref 9), some (.ref a), some (.int (nI k)), some (.int (nI sl)), some (.int (nI i)), some (.int (nI pc)), some (.int (nI 3))] [] (σ) P
            refine er_iload d_Ve_isFaultless_121 rfl ?_
            refine er_if_eq 138 d_Ve_isFaultless_123 (by decide) (fun z => absurd z (by decide)) (fun _ => ?_)
            refine er_aload_n d_Ve_isFaultless_126 rfl ?_
            refine er_iload_n d_Ve_isFaultless_127 rfl ?_
            refine er_iload_n d_Ve_isFaultless_128 rfl ?_
            refine er_iload d_Ve_isFaultless_129 rfl ?_
            refine er_iload d_Ve_isFaultless_131 rfl ?_
            refine er_callV (As := [.int (nI k), .int (nI sl), .int (nI pc), .int (nI 3)]) d_Ve_isFaultless_133 k_Ve_isFaultless_62 hV rfl rfl rfl (Nat.le_of_ble_eq_true rfl) (by decide) (by decide) (ve_tell hl hvb.2.2.2.2.1) ?_
            show jl_E l G m_Ve_isFaultless (0, 0) 136 [some (.ref 9), some (.ref a), some (.int (nI k)), some (.int (nI sl)), some (.int (nI i)), some (.int (nI pc)), some (.int (nI 3))] [] (σ.set (9) (.inr (4, [.ref 1, .ref 8, .ref 10, .ref 11, .ref 12, .int (nI (1000 * k + 100 * sl + pc)), .int (nI 3)]))) P
            refine er_iconst ((nI (0))) d_Ve_isFaultless_136 (by decide) ?_
            exact er_zret d_Ve_isFaultless_137 rfl (by decide) (hN pc _ s1 (by rw [show 1000000 - i = (1000000 - (i + 1)) + 1 by omega]; exact ver_f hlF hr hrv (lk_c hfl ec) (by omega)) _ gv jn mp fh _ hbB.g hgk hA hF hAV (hvb.s9 hmt ha) (hfr.set (by omega))) (by decide) (by decide)
end JVi
