/-! the class Verifier: giveCatchers, giveNext (wip/gen/p68.py) -/
section JVg
variable {l : Launch} {G : jl_G} {σ : jl_S}
variable {tb : Nat → Bool} {pr : Nat → Option Nat} {ow fi ft : Nat → Nat} {mt : Nat → Option Nat}
variable {a : Nat} {q1 q2 : Option Nat} {rs : Nat} {op : Nat → Nat} {ag : Nat → Int32} {sz : Nat} {fr tt tg kd : Nat → Nat} {nc : Nat} {mp : Nat → Int32} {fh : Nat → Bool}
variable {wr wz : Int32} {bf gv jn : Nat → Option Nat} {sg : Int32 → Option Sg}
theorem ve_meetQ (hl : l.stackTraces = false) {P : jl_O → jl_S → Prop} {pc h : Nat} {g : Rw} {s : MF} (hvb : VB σ tb pr ow fi ft mt sg a q1 q2 rs op ag sz fr tt tg kd nc wr wz bf gv jn mp fh) (hok : WoOk tb pr ow fi) (hmt : MtOk mt) (ha : 54 ≤ a ∧ (a - 54) % 9 = 0) (hpc : pc < 24) (hA : MpC mp s.1) (hAV : AV s.1) (hF : frp fh s.2) (hg : rv gv h) (hq : req gv g) (hgr : rv g h)
    (hT : ∀ s' jn' mp' fh' σ', meetA pr s pc g h = some s' → MpC mp' s'.1 → frp fh' s'.2 → AV s'.1 → VB σ' tb pr ow fi ft mt sg a q1 q2 rs op ag sz fr tt tg kd nc wr wz bf gv jn' mp' fh' → Fr a σ σ' → P (.inl (some (.int (nI 1)))) σ') (hN : ∀ jn' σ', meetA pr s pc g h = none → VB σ' tb pr ow fi ft mt sg a q1 q2 rs op ag sz fr tt tg kd nc wr wz bf gv jn' mp fh → Fr a σ σ' → P (.inl (some (.int (nI 0)))) σ') : jl_mE l G m_Ve_meet [.ref 9, .ref a, .int (nI pc)] σ P := by
  refine ve_meet hl hvb hok hmt ha hpc hA hAV hF hg (fun s' jn' mp' fh' σ' e h1 h2 h3 h4 => ?_) (fun jn' σ' e h3 h4 => hN jn' σ' ((meetA_e hg.2.1 hq).1 e) h3 h4)
  obtain ⟨s2, e2, e3, e4⟩ := (meetA_e hg.2.1 hq).2 s' e
  exact hT s2 jn' mp' fh' σ' e2 (e4 mp' h1) (by rw [e3]; exact h2) (meetA_AV hok.1 hAV hgr e2) h3 h4
theorem d_Ve_giveCatchers_2 : decode m_Ve_giveCatchers.2.1 2 = .ok (.iload_n 3, 1) := by decide +kernel
theorem d_Ve_giveCatchers_3 : decode m_Ve_giveCatchers.2.1 3 = .ok (.aload_n 1, 1) := by decide +kernel
theorem f_Ve_giveCatchers_124 : jl_fd m_Ve_giveCatchers 124 2 10 = true := by decide +kernel
theorem d_Ve_giveCatchers_4 : decode m_Ve_giveCatchers.2.1 4 = .ok (.getfield 124, 3) := by decide +kernel
theorem d_Ve_giveCatchers_7 : decode m_Ve_giveCatchers.2.1 7 = .ok (.if_icmp .ge 84, 3) := by decide +kernel
theorem d_Ve_giveCatchers_91 : decode m_Ve_giveCatchers.2.1 91 = .ok (.iconst 1, 1) := by decide +kernel
theorem d_Ve_giveCatchers_92 : decode m_Ve_giveCatchers.2.1 92 = .ok (.ireturn, 1) := by decide +kernel
theorem d_Ve_giveCatchers_10 : decode m_Ve_giveCatchers.2.1 10 = .ok (.aload_n 1, 1) := by decide +kernel
theorem d_Ve_giveCatchers_11 : decode m_Ve_giveCatchers.2.1 11 = .ok (.iload_n 3, 1) := by decide +kernel
theorem d_Ve_giveCatchers_12 : decode m_Ve_giveCatchers.2.1 12 = .ok (.iload_n 2, 1) := by decide +kernel
theorem k_Ve_giveCatchers_127 : jl_cv m_Ve_giveCatchers m_Me_isAround 127 2 = true := by decide +kernel
theorem d_Ve_giveCatchers_13 : decode m_Ve_giveCatchers.2.1 13 = .ok (.invokevirtual 127, 3) := by decide +kernel
theorem d_Ve_giveCatchers_16 : decode m_Ve_giveCatchers.2.1 16 = .ok (.ifCond .eq 69, 3) := by decide +kernel
theorem d_Ve_giveCatchers_85 : decode m_Ve_giveCatchers.2.1 85 = .ok (.iinc 3 1, 3) := by decide +kernel
theorem d_Ve_giveCatchers_88 : decode m_Ve_giveCatchers.2.1 88 = .ok (.goto (-86), 3) := by decide +kernel
theorem d_Ve_giveCatchers_19 : decode m_Ve_giveCatchers.2.1 19 = .ok (.aload_n 0, 1) := by decide +kernel
theorem f_Ve_giveCatchers_9 : jl_fd m_Ve_giveCatchers 9 4 2 = true := by decide +kernel
theorem d_Ve_giveCatchers_20 : decode m_Ve_giveCatchers.2.1 20 = .ok (.getfield 9, 3) := by decide +kernel
theorem d_Ve_giveCatchers_23 : decode m_Ve_giveCatchers.2.1 23 = .ok (.iconst 0, 1) := by decide +kernel
theorem d_Ve_giveCatchers_24 : decode m_Ve_giveCatchers.2.1 24 = .ok (.aload_n 0, 1) := by decide +kernel
theorem f_Ve_giveCatchers_15 : jl_fd m_Ve_giveCatchers 15 4 3 = true := by decide +kernel
theorem d_Ve_giveCatchers_25 : decode m_Ve_giveCatchers.2.1 25 = .ok (.getfield 15, 3) := by decide +kernel
theorem d_Ve_giveCatchers_28 : decode m_Ve_giveCatchers.2.1 28 = .ok (.iconst 0, 1) := by decide +kernel
theorem d_Ve_giveCatchers_29 : decode m_Ve_giveCatchers.2.1 29 = .ok (.bipush 12, 2) := by decide +kernel
theorem k_Ve_giveCatchers_ac82 : Cond.methodLink m_Ve_giveCatchers.1.cls 82 arraycopyName ∈ jl_gw := by decide +kernel
theorem d_Ve_giveCatchers_31 : decode m_Ve_giveCatchers.2.1 31 = .ok (.invokestatic 82, 3) := by decide +kernel
theorem d_Ve_giveCatchers_34 : decode m_Ve_giveCatchers.2.1 34 = .ok (.aload_n 0, 1) := by decide +kernel
theorem d_Ve_giveCatchers_35 : decode m_Ve_giveCatchers.2.1 35 = .ok (.aload_n 0, 1) := by decide +kernel
theorem d_Ve_giveCatchers_36 : decode m_Ve_giveCatchers.2.1 36 = .ok (.getfield 9, 3) := by decide +kernel
theorem d_Ve_giveCatchers_39 : decode m_Ve_giveCatchers.2.1 39 = .ok (.bipush 6, 2) := by decide +kernel
theorem d_Ve_giveCatchers_41 : decode m_Ve_giveCatchers.2.1 41 = .ok (.iaload, 1) := by decide +kernel
theorem k_Ve_giveCatchers_131 : jl_cv m_Ve_giveCatchers m_Ve_lower 131 1 = true := by decide +kernel
theorem d_Ve_giveCatchers_42 : decode m_Ve_giveCatchers.2.1 42 = .ok (.invokevirtual 131, 3) := by decide +kernel
theorem d_Ve_giveCatchers_45 : decode m_Ve_giveCatchers.2.1 45 = .ok (.aload_n 1, 1) := by decide +kernel
theorem f_Ve_giveCatchers_135 : jl_fd m_Ve_giveCatchers 135 2 9 = true := by decide +kernel
theorem d_Ve_giveCatchers_46 : decode m_Ve_giveCatchers.2.1 46 = .ok (.getfield 135, 3) := by decide +kernel
theorem d_Ve_giveCatchers_49 : decode m_Ve_giveCatchers.2.1 49 = .ok (.iload_n 3, 1) := by decide +kernel
theorem d_Ve_giveCatchers_50 : decode m_Ve_giveCatchers.2.1 50 = .ok (.iaload, 1) := by decide +kernel
theorem d_Ve_giveCatchers_51 : decode m_Ve_giveCatchers.2.1 51 = .ok (.bipush 6, 2) := by decide +kernel
theorem d_Ve_giveCatchers_53 : decode m_Ve_giveCatchers.2.1 53 = .ok (.if_icmp .eq 16, 3) := by decide +kernel
theorem d_Ve_giveCatchers_69 : decode m_Ve_giveCatchers.2.1 69 = .ok (.aload_n 0, 1) := by decide +kernel
theorem d_Ve_giveCatchers_70 : decode m_Ve_giveCatchers.2.1 70 = .ok (.aload_n 1, 1) := by decide +kernel
theorem d_Ve_giveCatchers_71 : decode m_Ve_giveCatchers.2.1 71 = .ok (.aload_n 1, 1) := by decide +kernel
theorem f_Ve_giveCatchers_141 : jl_fd m_Ve_giveCatchers 141 2 8 = true := by decide +kernel
theorem d_Ve_giveCatchers_72 : decode m_Ve_giveCatchers.2.1 72 = .ok (.getfield 141, 3) := by decide +kernel
theorem d_Ve_giveCatchers_75 : decode m_Ve_giveCatchers.2.1 75 = .ok (.iload_n 3, 1) := by decide +kernel
theorem d_Ve_giveCatchers_76 : decode m_Ve_giveCatchers.2.1 76 = .ok (.iaload, 1) := by decide +kernel
theorem k_Ve_giveCatchers_121 : jl_cv m_Ve_giveCatchers m_Ve_meet 121 2 = true := by decide +kernel
theorem d_Ve_giveCatchers_77 : decode m_Ve_giveCatchers.2.1 77 = .ok (.invokevirtual 121, 3) := by decide +kernel
theorem d_Ve_giveCatchers_80 : decode m_Ve_giveCatchers.2.1 80 = .ok (.ifCond .ne 5, 3) := by decide +kernel
theorem d_Ve_giveCatchers_83 : decode m_Ve_giveCatchers.2.1 83 = .ok (.iconst 0, 1) := by decide +kernel
theorem d_Ve_giveCatchers_84 : decode m_Ve_giveCatchers.2.1 84 = .ok (.ireturn, 1) := by decide +kernel
theorem d_Ve_giveCatchers_56 : decode m_Ve_giveCatchers.2.1 56 = .ok (.aload_n 0, 1) := by decide +kernel
theorem d_Ve_giveCatchers_57 : decode m_Ve_giveCatchers.2.1 57 = .ok (.bipush 10, 2) := by decide +kernel
theorem d_Ve_giveCatchers_59 : decode m_Ve_giveCatchers.2.1 59 = .ok (.aload_n 1, 1) := by decide +kernel
theorem d_Ve_giveCatchers_60 : decode m_Ve_giveCatchers.2.1 60 = .ok (.getfield 135, 3) := by decide +kernel
theorem d_Ve_giveCatchers_63 : decode m_Ve_giveCatchers.2.1 63 = .ok (.iload_n 3, 1) := by decide +kernel
theorem d_Ve_giveCatchers_64 : decode m_Ve_giveCatchers.2.1 64 = .ok (.iaload, 1) := by decide +kernel
theorem d_Ve_giveCatchers_65 : decode m_Ve_giveCatchers.2.1 65 = .ok (.iadd, 1) := by decide +kernel
theorem k_Ve_giveCatchers_138 : jl_cv m_Ve_giveCatchers m_Ve_put 138 1 = true := by decide +kernel
theorem d_Ve_giveCatchers_66 : decode m_Ve_giveCatchers.2.1 66 = .ok (.invokevirtual 138, 3) := by decide +kernel
theorem ve_cat_l (hl : l.stackTraces = false) {P : jl_O → jl_S → Prop} {pc h : Nat} {r0 : Rw} {σ0 : jl_S}  (hok : WoOk tb pr ow fi) (hmt : MtOk mt) (ha : 54 ≤ a ∧ (a - 54) % 9 = 0) (hpc : pc < 24) (hnc : nc ≤ 2) (hcf : ∀ i, i < 2 → fr i < 100 ∧ tt i < 100 ∧ tg i < 24 ∧ kd i < 7) (hb : rv bf h) (hbr : req bf r0) (hr0 : rv r0 h) : ∀ (nn : Nat) (i : Nat) (s : MF) (σ : jl_S) (gv jn : Rw) (mp : Nat → Int32) (fh : Nat → Bool), nc - i < nn → i ≤ nc → VB σ tb pr ow fi ft mt sg a q1 q2 rs op ag sz fr tt tg kd nc wr wz bf gv jn mp fh → Fr a σ0 σ → gok gv → MpC mp s.1 → frp fh s.2 → AV s.1 → (∀ s', catA pr fr tt tg kd r0 h pc (nc - i) i s = (true, s') → (∀ gv' jn' mp' fh' σ', gok gv' → MpC mp' s'.1 → frp fh' s'.2 → AV s'.1 → VB σ' tb pr ow fi ft mt sg a q1 q2 rs op ag sz fr tt tg kd nc wr wz bf gv' jn' mp' fh' → Fr a σ0 σ' → P (.inl (some (.int (nI 1)))) σ')) → (∀ s', catA pr fr tt tg kd r0 h pc (nc - i) i s = (false, s') → (∀ gv' jn' mp' fh' σ', gok gv' → MpC mp' s'.1 → frp fh' s'.2 → AV s'.1 → VB σ' tb pr ow fi ft mt sg a q1 q2 rs op ag sz fr tt tg kd nc wr wz bf gv' jn' mp' fh' → Fr a σ0 σ' → P (.inl (some (.int (nI 0)))) σ')) → jl_E l G m_Ve_giveCatchers (0, 0) 2 [some (.ref 9), some (.ref a), some (.int (nI pc)), some (.int (nI i))] [] σ P := by
  intro nn
  induction nn with
  | zero => intro i s σ gv jn mp fh hnn; exact absurd hnn (Nat.not_lt_zero _)
  | succ nn ihn =>
    intro i s σ gv jn mp fh hnn hi hvb hfr hgk hA hF hAV hT hN
    obtain ⟨hw, hc, hsg, hm, hV, hB, hG, hJ⟩ := id hvb
    obtain ⟨hW, h2, h3, h4, h5, h6, h7⟩ := id hw
    obtain ⟨hM, g1, g2, g3, g4, g5, g6, g7, g8⟩ := id hm
    refine er_iload_n d_Ve_giveCatchers_2 rfl ?_
    refine er_aload_n d_Ve_giveCatchers_3 rfl ?_
    refine er_getf d_Ve_giveCatchers_4 f_Ve_giveCatchers_124 hM rfl ?_
    refine er_icmp_geN 91 d_Ve_giveCatchers_7 (by decide) (by omega) (by omega) (fun c1 => ?_) (fun c1 => ?_)
    · refine er_iconst ((nI (1))) d_Ve_giveCatchers_91 (by decide) ?_
      exact er_zret d_Ve_giveCatchers_92 rfl (by decide) (hT s (by rw [show nc - i = 0 by omega]; rfl) gv jn mp fh σ hgk hA hF hAV hvb hfr) (by decide) (by decide)
    · refine er_aload_n d_Ve_giveCatchers_10 rfl ?_
      refine er_iload_n d_Ve_giveCatchers_11 rfl ?_
      refine er_iload_n d_Ve_giveCatchers_12 rfl ?_
      refine er_callV (As := [.int (nI i), .int (nI pc)]) d_Ve_giveCatchers_13 k_Ve_giveCatchers_127 hM rfl rfl rfl (Nat.le_of_ble_eq_true rfl) (by decide) (by decide) (me_around hl hm (by omega) (by omega) (hcf _ (by omega)).1 (hcf _ (by omega)).2.1) ?_
      show jl_E l G m_Ve_giveCatchers (0, 0) 16 [some (.ref 9), some (.ref a), some (.int (nI pc)), some (.int (nI i))] [.int (bi (aro fr tt (i) (pc)))] (σ) P
      refine er_if_eq 85 d_Ve_giveCatchers_16 (by decide) (fun c2 => ?_) (fun c2 => ?_)
      · refine er_iinc ((nI (i + 1))) d_Ve_giveCatchers_85 (by decide) rfl (jl_inc _) ?_
        show jl_E l G m_Ve_giveCatchers (0, 0) 88 [some (.ref 9), some (.ref a), some (.int (nI pc)), some (.int (nI (i + 1)))] [] (σ) P
        refine er_goto 2 d_Ve_giveCatchers_88 (by decide) ?_
        exact ihn (i + 1) s σ gv jn mp fh (by omega) (by omega) hvb hfr hgk hA hF hAV (fun s' e => hT s' (by rw [show nc - i = (nc - (i + 1)) + 1 by omega, catA_k (bi_0.mp c2)]; exact e)) (fun s' e => hN s' (by rw [show nc - i = (nc - (i + 1)) + 1 by omega, catA_k (bi_0.mp c2)]; exact e))
      · obtain ⟨-, -, htg, hki⟩ := hcf i (by omega)
        refine er_aload_n d_Ve_giveCatchers_19 rfl ?_
        refine er_getf d_Ve_giveCatchers_20 f_Ve_giveCatchers_9 hV rfl ?_
        refine er_iconst ((nI (0))) d_Ve_giveCatchers_23 (by decide) ?_
        refine er_aload_n d_Ve_giveCatchers_24 rfl ?_
        refine er_getf d_Ve_giveCatchers_25 f_Ve_giveCatchers_15 hV rfl ?_
        refine er_iconst ((nI (0))) d_Ve_giveCatchers_28 (by decide) ?_
        refine er_bipush ((nI (12))) d_Ve_giveCatchers_29 (by decide) ?_
        refine er_copy d_Ve_giveCatchers_31 k_Ve_giveCatchers_ac82 hB hG (by omega) (by omega) (by decide) (by decide) (by decide) (by decide) ?_
        rw [show va_cpy (fun j => en (bf j)) (fun j => en (gv j)) (0) (0) (12) = (fun j => en ((va_cpy bf gv (0) (0) (12)) j)) from cpy_en]
        show jl_E l G m_Ve_giveCatchers (0, 0) 34 [some (.ref 9), some (.ref a), some (.int (nI pc)), some (.int (nI i))] [] (σ.set (11) (.inl (0, 12, .inl (fun j => en ((va_cpy bf gv (0) (0) (12)) j))))) P
        refine er_aload_n d_Ve_giveCatchers_34 rfl ?_
        refine er_aload_n d_Ve_giveCatchers_35 rfl ?_
        refine er_getf d_Ve_giveCatchers_36 f_Ve_giveCatchers_9 (jl_sn (by decide) hV) rfl ?_
        refine er_bipush ((nI (6))) d_Ve_giveCatchers_39 (by decide) ?_
        refine er_ialdQ (v := (nI (h))) d_Ve_giveCatchers_41 (jl_sn (by decide) hB) (by omega) (by omega) (congrArg en hb.1) ?_
        refine er_callV (As := [.int (nI h)]) d_Ve_giveCatchers_42 k_Ve_giveCatchers_131 (jl_sn (by decide) hV) rfl rfl rfl (Nat.le_of_ble_eq_true rfl) (by decide) (by decide) (ve_lower (h := h) hl (jl_sn (by decide) hV) (jl_ss hG) (rv_cpy hb hgk).1 (Nat.le_refl h) hb.2.1) ?_
        show jl_E l G m_Ve_giveCatchers (0, 0) 45 [some (.ref 9), some (.ref a), some (.int (nI pc)), some (.int (nI i))] [] ((σ.set (11) (.inl (0, 12, .inl (fun j => en ((va_cpy bf gv (0) (0) (12)) j))))).set (11) (.inl (0, 12, .inl (fun j => en ((low (va_cpy bf gv (0) (0) (12)) h h) j))))) P
        refine er_aload_n d_Ve_giveCatchers_45 rfl ?_
        refine er_getf d_Ve_giveCatchers_46 f_Ve_giveCatchers_135 (jl_sn (by omega) (jl_sn (by omega) hM)) rfl ?_
        refine er_iload_n d_Ve_giveCatchers_49 rfl ?_
        refine er_ialdN d_Ve_giveCatchers_50 (jl_sn (by omega) (jl_sn (by omega) g6)) (by omega) (by omega) ?_
        refine er_bipush ((nI (6))) d_Ve_giveCatchers_51 (by decide) ?_
        refine er_icmp_eqN 69 d_Ve_giveCatchers_53 (by decide) (by omega) (by omega) (fun c3 => ?_) (fun c3 => ?_)
        · refine er_aload_n d_Ve_giveCatchers_69 rfl ?_
          refine er_aload_n d_Ve_giveCatchers_70 rfl ?_
          refine er_aload_n d_Ve_giveCatchers_71 rfl ?_
          refine er_getf d_Ve_giveCatchers_72 f_Ve_giveCatchers_141 (jl_sn (by omega) (jl_sn (by omega) hM)) rfl ?_
          refine er_iload_n d_Ve_giveCatchers_75 rfl ?_
          refine er_ialdN d_Ve_giveCatchers_76 (jl_sn (by omega) (jl_sn (by omega) g5)) (by omega) (by omega) ?_
          have hrg : rv (low (va_cpy bf gv (0) (0) (12)) h h) (ctrh (kd i)) := by have z := rv_ctr (rv_cpy hb hgk) hki; rw [show ctr (va_cpy bf gv 0 0 12) h (kd i) = (low (va_cpy bf gv (0) (0) (12)) h h) from if_pos (show kd i = 6 by omega)] at z; exact z
          refine er_callVE (As := [.ref a, .int (nI (tg (i)))]) d_Ve_giveCatchers_77 k_Ve_giveCatchers_121 (jl_sn (by decide) (jl_sn (by decide) hV)) rfl rfl rfl (Nat.le_of_ble_eq_true rfl) (by decide) (by decide) (ve_meetQ (s := s) (g := ctr r0 h (kd i)) (h := ctrh (kd i)) hl ((hvb.s11 hmt ha).s11 hmt ha) hok hmt ha htg hA hAV hF hrg (by rw [show ctr r0 h (kd i) = _ from if_pos (show kd i = 6 by omega)]; exact low_e (req_cpy.t hbr)) (rv_ctr hr0 hki) (fun s1 jn mp fh σ e1 hA hF hAV hvb hfr1 => ⟨_, rfl, ?_⟩) (fun jn σ e1 hvb hfr1 => ⟨_, rfl, ?_⟩))
          · skip
            have hfr := ((hfr.set (by omega)).set (by omega)).trans hfr1
            have hgk := hrg.g
            show jl_E l G m_Ve_giveCatchers (0, 0) 80 [some (.ref 9), some (.ref a), some (.int (nI pc)), some (.int (nI i))] [.int (nI 1)] (σ) P
            refine er_if_ne 85 d_Ve_giveCatchers_80 (by decide) (fun _ => ?_) (fun z => absurd z (by decide))
            refine er_iinc ((nI (i + 1))) d_Ve_giveCatchers_85 (by decide) rfl (jl_inc _) ?_
            show jl_E l G m_Ve_giveCatchers (0, 0) 88 [some (.ref 9), some (.ref a), some (.int (nI pc)), some (.int (nI (i + 1)))] [] (σ) P
            refine er_goto 2 d_Ve_giveCatchers_88 (by decide) ?_
            exact ihn (i + 1) s1 σ _ jn mp fh (by omega) (by omega) hvb hfr hgk hA hF hAV (fun s' e => hT s' (by rw [show nc - i = (nc - (i + 1)) + 1 by omega, catA_s (bi_nf c2) e1]; exact e)) (fun s' e => hN s' (by rw [show nc - i = (nc - (i + 1)) + 1 by omega, catA_s (bi_nf c2) e1]; exact e))
          · skip
            have hfr := ((hfr.set (by omega)).set (by omega)).trans hfr1
            have hgk := hrg.g
            show jl_E l G m_Ve_giveCatchers (0, 0) 80 [some (.ref 9), some (.ref a), some (.int (nI pc)), some (.int (nI i))] [.int (nI 0)] (σ) P
            refine er_if_ne 85 d_Ve_giveCatchers_80 (by decide) (fun z => absurd rfl z) (fun _ => ?_)
            refine er_iconst ((nI (0))) d_Ve_giveCatchers_83 (by decide) ?_
            exact er_zret d_Ve_giveCatchers_84 rfl (by decide) (hN s (by rw [show nc - i = (nc - (i + 1)) + 1 by omega]; exact catA_n (bi_nf c2) e1) _ jn mp fh σ hgk hA hF hAV hvb hfr) (by decide) (by decide)
        · refine er_aload_n d_Ve_giveCatchers_56 rfl ?_
          refine er_bipush ((nI (10))) d_Ve_giveCatchers_57 (by decide) ?_
          refine er_aload_n d_Ve_giveCatchers_59 rfl ?_
          refine er_getf d_Ve_giveCatchers_60 f_Ve_giveCatchers_135 (jl_sn (by omega) (jl_sn (by omega) hM)) rfl ?_
          refine er_iload_n d_Ve_giveCatchers_63 rfl ?_
          refine er_ialdN d_Ve_giveCatchers_64 (jl_sn (by omega) (jl_sn (by omega) g6)) (by omega) (by omega) ?_
          refine er_iaddN d_Ve_giveCatchers_65 ?_
          refine er_callV (As := [.int (nI ((10) + (kd (i))))]) d_Ve_giveCatchers_66 k_Ve_giveCatchers_138 (jl_sn (by decide) (jl_sn (by decide) hV)) rfl rfl rfl (Nat.le_of_ble_eq_true rfl) (by decide) (by decide) (ve_put (h := 0) (t := some (10 + kd i)) hl (jl_sn (by decide) (jl_sn (by decide) hV)) (jl_ss (jl_ss hG)) (by rw [show low (va_cpy bf gv 0 0 12) h h 6 = some (h - h) from rfl, Nat.sub_self]) (by decide)) ?_
          show jl_E l G m_Ve_giveCatchers (0, 0) 69 [some (.ref 9), some (.ref a), some (.int (nI pc)), some (.int (nI i))] [] (((σ.set (11) (.inl (0, 12, .inl (fun j => en ((va_cpy bf gv (0) (0) (12)) j))))).set (11) (.inl (0, 12, .inl (fun j => en ((low (va_cpy bf gv (0) (0) (12)) h h) j))))).set (11) (.inl (0, 12, .inl (fun j => en ((psh (low (va_cpy bf gv (0) (0) (12)) h h) 0 (some (10 + kd i))) j))))) P
          refine er_aload_n d_Ve_giveCatchers_69 rfl ?_
          refine er_aload_n d_Ve_giveCatchers_70 rfl ?_
          refine er_aload_n d_Ve_giveCatchers_71 rfl ?_
          refine er_getf d_Ve_giveCatchers_72 f_Ve_giveCatchers_141 (jl_sn (by omega) (jl_sn (by omega) (jl_sn (by omega) hM))) rfl ?_
          refine er_iload_n d_Ve_giveCatchers_75 rfl ?_
          refine er_ialdN d_Ve_giveCatchers_76 (jl_sn (by omega) (jl_sn (by omega) (jl_sn (by omega) g5))) (by omega) (by omega) ?_
          have hrg : rv (psh (low (va_cpy bf gv (0) (0) (12)) h h) 0 (some (10 + kd i))) (ctrh (kd i)) := by have z := rv_ctr (rv_cpy hb hgk) hki; rw [show ctr (va_cpy bf gv 0 0 12) h (kd i) = (psh (low (va_cpy bf gv (0) (0) (12)) h h) 0 (some (10 + kd i))) from if_neg (show kd i ≠ 6 by omega)] at z; exact z
          refine er_callVE (As := [.ref a, .int (nI (tg (i)))]) d_Ve_giveCatchers_77 k_Ve_giveCatchers_121 (jl_sn (by decide) (jl_sn (by decide) (jl_sn (by decide) hV))) rfl rfl rfl (Nat.le_of_ble_eq_true rfl) (by decide) (by decide) (ve_meetQ (s := s) (g := ctr r0 h (kd i)) (h := ctrh (kd i)) hl (((hvb.s11 hmt ha).s11 hmt ha).s11 hmt ha) hok hmt ha htg hA hAV hF hrg (by rw [show ctr r0 h (kd i) = _ from if_neg (show kd i ≠ 6 by omega)]; exact psh_e2 (low_e (req_cpy.t hbr))) (rv_ctr hr0 hki) (fun s1 jn mp fh σ e1 hA hF hAV hvb hfr1 => ⟨_, rfl, ?_⟩) (fun jn σ e1 hvb hfr1 => ⟨_, rfl, ?_⟩))
          · skip
            have hfr := (((hfr.set (by omega)).set (by omega)).set (by omega)).trans hfr1
            have hgk := hrg.g
            show jl_E l G m_Ve_giveCatchers (0, 0) 80 [some (.ref 9), some (.ref a), some (.int (nI pc)), some (.int (nI i))] [.int (nI 1)] (σ) P
            refine er_if_ne 85 d_Ve_giveCatchers_80 (by decide) (fun _ => ?_) (fun z => absurd z (by decide))
            refine er_iinc ((nI (i + 1))) d_Ve_giveCatchers_85 (by decide) rfl (jl_inc _) ?_
            show jl_E l G m_Ve_giveCatchers (0, 0) 88 [some (.ref 9), some (.ref a), some (.int (nI pc)), some (.int (nI (i + 1)))] [] (σ) P
            refine er_goto 2 d_Ve_giveCatchers_88 (by decide) ?_
            exact ihn (i + 1) s1 σ _ jn mp fh (by omega) (by omega) hvb hfr hgk hA hF hAV (fun s' e => hT s' (by rw [show nc - i = (nc - (i + 1)) + 1 by omega, catA_s (bi_nf c2) e1]; exact e)) (fun s' e => hN s' (by rw [show nc - i = (nc - (i + 1)) + 1 by omega, catA_s (bi_nf c2) e1]; exact e))
          · skip
            have hfr := (((hfr.set (by omega)).set (by omega)).set (by omega)).trans hfr1
            have hgk := hrg.g
            show jl_E l G m_Ve_giveCatchers (0, 0) 80 [some (.ref 9), some (.ref a), some (.int (nI pc)), some (.int (nI i))] [.int (nI 0)] (σ) P
            refine er_if_ne 85 d_Ve_giveCatchers_80 (by decide) (fun z => absurd rfl z) (fun _ => ?_)
            refine er_iconst ((nI (0))) d_Ve_giveCatchers_83 (by decide) ?_
            exact er_zret d_Ve_giveCatchers_84 rfl (by decide) (hN s (by rw [show nc - i = (nc - (i + 1)) + 1 by omega]; exact catA_n (bi_nf c2) e1) _ jn mp fh σ hgk hA hF hAV hvb hfr) (by decide) (by decide)
end JVg
