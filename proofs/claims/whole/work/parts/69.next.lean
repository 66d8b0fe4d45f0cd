/-! the class Verifier: giveNext (wip/gen/p69.py) -/
section JVn
variable {l : Launch} {G : jl_G} {σ : jl_S}
variable {tb : Nat → Bool} {pr : Nat → Option Nat} {ow fi ft : Nat → Nat} {mt : Nat → Option Nat}
variable {a : Nat} {q1 q2 : Option Nat} {rs : Nat} {op : Nat → Nat} {ag : Nat → Int32} {sz : Nat} {fr tt tg kd : Nat → Nat} {nc : Nat} {mp : Nat → Int32} {fh : Nat → Bool}
variable {wr wz : Int32} {bf gv jn : Nat → Option Nat} {sg : Int32 → Option Sg}
theorem er_oeq {M : jl_M} {u : Nat × Nat} {pc : Nat} {ls : List (Option Value)} {st : List Value} {P : jl_O → jl_S → Prop} {v w : Value} (h : v = w) (k : jl_E l G M u pc ls (w :: st) σ P) : jl_E l G M u pc ls (v :: st) σ P := h ▸ k
theorem nx_a {o h pc : Nat} {x : Int32} {g : Rw} {s : MF} (e : jmp o = false) : nxtA pr o x pc g h s = if fal o = true then mt2 s (meetA pr s (pc + 1) g h) else (true, s) := by
  unfold nxtA
  rw [e]
  rfl
theorem nx_b {o h pc n : Nat} {x : Int32} {g : Rw} {s s1 : MF} (e : jmp o = true) (hx : x = nI n) (hn : n < 2 ^ 31) (e1 : meetA pr s n g h = some s1) : nxtA pr o x pc g h s = if fal o = true then mt2 s1 (meetA pr s1 (pc + 1) g h) else (true, s1) := by
  unfold nxtA
  rw [e, hx, nI_clamp hn, e1]
  rfl
theorem nx_c {o h pc n : Nat} {x : Int32} {g : Rw} {s : MF} (e : jmp o = true) (hx : x = nI n) (hn : n < 2 ^ 31) (e1 : meetA pr s n g h = none) : nxtA pr o x pc g h s = (false, s) := by
  unfold nxtA
  rw [e, hx, nI_clamp hn, e1]
  rfl
theorem d_Ve_giveCatchers_0 : decode m_Ve_giveCatchers.2.1 0 = .ok (.iconst 0, 1) := by decide +kernel
theorem d_Ve_giveCatchers_1 : decode m_Ve_giveCatchers.2.1 1 = .ok (.istore_n 3, 1) := by decide +kernel
theorem ve_cat (hl : l.stackTraces = false) {P : jl_O → jl_S → Prop} {pc h : Nat} {r0 : Rw} {s : MF} (hvb : VB σ tb pr ow fi ft mt sg a q1 q2 rs op ag sz fr tt tg kd nc wr wz bf gv jn mp fh) (hok : WoOk tb pr ow fi) (hmt : MtOk mt) (ha : 54 ≤ a ∧ (a - 54) % 9 = 0) (hpc : pc < 24) (hnc : nc ≤ 2) (hcf : ∀ i, i < 2 → fr i < 100 ∧ tt i < 100 ∧ tg i < 24 ∧ kd i < 7) (hb : rv bf h) (hbr : req bf r0) (hr0 : rv r0 h) (hgk : gok gv) (hA : MpC mp s.1) (hF : frp fh s.2) (hAV : AV s.1) (hT : ∀ s', catA pr fr tt tg kd r0 h pc nc 0 s = (true, s') → (∀ gv' jn' mp' fh' σ', gok gv' → MpC mp' s'.1 → frp fh' s'.2 → AV s'.1 → VB σ' tb pr ow fi ft mt sg a q1 q2 rs op ag sz fr tt tg kd nc wr wz bf gv' jn' mp' fh' → Fr a σ σ' → P (.inl (some (.int (nI 1)))) σ')) (hN : ∀ s', catA pr fr tt tg kd r0 h pc nc 0 s = (false, s') → (∀ gv' jn' mp' fh' σ', gok gv' → MpC mp' s'.1 → frp fh' s'.2 → AV s'.1 → VB σ' tb pr ow fi ft mt sg a q1 q2 rs op ag sz fr tt tg kd nc wr wz bf gv' jn' mp' fh' → Fr a σ σ' → P (.inl (some (.int (nI 0)))) σ')) : jl_mE l G m_Ve_giveCatchers [.ref 9, .ref a, .int (nI pc)] σ P := by
  obtain ⟨hw, hc, hsg, hm, hV, hB, hG, hJ⟩ := id hvb
  obtain ⟨hW, h2, h3, h4, h5, h6, h7⟩ := id hw
  obtain ⟨hM, g1, g2, g3, g4, g5, g6, g7, g8⟩ := id hm
  refine jl_ofE (as := [.ref 9, .ref a, .int (nI pc)]) rfl (by decide) hl (jl_cc rfl (jl_cc rfl (jl_cc rfl jl_ca))) (Nat.le_of_ble_eq_true rfl) ?_
  show jl_E l G m_Ve_giveCatchers (0, 0) 0 [some (.ref 9), some (.ref a), some (.int (nI pc)), none] [] (σ) P
  refine er_iconst ((nI (0))) d_Ve_giveCatchers_0 (by decide) ?_
  refine er_istore_n d_Ve_giveCatchers_1 (by decide) ?_
  show jl_E l G m_Ve_giveCatchers (0, 0) 2 [some (.ref 9), some (.ref a), some (.int (nI pc)), some (.int (nI 0))] [] (σ) P
  exact ve_cat_l hl hok hmt ha hpc hnc hcf hb hbr hr0 (nc + 1) 0 s σ gv jn mp fh (by omega) (by omega) hvb Fr.refl hgk hA hF hAV hT hN
theorem d_Ve_giveNext_0 : decode m_Ve_giveNext.2.1 0 = .ok (.aload_n 1, 1) := by decide +kernel
theorem f_Ve_giveNext_144 : jl_fd m_Ve_giveNext 144 2 3 = true := by decide +kernel
theorem d_Ve_giveNext_1 : decode m_Ve_giveNext.2.1 1 = .ok (.getfield 144, 3) := by decide +kernel
theorem d_Ve_giveNext_4 : decode m_Ve_giveNext.2.1 4 = .ok (.iload_n 2, 1) := by decide +kernel
theorem d_Ve_giveNext_5 : decode m_Ve_giveNext.2.1 5 = .ok (.iaload, 1) := by decide +kernel
theorem d_Ve_giveNext_6 : decode m_Ve_giveNext.2.1 6 = .ok (.istore_n 3, 1) := by decide +kernel
theorem d_Ve_giveNext_7 : decode m_Ve_giveNext.2.1 7 = .ok (.aload_n 1, 1) := by decide +kernel
theorem f_Ve_giveNext_147 : jl_fd m_Ve_giveNext 147 2 4 = true := by decide +kernel
theorem d_Ve_giveNext_8 : decode m_Ve_giveNext.2.1 8 = .ok (.getfield 147, 3) := by decide +kernel
theorem d_Ve_giveNext_11 : decode m_Ve_giveNext.2.1 11 = .ok (.iload_n 2, 1) := by decide +kernel
theorem d_Ve_giveNext_12 : decode m_Ve_giveNext.2.1 12 = .ok (.iaload, 1) := by decide +kernel
theorem d_Ve_giveNext_13 : decode m_Ve_giveNext.2.1 13 = .ok (.istore 4, 2) := by decide +kernel
theorem d_Ve_giveNext_15 : decode m_Ve_giveNext.2.1 15 = .ok (.aload_n 0, 1) := by decide +kernel
theorem f_Ve_giveNext_9 : jl_fd m_Ve_giveNext 9 4 2 = true := by decide +kernel
theorem d_Ve_giveNext_16 : decode m_Ve_giveNext.2.1 16 = .ok (.getfield 9, 3) := by decide +kernel
theorem d_Ve_giveNext_19 : decode m_Ve_giveNext.2.1 19 = .ok (.iconst 0, 1) := by decide +kernel
theorem d_Ve_giveNext_20 : decode m_Ve_giveNext.2.1 20 = .ok (.aload_n 0, 1) := by decide +kernel
theorem f_Ve_giveNext_15 : jl_fd m_Ve_giveNext 15 4 3 = true := by decide +kernel
theorem d_Ve_giveNext_21 : decode m_Ve_giveNext.2.1 21 = .ok (.getfield 15, 3) := by decide +kernel
theorem d_Ve_giveNext_24 : decode m_Ve_giveNext.2.1 24 = .ok (.iconst 0, 1) := by decide +kernel
theorem d_Ve_giveNext_25 : decode m_Ve_giveNext.2.1 25 = .ok (.bipush 12, 2) := by decide +kernel
theorem k_Ve_giveNext_ac82 : Cond.methodLink m_Ve_giveNext.1.cls 82 arraycopyName ∈ jl_gw := by decide +kernel
theorem d_Ve_giveNext_27 : decode m_Ve_giveNext.2.1 27 = .ok (.invokestatic 82, 3) := by decide +kernel
theorem d_Ve_giveNext_30 : decode m_Ve_giveNext.2.1 30 = .ok (.aload_n 0, 1) := by decide +kernel
theorem d_Ve_giveNext_31 : decode m_Ve_giveNext.2.1 31 = .ok (.iload_n 3, 1) := by decide +kernel
theorem d_Ve_giveNext_32 : decode m_Ve_giveNext.2.1 32 = .ok (.iload 4, 2) := by decide +kernel
theorem k_Ve_giveNext_150 : jl_cv m_Ve_giveNext m_Ve_act 150 2 = true := by decide +kernel
theorem d_Ve_giveNext_34 : decode m_Ve_giveNext.2.1 34 = .ok (.invokevirtual 150, 3) := by decide +kernel
theorem d_Ve_giveNext_37 : decode m_Ve_giveNext.2.1 37 = .ok (.aload_n 0, 1) := by decide +kernel
theorem f_Ve_giveNext_32 : jl_fd m_Ve_giveNext 32 4 1 = true := by decide +kernel
theorem d_Ve_giveNext_38 : decode m_Ve_giveNext.2.1 38 = .ok (.getfield 32, 3) := by decide +kernel
theorem d_Ve_giveNext_41 : decode m_Ve_giveNext.2.1 41 = .ok (.iload_n 3, 1) := by decide +kernel
theorem k_Ve_giveNext_154 : jl_cv m_Ve_giveNext m_Ck_jumps 154 1 = true := by decide +kernel
theorem d_Ve_giveNext_42 : decode m_Ve_giveNext.2.1 42 = .ok (.invokevirtual 154, 3) := by decide +kernel
theorem d_Ve_giveNext_45 : decode m_Ve_giveNext.2.1 45 = .ok (.ifCond .eq 15, 3) := by decide +kernel
theorem d_Ve_giveNext_60 : decode m_Ve_giveNext.2.1 60 = .ok (.aload_n 0, 1) := by decide +kernel
theorem d_Ve_giveNext_61 : decode m_Ve_giveNext.2.1 61 = .ok (.getfield 32, 3) := by decide +kernel
theorem d_Ve_giveNext_64 : decode m_Ve_giveNext.2.1 64 = .ok (.iload_n 3, 1) := by decide +kernel
theorem k_Ve_giveNext_157 : jl_cv m_Ve_giveNext m_Ck_goesOn 157 1 = true := by decide +kernel
theorem d_Ve_giveNext_65 : decode m_Ve_giveNext.2.1 65 = .ok (.invokevirtual 157, 3) := by decide +kernel
theorem d_Ve_giveNext_68 : decode m_Ve_giveNext.2.1 68 = .ok (.ifCond .eq 14, 3) := by decide +kernel
theorem d_Ve_giveNext_82 : decode m_Ve_giveNext.2.1 82 = .ok (.iconst 1, 1) := by decide +kernel
theorem d_Ve_giveNext_83 : decode m_Ve_giveNext.2.1 83 = .ok (.goto 4, 3) := by decide +kernel
theorem d_Ve_giveNext_87 : decode m_Ve_giveNext.2.1 87 = .ok (.ireturn, 1) := by decide +kernel
theorem d_Ve_giveNext_71 : decode m_Ve_giveNext.2.1 71 = .ok (.aload_n 0, 1) := by decide +kernel
theorem d_Ve_giveNext_72 : decode m_Ve_giveNext.2.1 72 = .ok (.aload_n 1, 1) := by decide +kernel
theorem d_Ve_giveNext_73 : decode m_Ve_giveNext.2.1 73 = .ok (.iload_n 2, 1) := by decide +kernel
theorem d_Ve_giveNext_74 : decode m_Ve_giveNext.2.1 74 = .ok (.iconst 1, 1) := by decide +kernel
theorem d_Ve_giveNext_75 : decode m_Ve_giveNext.2.1 75 = .ok (.iadd, 1) := by decide +kernel
theorem k_Ve_giveNext_121 : jl_cv m_Ve_giveNext m_Ve_meet 121 2 = true := by decide +kernel
theorem d_Ve_giveNext_76 : decode m_Ve_giveNext.2.1 76 = .ok (.invokevirtual 121, 3) := by decide +kernel
theorem d_Ve_giveNext_79 : decode m_Ve_giveNext.2.1 79 = .ok (.ifCond .eq 7, 3) := by decide +kernel
theorem d_Ve_giveNext_86 : decode m_Ve_giveNext.2.1 86 = .ok (.iconst 0, 1) := by decide +kernel
theorem d_Ve_giveNext_48 : decode m_Ve_giveNext.2.1 48 = .ok (.aload_n 0, 1) := by decide +kernel
theorem d_Ve_giveNext_49 : decode m_Ve_giveNext.2.1 49 = .ok (.aload_n 1, 1) := by decide +kernel
theorem d_Ve_giveNext_50 : decode m_Ve_giveNext.2.1 50 = .ok (.iload 4, 2) := by decide +kernel
theorem d_Ve_giveNext_52 : decode m_Ve_giveNext.2.1 52 = .ok (.invokevirtual 121, 3) := by decide +kernel
theorem d_Ve_giveNext_55 : decode m_Ve_giveNext.2.1 55 = .ok (.ifCond .ne 5, 3) := by decide +kernel
theorem d_Ve_giveNext_58 : decode m_Ve_giveNext.2.1 58 = .ok (.iconst 0, 1) := by decide +kernel
theorem d_Ve_giveNext_59 : decode m_Ve_giveNext.2.1 59 = .ok (.ireturn, 1) := by decide +kernel
theorem ve_next (hl : l.stackTraces = false) {P : jl_O → jl_S → Prop} {pc h o : Nat} {x : Int32} {r0 : Rw} {s : MF} (hvb : VB σ tb pr ow fi ft mt sg a q1 q2 rs op ag sz fr tt tg kd nc wr wz bf gv jn mp fh) (hok : WoOk tb pr ow fi) (hmt : MtOk mt) (ha : 54 ≤ a ∧ (a - 54) % 9 = 0) (hpc : pc < 24) (hsz : sz ≤ 24) (ho26 : o < 26) (ho : op pc = o) (hx : ag pc = x) (hb : rv bf h) (hbr : req bf r0) (hr0 : rv r0 h) (hfl : flt tb pr ow fi ft sg o x sz fr tt tg kd nc rs pc r0 h = 0) (hft : ∀ k f, tyv (some (fty pr fi ft k f))) (hsgv : ∀ x g, sg x = some g → tyv (some g.2.2)) (hgk : gok gv) (hA : MpC mp s.1) (hF : frp fh s.2) (hAV : AV s.1) (hT : ∀ s', nxtA pr o x pc (actR pr fi ft sg r0 o x r0 h) (h - tks sg o x + pts o) s = (true, s') → (∀ gv' jn' mp' fh' σ', gok gv' → MpC mp' s'.1 → frp fh' s'.2 → AV s'.1 → VB σ' tb pr ow fi ft mt sg a q1 q2 rs op ag sz fr tt tg kd nc wr wz bf gv' jn' mp' fh' → Fr a σ σ' → P (.inl (some (.int (nI 1)))) σ')) (hN : ∀ s', nxtA pr o x pc (actR pr fi ft sg r0 o x r0 h) (h - tks sg o x + pts o) s = (false, s') → (∀ gv' jn' mp' fh' σ', gok gv' → MpC mp' s'.1 → frp fh' s'.2 → AV s'.1 → VB σ' tb pr ow fi ft mt sg a q1 q2 rs op ag sz fr tt tg kd nc wr wz bf gv' jn' mp' fh' → Fr a σ σ' → P (.inl (some (.int (nI 0)))) σ')) : jl_mE l G m_Ve_giveNext [.ref 9, .ref a, .int (nI pc)] σ P := by
  obtain ⟨hw, hc, hsg, hm, hV, hB, hG, hJ⟩ := id hvb
  obtain ⟨hW, h2, h3, h4, h5, h6, h7⟩ := id hw
  obtain ⟨hM, g1, g2, g3, g4, g5, g6, g7, g8⟩ := id hm
  obtain ⟨hf4, hf5, hf1, htf0⟩ := flt0 hfl
  have htf := (flt0 ((flt_e hbr hb.2.1).trans hfl)).2.2.2
  have hf5o := f5o_f hf5
  have hf1b := f1_b hf1
  refine jl_ofE (as := [.ref 9, .ref a, .int (nI pc)]) rfl (by decide) hl (jl_cc rfl (jl_cc rfl (jl_cc rfl jl_ca))) (Nat.le_of_ble_eq_true rfl) ?_
  show jl_E l G m_Ve_giveNext (0, 0) 0 [some (.ref 9), some (.ref a), some (.int (nI pc)), none, none] [] (σ) P
  refine er_aload_n d_Ve_giveNext_0 rfl ?_
  refine er_getf d_Ve_giveNext_1 f_Ve_giveNext_144 hM rfl ?_
  refine er_iload_n d_Ve_giveNext_4 rfl ?_
  refine er_ialdQ (v := (nI (o))) d_Ve_giveNext_5 g1 (by omega) (by omega) (congrArg nI ho) ?_
  refine er_istore_n d_Ve_giveNext_6 (by decide) ?_
  show jl_E l G m_Ve_giveNext (0, 0) 7 [some (.ref 9), some (.ref a), some (.int (nI pc)), some (.int (nI o)), none] [] (σ) P
  refine er_aload_n d_Ve_giveNext_7 rfl ?_
  refine er_getf d_Ve_giveNext_8 f_Ve_giveNext_147 hM rfl ?_
  refine er_iload_n d_Ve_giveNext_11 rfl ?_
  refine er_ialdQ (v := (x)) d_Ve_giveNext_12 g2 (by omega) (by omega) (hx) ?_
  refine er_istore d_Ve_giveNext_13 (by decide) ?_
  show jl_E l G m_Ve_giveNext (0, 0) 15 [some (.ref 9), some (.ref a), some (.int (nI pc)), some (.int (nI o)), some (.int (x))] [] (σ) P
  refine er_aload_n d_Ve_giveNext_15 rfl ?_
  refine er_getf d_Ve_giveNext_16 f_Ve_giveNext_9 hV rfl ?_
  refine er_iconst ((nI (0))) d_Ve_giveNext_19 (by decide) ?_
  refine er_aload_n d_Ve_giveNext_20 rfl ?_
  refine er_getf d_Ve_giveNext_21 f_Ve_giveNext_15 hV rfl ?_
  refine er_iconst ((nI (0))) d_Ve_giveNext_24 (by decide) ?_
  refine er_bipush ((nI (12))) d_Ve_giveNext_25 (by decide) ?_
  refine er_copy d_Ve_giveNext_27 k_Ve_giveNext_ac82 hB hG (by omega) (by omega) (by decide) (by decide) (by decide) (by decide) ?_
  rw [show va_cpy (fun j => en (bf j)) (fun j => en (gv j)) (0) (0) (12) = (fun j => en ((va_cpy bf gv (0) (0) (12)) j)) from cpy_en]
  show jl_E l G m_Ve_giveNext (0, 0) 30 [some (.ref 9), some (.ref a), some (.int (nI pc)), some (.int (nI o)), some (.int (x))] [] (σ.set (11) (.inl (0, 12, .inl (fun j => en ((va_cpy bf gv (0) (0) (12)) j))))) P
  refine er_aload_n d_Ve_giveNext_30 rfl ?_
  refine er_iload_n d_Ve_giveNext_31 rfl ?_
  refine er_iload d_Ve_giveNext_32 rfl ?_
  have hv1 := hvb.s11 (gv' := (va_cpy bf gv (0) (0) (12))) hmt ha
  refine er_callV (As := [.int (nI o), .int (x)]) d_Ve_giveNext_34 k_Ve_giveNext_150 (jl_sn (by decide) hV) rfl rfl rfl (Nat.le_of_ble_eq_true rfl) (by decide) (by decide) (ve_act (gv := (va_cpy bf gv (0) (0) (12))) hl hv1.2.1 hv1.1 hok hv1.2.2.1 hmt hv1.2.2.2.2.1 hv1.2.2.2.2.2.1 hv1.2.2.2.2.2.2.1 ho26 hf5o hb.1 (rv_cpy hb hgk).1 hb.2.1 hf1b) ?_
  show jl_E l G m_Ve_giveNext (0, 0) 37 [some (.ref 9), some (.ref a), some (.int (nI pc)), some (.int (nI o)), some (.int (x))] [] ((σ.set (11) (.inl (0, 12, .inl (fun j => en ((va_cpy bf gv (0) (0) (12)) j))))).set (11) (.inl (0, 12, .inl (fun j => en ((actR pr fi ft sg bf o x (va_cpy bf gv (0) (0) (12)) h) j))))) P
  have hv2 := hv1.s11 (gv' := (actR pr fi ft sg bf o x (va_cpy bf gv (0) (0) (12)) h)) hmt ha
  have hrg : rv (actR pr fi ft sg bf o x (va_cpy bf gv (0) (0) (12)) h) (h - tks sg o x + pts o) := rv_act ho26 hb (rv_cpy hb hgk) hf5o hf1b htf hft hsgv
  have hrr0 : rv (actR pr fi ft sg r0 o x r0 h) (h - tks sg o x + pts o) := rv_act ho26 hr0 hr0 hf5o hf1b htf0 hft hsgv
  have hfr2 := ((Fr.refl (a := a) (σ := σ)).set (b := 11) (c := .inl (0, 12, .inl fun j => en ((va_cpy bf gv (0) (0) (12)) j))) (by omega)).set (b := 11) (c := .inl (0, 12, .inl fun j => en ((actR pr fi ft sg bf o x (va_cpy bf gv (0) (0) (12)) h) j))) (by omega)
  refine er_aload_n d_Ve_giveNext_37 rfl ?_
  refine er_getf d_Ve_giveNext_38 f_Ve_giveNext_32 (jl_sn (by decide) (jl_sn (by decide) hV)) rfl ?_
  refine er_iload_n d_Ve_giveNext_41 rfl ?_
  refine er_callV (As := [.int (nI o)]) d_Ve_giveNext_42 k_Ve_giveNext_154 (jl_sn (by decide) (jl_sn (by decide) hc)) rfl rfl rfl (Nat.le_of_ble_eq_true rfl) (by decide) (by decide) (ck_jumps hl hv2.2.1 ho26) ?_
  show jl_E l G m_Ve_giveNext (0, 0) 45 [some (.ref 9), some (.ref a), some (.int (nI pc)), some (.int (nI o)), some (.int (x))] [.int (bi (jmp o))] ((σ.set (11) (.inl (0, 12, .inl (fun j => en ((va_cpy bf gv (0) (0) (12)) j))))).set (11) (.inl (0, 12, .inl (fun j => en ((actR pr fi ft sg bf o x (va_cpy bf gv (0) (0) (12)) h) j))))) P
  refine er_if_eq 60 d_Ve_giveNext_45 (by decide) (fun c1 => ?_) (fun c1 => ?_)
  · refine er_aload_n d_Ve_giveNext_60 rfl ?_
    refine er_getf d_Ve_giveNext_61 f_Ve_giveNext_32 (jl_sn (by decide) (jl_sn (by decide) hV)) rfl ?_
    refine er_iload_n d_Ve_giveNext_64 rfl ?_
    refine er_callV (As := [.int (nI o)]) d_Ve_giveNext_65 k_Ve_giveNext_157 (jl_sn (by decide) (jl_sn (by decide) hc)) rfl rfl rfl (Nat.le_of_ble_eq_true rfl) (by decide) (by decide) (ck_goesOn hl hv2.2.1 ho26) ?_
    show jl_E l G m_Ve_giveNext (0, 0) 68 [some (.ref 9), some (.ref a), some (.int (nI pc)), some (.int (nI o)), some (.int (x))] [.int (bi (fal o))] ((σ.set (11) (.inl (0, 12, .inl (fun j => en ((va_cpy bf gv (0) (0) (12)) j))))).set (11) (.inl (0, 12, .inl (fun j => en ((actR pr fi ft sg bf o x (va_cpy bf gv (0) (0) (12)) h) j))))) P
    refine er_if_eq 82 d_Ve_giveNext_68 (by decide) (fun c2 => ?_) (fun c2 => ?_)
    · refine er_iconst ((nI (1))) d_Ve_giveNext_82 (by decide) ?_
      refine er_goto 87 d_Ve_giveNext_83 (by decide) ?_
      exact er_zret d_Ve_giveNext_87 rfl (by decide) (hT s (by rw [nx_a (bi_0.mp c1), if_neg (by rw [bi_0.mp c2]; decide)]) _ jn mp fh _ hrg.g hA hF hAV hv2 hfr2) (by decide) (by decide)
    · have hp1 := f4_p hf4 (bi_nf c2)
      refine er_aload_n d_Ve_giveNext_71 rfl ?_
      refine er_aload_n d_Ve_giveNext_72 rfl ?_
      refine er_iload_n d_Ve_giveNext_73 rfl ?_
      refine er_iconst ((nI (1))) d_Ve_giveNext_74 (by decide) ?_
      refine er_iaddN d_Ve_giveNext_75 ?_
      refine er_callVE (As := [.ref a, .int (nI ((pc) + (1)))]) d_Ve_giveNext_76 k_Ve_giveNext_121 (jl_sn (by decide) (jl_sn (by decide) hV)) rfl rfl rfl (Nat.le_of_ble_eq_true rfl) (by decide) (by decide) (ve_meetQ (s := s) (g := (actR pr fi ft sg r0 o x r0 h)) (h := (h - tks sg o x + pts o)) hl hv2 hok hmt ha (by omega) hA hAV hF hrg (actR_e2 hbr hb.2.1 hf5o (req_cpy.t hbr)) hrr0 (fun s2 jn mp fh σ e2 hA hF hAV hvb hfr1 => ⟨_, rfl, ?_⟩) (fun jn σ e2 hvb hfr1 => ⟨_, rfl, ?_⟩))
      · skip
        have hfr := hfr2.trans hfr1
        show jl_E l G m_Ve_giveNext (0, 0) 79 [some (.ref 9), some (.ref a), some (.int (nI pc)), some (.int (nI o)), some (.int (x))] [.int (nI 1)] (σ) P
        refine er_if_eq 86 d_Ve_giveNext_79 (by decide) (fun z => absurd z (by decide)) (fun _ => ?_)
        refine er_iconst ((nI (1))) d_Ve_giveNext_82 (by decide) ?_
        refine er_goto 87 d_Ve_giveNext_83 (by decide) ?_
        exact er_zret d_Ve_giveNext_87 rfl (by decide) (hT s2 (by rw [nx_a (bi_0.mp c1), if_pos (bi_nf c2), e2]; rfl) _ jn mp fh _ hrg.g hA hF hAV hvb hfr) (by decide) (by decide)
      · skip
        have hfr := hfr2.trans hfr1
        show jl_E l G m_Ve_giveNext (0, 0) 79 [some (.ref 9), some (.ref a), some (.int (nI pc)), some (.int (nI o)), some (.int (x))] [.int (nI 0)] (σ) P
        refine er_if_eq 86 d_Ve_giveNext_79 (by decide) (fun _ => ?_) (fun z => absurd (by decide) z)
        refine er_iconst ((nI (0))) d_Ve_giveNext_86 (by decide) ?_
        exact er_zret d_Ve_giveNext_87 rfl (by decide) (hN s (by rw [nx_a (bi_0.mp c1), if_pos (bi_nf c2), e2]; rfl) _ jn mp fh _ hrg.g hA hF hAV hvb hfr) (by decide) (by decide)
  · obtain ⟨n, hn, hxn⟩ := f4_x hf4 hsz (bi_nf c1)
    refine er_aload_n d_Ve_giveNext_48 rfl ?_
    refine er_aload_n d_Ve_giveNext_49 rfl ?_
    refine er_iload d_Ve_giveNext_50 rfl ?_
    refine er_oeq (congrArg Value.int hxn) ?_
    show jl_E l G m_Ve_giveNext (0, 0) 52 [some (.ref 9), some (.ref a), some (.int (nI pc)), some (.int (nI o)), some (.int (x))] [.int (nI n), .ref a, .ref 9] ((σ.set (11) (.inl (0, 12, .inl (fun j => en ((va_cpy bf gv (0) (0) (12)) j))))).set (11) (.inl (0, 12, .inl (fun j => en ((actR pr fi ft sg bf o x (va_cpy bf gv (0) (0) (12)) h) j))))) P
    refine er_callVE (As := [.ref a, .int (nI n)]) d_Ve_giveNext_52 k_Ve_giveNext_121 (jl_sn (by decide) (jl_sn (by decide) hV)) rfl rfl rfl (Nat.le_of_ble_eq_true rfl) (by decide) (by decide) (ve_meetQ (s := s) (g := (actR pr fi ft sg r0 o x r0 h)) (h := (h - tks sg o x + pts o)) hl hv2 hok hmt ha (by omega) hA hAV hF hrg (actR_e2 hbr hb.2.1 hf5o (req_cpy.t hbr)) hrr0 (fun s1 jn mp fh σ e1 hA hF hAV hvb hfr1 => ⟨_, rfl, ?_⟩) (fun jn σ e1 hvb hfr1 => ⟨_, rfl, ?_⟩))
    · skip
      have hfr := hfr2.trans hfr1
      obtain ⟨hw, hc, hsg, hm, hV, hB, hG, hJ⟩ := id hvb
      obtain ⟨hW, h2, h3, h4, h5, h6, h7⟩ := id hw
      obtain ⟨hM, g1, g2, g3, g4, g5, g6, g7, g8⟩ := id hm
      show jl_E l G m_Ve_giveNext (0, 0) 55 [some (.ref 9), some (.ref a), some (.int (nI pc)), some (.int (nI o)), some (.int (x))] [.int (nI 1)] (σ) P
      refine er_if_ne 60 d_Ve_giveNext_55 (by decide) (fun _ => ?_) (fun z => absurd z (by decide))
      refine er_aload_n d_Ve_giveNext_60 rfl ?_
      refine er_getf d_Ve_giveNext_61 f_Ve_giveNext_32 hV rfl ?_
      refine er_iload_n d_Ve_giveNext_64 rfl ?_
      refine er_callV (As := [.int (nI o)]) d_Ve_giveNext_65 k_Ve_giveNext_157 hc rfl rfl rfl (Nat.le_of_ble_eq_true rfl) (by decide) (by decide) (ck_goesOn hl hc ho26) ?_
      show jl_E l G m_Ve_giveNext (0, 0) 68 [some (.ref 9), some (.ref a), some (.int (nI pc)), some (.int (nI o)), some (.int (x))] [.int (bi (fal o))] (σ) P
      refine er_if_eq 82 d_Ve_giveNext_68 (by decide) (fun c3 => ?_) (fun c3 => ?_)
      · refine er_iconst ((nI (1))) d_Ve_giveNext_82 (by decide) ?_
        refine er_goto 87 d_Ve_giveNext_83 (by decide) ?_
        exact er_zret d_Ve_giveNext_87 rfl (by decide) (hT s1 (by rw [nx_b (bi_nf c1) hxn (by omega) e1, if_neg (by rw [bi_0.mp c3]; decide)]) _ jn mp fh _ hrg.g hA hF hAV hvb hfr) (by decide) (by decide)
      · have hp1 := f4_p hf4 (bi_nf c3)
        refine er_aload_n d_Ve_giveNext_71 rfl ?_
        refine er_aload_n d_Ve_giveNext_72 rfl ?_
        refine er_iload_n d_Ve_giveNext_73 rfl ?_
        refine er_iconst ((nI (1))) d_Ve_giveNext_74 (by decide) ?_
        refine er_iaddN d_Ve_giveNext_75 ?_
        refine er_callVE (As := [.ref a, .int (nI ((pc) + (1)))]) d_Ve_giveNext_76 k_Ve_giveNext_121 hV rfl rfl rfl (Nat.le_of_ble_eq_true rfl) (by decide) (by decide) (ve_meetQ (s := s1) (g := (actR pr fi ft sg r0 o x r0 h)) (h := (h - tks sg o x + pts o)) hl hvb hok hmt ha (by omega) hA hAV hF hrg (actR_e2 hbr hb.2.1 hf5o (req_cpy.t hbr)) hrr0 (fun s2 jn mp fh σ e2 hA hF hAV hvb hfr1 => ⟨_, rfl, ?_⟩) (fun jn σ e2 hvb hfr1 => ⟨_, rfl, ?_⟩))
        · skip
          have hfr := hfr.trans hfr1
          show jl_E l G m_Ve_giveNext (0, 0) 79 [some (.ref 9), some (.ref a), some (.int (nI pc)), some (.int (nI o)), some (.int (x))] [.int (nI 1)] (σ) P
          refine er_if_eq 86 d_Ve_giveNext_79 (by decide) (fun z => absurd z (by decide)) (fun _ => ?_)
          refine er_iconst ((nI (1))) d_Ve_giveNext_82 (by decide) ?_
          refine er_goto 87 d_Ve_giveNext_83 (by decide) ?_
          exact er_zret d_Ve_giveNext_87 rfl (by decide) (hT s2 (by rw [nx_b (bi_nf c1) hxn (by omega) e1, if_pos (bi_nf c3), e2]; rfl) _ jn mp fh _ hrg.g hA hF hAV hvb hfr) (by decide) (by decide)
        · skip
          have hfr := hfr.trans hfr1
          show jl_E l G m_Ve_giveNext (0, 0) 79 [some (.ref 9), some (.ref a), some (.int (nI pc)), some (.int (nI o)), some (.int (x))] [.int (nI 0)] (σ) P
          refine er_if_eq 86 d_Ve_giveNext_79 (by decide) (fun _ => ?_) (fun z => absurd (by decide) z)
          refine er_iconst ((nI (0))) d_Ve_giveNext_86 (by decide) ?_
          exact er_zret d_Ve_giveNext_87 rfl (by decide) (hN s1 (by rw [nx_b (bi_nf c1) hxn (by omega) e1, if_pos (bi_nf c3), e2]; rfl) _ jn mp fh _ hrg.g hA hF hAV hvb hfr) (by decide) (by decide)
    · skip
      have hfr := hfr2.trans hfr1
      show jl_E l G m_Ve_giveNext (0, 0) 55 [some (.ref 9), some (.ref a), some (.int (nI pc)), some (.int (nI o)), some (.int (x))] [.int (nI 0)] (σ) P
      refine er_if_ne 60 d_Ve_giveNext_55 (by decide) (fun z => absurd rfl z) (fun _ => ?_)
      refine er_iconst ((nI (0))) d_Ve_giveNext_58 (by decide) ?_
      exact er_zret d_Ve_giveNext_59 rfl (by decide) (hN s (nx_c (bi_nf c1) hxn (by omega) e1) _ jn mp fh _ hrg.g hA hF hAV hvb hfr) (by decide) (by decide)
end JVn
