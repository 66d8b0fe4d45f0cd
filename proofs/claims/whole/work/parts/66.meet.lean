/-! the class Verifier: meet (wip/gen/p66.py) -/
section JVm
variable {l : Launch} {G : jl_G} {σ : jl_S}
variable {tb : Nat → Bool} {pr : Nat → Option Nat} {ow fi ft : Nat → Nat} {mt : Nat → Option Nat}
variable {a : Nat} {q1 q2 : Option Nat} {rs : Nat} {op : Nat → Nat} {ag : Nat → Int32} {sz : Nat} {fr tt tg kd : Nat → Nat} {nc : Nat} {mp : Nat → Int32} {fh : Nat → Bool}
variable {wr wz : Int32} {bf gv jn : Nat → Option Nat} {sg : Int32 → Option Sg}
variable {A : Nat → Option Rw} {F : Nat → Bool}
theorem d_Ve_meet_0 : decode m_Ve_meet.2.1 0 = .ok (.iload_n 2, 1) := by decide +kernel
theorem d_Ve_meet_1 : decode m_Ve_meet.2.1 1 = .ok (.bipush 12, 2) := by decide +kernel
theorem d_Ve_meet_3 : decode m_Ve_meet.2.1 3 = .ok (.imul, 1) := by decide +kernel
theorem d_Ve_meet_4 : decode m_Ve_meet.2.1 4 = .ok (.istore_n 3, 1) := by decide +kernel
theorem d_Ve_meet_5 : decode m_Ve_meet.2.1 5 = .ok (.aload_n 1, 1) := by decide +kernel
theorem d_Ve_meet_6 : decode m_Ve_meet.2.1 6 = .ok (.iload_n 2, 1) := by decide +kernel
theorem k_Ve_meet_173 : jl_cv m_Ve_meet m_Me_hasMap 173 1 = true := by decide +kernel
theorem d_Ve_meet_7 : decode m_Ve_meet.2.1 7 = .ok (.invokevirtual 173, 3) := by decide +kernel
theorem d_Ve_meet_10 : decode m_Ve_meet.2.1 10 = .ok (.ifCond .ne 27, 3) := by decide +kernel
theorem d_Ve_meet_13 : decode m_Ve_meet.2.1 13 = .ok (.aload_n 0, 1) := by decide +kernel
theorem f_Ve_meet_15 : jl_fd m_Ve_meet 15 4 3 = true := by decide +kernel
theorem d_Ve_meet_14 : decode m_Ve_meet.2.1 14 = .ok (.getfield 15, 3) := by decide +kernel
theorem d_Ve_meet_17 : decode m_Ve_meet.2.1 17 = .ok (.iconst 0, 1) := by decide +kernel
theorem d_Ve_meet_18 : decode m_Ve_meet.2.1 18 = .ok (.aload_n 1, 1) := by decide +kernel
theorem f_Ve_meet_79 : jl_fd m_Ve_meet 79 2 11 = true := by decide +kernel
theorem d_Ve_meet_19 : decode m_Ve_meet.2.1 19 = .ok (.getfield 79, 3) := by decide +kernel
theorem d_Ve_meet_22 : decode m_Ve_meet.2.1 22 = .ok (.iload_n 3, 1) := by decide +kernel
theorem d_Ve_meet_23 : decode m_Ve_meet.2.1 23 = .ok (.bipush 12, 2) := by decide +kernel
theorem k_Ve_meet_ac82 : Cond.methodLink m_Ve_meet.1.cls 82 arraycopyName ∈ jl_gw := by decide +kernel
theorem d_Ve_meet_25 : decode m_Ve_meet.2.1 25 = .ok (.invokestatic 82, 3) := by decide +kernel
theorem d_Ve_meet_28 : decode m_Ve_meet.2.1 28 = .ok (.aload_n 1, 1) := by decide +kernel
theorem f_Ve_meet_75 : jl_fd m_Ve_meet 75 2 12 = true := by decide +kernel
theorem d_Ve_meet_29 : decode m_Ve_meet.2.1 29 = .ok (.getfield 75, 3) := by decide +kernel
theorem d_Ve_meet_32 : decode m_Ve_meet.2.1 32 = .ok (.iload_n 2, 1) := by decide +kernel
theorem d_Ve_meet_33 : decode m_Ve_meet.2.1 33 = .ok (.iconst 1, 1) := by decide +kernel
theorem d_Ve_meet_34 : decode m_Ve_meet.2.1 34 = .ok (.bastore, 1) := by decide +kernel
theorem d_Ve_meet_35 : decode m_Ve_meet.2.1 35 = .ok (.iconst 1, 1) := by decide +kernel
theorem d_Ve_meet_36 : decode m_Ve_meet.2.1 36 = .ok (.ireturn, 1) := by decide +kernel
theorem ve_meet_n (hl : l.stackTraces = false) {P : jl_O → jl_S → Prop} {pc h : Nat} (hvb : VB σ tb pr ow fi ft mt sg a q1 q2 rs op ag sz fr tt tg kd nc wr wz bf gv jn mp fh) (hok : WoOk tb pr ow fi) (hmt : MtOk mt) (ha : 54 ≤ a ∧ (a - 54) % 9 = 0) (hpc : pc < 24) (hA : MpC mp A) (hAV : AV A) (hF : frp fh F) (hg : rv gv h) (hAn : A pc = none) (hT : ∀ s' jn' mp' fh' σ', meetA pr (A, F) pc gv h = some s' → MpC mp' s'.1 → frp fh' s'.2 → VB σ' tb pr ow fi ft mt sg a q1 q2 rs op ag sz fr tt tg kd nc wr wz bf gv jn' mp' fh' → Fr a σ σ' → P (.inl (some (.int (nI 1)))) σ') (hN : ∀ jn' σ', meetA pr (A, F) pc gv h = none → VB σ' tb pr ow fi ft mt sg a q1 q2 rs op ag sz fr tt tg kd nc wr wz bf gv jn' mp fh → Fr a σ σ' → P (.inl (some (.int (nI 0)))) σ') : jl_mE l G m_Ve_meet [.ref 9, .ref a, .int (nI pc)] σ P := by
  obtain ⟨hw, hc, hsg, hm, hV, hB, hG, hJ⟩ := id hvb
  obtain ⟨hW, h2, h3, h4, h5, h6, h7⟩ := id hw
  obtain ⟨hM, g1, g2, g3, g4, g5, g6, g7, g8⟩ := id hm
  refine jl_ofE (as := [.ref 9, .ref a, .int (nI pc)]) rfl (by decide) hl (jl_cc rfl (jl_cc rfl (jl_cc rfl jl_ca))) (Nat.le_of_ble_eq_true rfl) ?_
  show jl_E l G m_Ve_meet (0, 0) 0 [some (.ref 9), some (.ref a), some (.int (nI pc)), none, none, none] [] (σ) P
  refine er_iload_n d_Ve_meet_0 rfl ?_
  refine er_bipush ((nI (12))) d_Ve_meet_1 (by decide) ?_
  refine er_imulN d_Ve_meet_3 ?_
  refine er_istore_n d_Ve_meet_4 (by decide) ?_
  show jl_E l G m_Ve_meet (0, 0) 5 [some (.ref 9), some (.ref a), some (.int (nI pc)), some (.int (nI ((pc) * (12)))), none, none] [] (σ) P
  refine er_aload_n d_Ve_meet_5 rfl ?_
  refine er_iload_n d_Ve_meet_6 rfl ?_
  refine er_callV (As := [.int (nI pc)]) d_Ve_meet_7 k_Ve_meet_173 hM rfl rfl rfl (Nat.le_of_ble_eq_true rfl) (by decide) (by decide) (jl_meq (o' := .inl (some (.int (nI 0)))) (by rw [decide_eq_false (fun z => z (hA.n hpc hAn))]; rfl) (me_hasMap hl hm hpc)) ?_
  show jl_E l G m_Ve_meet (0, 0) 10 [some (.ref 9), some (.ref a), some (.int (nI pc)), some (.int (nI ((pc) * (12)))), none, none] [.int (nI 0)] (σ) P
  refine er_if_ne 37 d_Ve_meet_10 (by decide) (fun z => absurd rfl z) (fun _ => ?_)
  refine er_aload_n d_Ve_meet_13 rfl ?_
  refine er_getf d_Ve_meet_14 f_Ve_meet_15 hV rfl ?_
  refine er_iconst ((nI (0))) d_Ve_meet_17 (by decide) ?_
  refine er_aload_n d_Ve_meet_18 rfl ?_
  refine er_getf d_Ve_meet_19 f_Ve_meet_79 hM rfl ?_
  refine er_iload_n d_Ve_meet_22 rfl ?_
  refine er_bipush ((nI (12))) d_Ve_meet_23 (by decide) ?_
  refine er_copy d_Ve_meet_25 k_Ve_meet_ac82 hG g7 (by omega) (by omega) (by decide) (by decide) (by decide) (by decide) ?_
  show jl_E l G m_Ve_meet (0, 0) 28 [some (.ref 9), some (.ref a), some (.int (nI pc)), some (.int (nI ((pc) * (12)))), none, none] [] (σ.set (a + 7) (.inl (0, 288, .inl (va_cpy (fun j => en (gv j)) (mp) (0) ((pc) * (12)) (12))))) P
  refine er_aload_n d_Ve_meet_28 rfl ?_
  refine er_getf d_Ve_meet_29 f_Ve_meet_75 (jl_sn (by omega) hM) rfl ?_
  refine er_iload_n d_Ve_meet_32 rfl ?_
  refine er_iconst ((nI (1))) d_Ve_meet_33 (by decide) ?_
  refine er_bastN d_Ve_meet_34 (jl_sn (by omega) g8) (by omega) (by omega) (by decide) ?_
  rw [show upd (fun j => bi (fh j)) (pc) ((nI (1))) = (fun j => bi ((va_up fh (pc) (true)) j)) from bi_up fh (pc) (true)]
  show jl_E l G m_Ve_meet (0, 0) 35 [some (.ref 9), some (.ref a), some (.int (nI pc)), some (.int (nI ((pc) * (12)))), none, none] [] ((σ.set (a + 7) (.inl (0, 288, .inl (va_cpy (fun j => en (gv j)) (mp) (0) ((pc) * (12)) (12))))).set (a + 8) (.inl (1, 24, .inl (fun j => bi ((va_up fh (pc) (true)) j))))) P
  refine er_iconst ((nI (1))) d_Ve_meet_35 (by decide) ?_
  exact er_zret d_Ve_meet_36 rfl (by decide) (hT (va_up A pc (some gv), va_up F pc true) jn _ _ _ (by unfold meetA; simp only [hAn]) (hA.up hpc (fun i _ => rfl)) (hF.up pc true) ((hvb.s7 hmt ha).s8 hmt ha) ((Fr.refl.set (by omega)).set (by omega))) (by decide) (by decide)
theorem join6 {pr : Nat → Option Nat} (hok : ∀ j, ob 6 (pr j)) {h : Nat} (hh : h ≤ 5) : ob 16 (join pr (some h) (some h)) := by
  unfold join part
  rw [if_pos rfl, if_pos rfl]
  exact ob_s (by omega)
theorem d_Ve_meet_79 : decode m_Ve_meet.2.1 79 = .ok (.iload 5, 2) := by decide +kernel
theorem d_Ve_meet_81 : decode m_Ve_meet.2.1 81 = .ok (.bipush 7, 2) := by decide +kernel
theorem d_Ve_meet_83 : decode m_Ve_meet.2.1 83 = .ok (.aload_n 0, 1) := by decide +kernel
theorem d_Ve_meet_84 : decode m_Ve_meet.2.1 84 = .ok (.getfield 15, 3) := by decide +kernel
theorem d_Ve_meet_87 : decode m_Ve_meet.2.1 87 = .ok (.bipush 6, 2) := by decide +kernel
theorem d_Ve_meet_89 : decode m_Ve_meet.2.1 89 = .ok (.iaload, 1) := by decide +kernel
theorem d_Ve_meet_90 : decode m_Ve_meet.2.1 90 = .ok (.iadd, 1) := by decide +kernel
theorem d_Ve_meet_91 : decode m_Ve_meet.2.1 91 = .ok (.if_icmp .ge 97, 3) := by decide +kernel
theorem d_Ve_meet_188 : decode m_Ve_meet.2.1 188 = .ok (.iload 4, 2) := by decide +kernel
theorem d_Ve_meet_190 : decode m_Ve_meet.2.1 190 = .ok (.ifCond .eq 25, 3) := by decide +kernel
theorem d_Ve_meet_215 : decode m_Ve_meet.2.1 215 = .ok (.iconst 1, 1) := by decide +kernel
theorem d_Ve_meet_216 : decode m_Ve_meet.2.1 216 = .ok (.ireturn, 1) := by decide +kernel
theorem d_Ve_meet_193 : decode m_Ve_meet.2.1 193 = .ok (.aload_n 0, 1) := by decide +kernel
theorem f_Ve_meet_18 : jl_fd m_Ve_meet 18 4 4 = true := by decide +kernel
theorem d_Ve_meet_194 : decode m_Ve_meet.2.1 194 = .ok (.getfield 18, 3) := by decide +kernel
theorem d_Ve_meet_197 : decode m_Ve_meet.2.1 197 = .ok (.iconst 0, 1) := by decide +kernel
theorem d_Ve_meet_198 : decode m_Ve_meet.2.1 198 = .ok (.aload_n 1, 1) := by decide +kernel
theorem d_Ve_meet_199 : decode m_Ve_meet.2.1 199 = .ok (.getfield 79, 3) := by decide +kernel
theorem d_Ve_meet_202 : decode m_Ve_meet.2.1 202 = .ok (.iload_n 3, 1) := by decide +kernel
theorem d_Ve_meet_203 : decode m_Ve_meet.2.1 203 = .ok (.bipush 12, 2) := by decide +kernel
theorem d_Ve_meet_205 : decode m_Ve_meet.2.1 205 = .ok (.invokestatic 82, 3) := by decide +kernel
theorem d_Ve_meet_208 : decode m_Ve_meet.2.1 208 = .ok (.aload_n 1, 1) := by decide +kernel
theorem d_Ve_meet_209 : decode m_Ve_meet.2.1 209 = .ok (.getfield 75, 3) := by decide +kernel
theorem d_Ve_meet_212 : decode m_Ve_meet.2.1 212 = .ok (.iload_n 2, 1) := by decide +kernel
theorem d_Ve_meet_213 : decode m_Ve_meet.2.1 213 = .ok (.iconst 1, 1) := by decide +kernel
theorem d_Ve_meet_214 : decode m_Ve_meet.2.1 214 = .ok (.bastore, 1) := by decide +kernel
theorem d_Ve_meet_94 : decode m_Ve_meet.2.1 94 = .ok (.iload 5, 2) := by decide +kernel
theorem d_Ve_meet_96 : decode m_Ve_meet.2.1 96 = .ok (.bipush 6, 2) := by decide +kernel
theorem d_Ve_meet_98 : decode m_Ve_meet.2.1 98 = .ok (.if_icmp .eq 84, 3) := by decide +kernel
theorem d_Ve_meet_182 : decode m_Ve_meet.2.1 182 = .ok (.iinc 5 1, 3) := by decide +kernel
theorem d_Ve_meet_185 : decode m_Ve_meet.2.1 185 = .ok (.goto (-106), 3) := by decide +kernel
theorem d_Ve_meet_101 : decode m_Ve_meet.2.1 101 = .ok (.aload_n 0, 1) := by decide +kernel
theorem d_Ve_meet_102 : decode m_Ve_meet.2.1 102 = .ok (.getfield 18, 3) := by decide +kernel
theorem d_Ve_meet_105 : decode m_Ve_meet.2.1 105 = .ok (.iload 5, 2) := by decide +kernel
theorem d_Ve_meet_107 : decode m_Ve_meet.2.1 107 = .ok (.aload_n 0, 1) := by decide +kernel
theorem f_Ve_meet_28 : jl_fd m_Ve_meet 28 4 0 = true := by decide +kernel
theorem d_Ve_meet_108 : decode m_Ve_meet.2.1 108 = .ok (.getfield 28, 3) := by decide +kernel
theorem d_Ve_meet_111 : decode m_Ve_meet.2.1 111 = .ok (.aload_n 1, 1) := by decide +kernel
theorem d_Ve_meet_112 : decode m_Ve_meet.2.1 112 = .ok (.getfield 79, 3) := by decide +kernel
theorem d_Ve_meet_115 : decode m_Ve_meet.2.1 115 = .ok (.iload_n 3, 1) := by decide +kernel
theorem d_Ve_meet_116 : decode m_Ve_meet.2.1 116 = .ok (.iload 5, 2) := by decide +kernel
theorem d_Ve_meet_118 : decode m_Ve_meet.2.1 118 = .ok (.iadd, 1) := by decide +kernel
theorem d_Ve_meet_119 : decode m_Ve_meet.2.1 119 = .ok (.iaload, 1) := by decide +kernel
theorem d_Ve_meet_120 : decode m_Ve_meet.2.1 120 = .ok (.aload_n 0, 1) := by decide +kernel
theorem d_Ve_meet_121 : decode m_Ve_meet.2.1 121 = .ok (.getfield 15, 3) := by decide +kernel
theorem d_Ve_meet_124 : decode m_Ve_meet.2.1 124 = .ok (.iload 5, 2) := by decide +kernel
theorem d_Ve_meet_126 : decode m_Ve_meet.2.1 126 = .ok (.iaload, 1) := by decide +kernel
theorem k_Ve_meet_176 : jl_cv m_Ve_meet m_Wo_join 176 2 = true := by decide +kernel
theorem d_Ve_meet_127 : decode m_Ve_meet.2.1 127 = .ok (.invokevirtual 176, 3) := by decide +kernel
theorem d_Ve_meet_130 : decode m_Ve_meet.2.1 130 = .ok (.iastore, 1) := by decide +kernel
theorem d_Ve_meet_131 : decode m_Ve_meet.2.1 131 = .ok (.iload 5, 2) := by decide +kernel
theorem d_Ve_meet_133 : decode m_Ve_meet.2.1 133 = .ok (.bipush 7, 2) := by decide +kernel
theorem d_Ve_meet_135 : decode m_Ve_meet.2.1 135 = .ok (.if_icmp .lt 16, 3) := by decide +kernel
theorem d_Ve_meet_151 : decode m_Ve_meet.2.1 151 = .ok (.iload 4, 2) := by decide +kernel
theorem d_Ve_meet_153 : decode m_Ve_meet.2.1 153 = .ok (.ifCond .ne 22, 3) := by decide +kernel
theorem d_Ve_meet_175 : decode m_Ve_meet.2.1 175 = .ok (.iconst 1, 1) := by decide +kernel
theorem d_Ve_meet_176 : decode m_Ve_meet.2.1 176 = .ok (.goto 4, 3) := by decide +kernel
theorem d_Ve_meet_180 : decode m_Ve_meet.2.1 180 = .ok (.istore 4, 2) := by decide +kernel
theorem d_Ve_meet_156 : decode m_Ve_meet.2.1 156 = .ok (.aload_n 0, 1) := by decide +kernel
theorem d_Ve_meet_157 : decode m_Ve_meet.2.1 157 = .ok (.getfield 18, 3) := by decide +kernel
theorem d_Ve_meet_160 : decode m_Ve_meet.2.1 160 = .ok (.iload 5, 2) := by decide +kernel
theorem d_Ve_meet_162 : decode m_Ve_meet.2.1 162 = .ok (.iaload, 1) := by decide +kernel
theorem d_Ve_meet_163 : decode m_Ve_meet.2.1 163 = .ok (.aload_n 1, 1) := by decide +kernel
theorem d_Ve_meet_164 : decode m_Ve_meet.2.1 164 = .ok (.getfield 79, 3) := by decide +kernel
theorem d_Ve_meet_167 : decode m_Ve_meet.2.1 167 = .ok (.iload_n 3, 1) := by decide +kernel
theorem d_Ve_meet_168 : decode m_Ve_meet.2.1 168 = .ok (.iload 5, 2) := by decide +kernel
theorem d_Ve_meet_170 : decode m_Ve_meet.2.1 170 = .ok (.iadd, 1) := by decide +kernel
theorem d_Ve_meet_171 : decode m_Ve_meet.2.1 171 = .ok (.iaload, 1) := by decide +kernel
theorem d_Ve_meet_172 : decode m_Ve_meet.2.1 172 = .ok (.if_icmp .eq 7, 3) := by decide +kernel
theorem d_Ve_meet_179 : decode m_Ve_meet.2.1 179 = .ok (.iconst 0, 1) := by decide +kernel
theorem d_Ve_meet_138 : decode m_Ve_meet.2.1 138 = .ok (.aload_n 0, 1) := by decide +kernel
theorem d_Ve_meet_139 : decode m_Ve_meet.2.1 139 = .ok (.getfield 18, 3) := by decide +kernel
theorem d_Ve_meet_142 : decode m_Ve_meet.2.1 142 = .ok (.iload 5, 2) := by decide +kernel
theorem d_Ve_meet_144 : decode m_Ve_meet.2.1 144 = .ok (.iaload, 1) := by decide +kernel
theorem d_Ve_meet_145 : decode m_Ve_meet.2.1 145 = .ok (.iconst (-1), 1) := by decide +kernel
theorem d_Ve_meet_146 : decode m_Ve_meet.2.1 146 = .ok (.if_icmp .ne 5, 3) := by decide +kernel
theorem d_Ve_meet_149 : decode m_Ve_meet.2.1 149 = .ok (.iconst 0, 1) := by decide +kernel
theorem d_Ve_meet_150 : decode m_Ve_meet.2.1 150 = .ok (.ireturn, 1) := by decide +kernel
theorem ve_meet_l (hl : l.stackTraces = false) {P : jl_O → jl_S → Prop} {pc h : Nat} {r : Rw} {σ0 : jl_S}  (hok : WoOk tb pr ow fi) (hmt : MtOk mt) (ha : 54 ≤ a ∧ (a - 54) % 9 = 0) (hpc : pc < 24) (hA : MpC mp A) (hF : frp fh F) (hg : rv gv h) (hAs : A pc = some r) (hrv : rv r h) (hT : ∀ s' jn' mp' fh' σ', meetA pr (A, F) pc gv h = some s' → MpC mp' s'.1 → frp fh' s'.2 → VB σ' tb pr ow fi ft mt sg a q1 q2 rs op ag sz fr tt tg kd nc wr wz bf gv jn' mp' fh' → Fr a σ0 σ' → P (.inl (some (.int (nI 1)))) σ') (hN : ∀ jn' σ', meetA pr (A, F) pc gv h = none → VB σ' tb pr ow fi ft mt sg a q1 q2 rs op ag sz fr tt tg kd nc wr wz bf gv jn' mp fh → Fr a σ0 σ' → P (.inl (some (.int (nI 0)))) σ') : ∀ (nn : Nat) (i : Nat) (σ : jl_S) (jn : Rw) (ch : Bool), 7 + h - i < nn → i ≤ 7 + h → VB σ tb pr ow fi ft mt sg a q1 q2 rs op ag sz fr tt tg kd nc wr wz bf gv jn mp fh → Fr a σ0 σ → MI pr r gv i jn ch → jl_E l G m_Ve_meet (0, 0) 79 [some (.ref 9), some (.ref a), some (.int (nI pc)), some (.int (nI (pc * 12))), some (.int (bi ch)), some (.int (nI i))] [] σ P := by
  intro nn
  induction nn with
  | zero => intro i σ jn ch hnn; exact absurd hnn (Nat.not_lt_zero _)
  | succ nn ihn =>
    intro i σ jn ch hnn hi hvb hfr hI
    obtain ⟨hw, hc, hsg, hm, hV, hB, hG, hJ⟩ := id hvb
    obtain ⟨hW, h2, h3, h4, h5, h6, h7⟩ := id hw
    obtain ⟨hM, g1, g2, g3, g4, g5, g6, g7, g8⟩ := id hm
    have hrr := hA.s hpc hAs
    have hh5 := hrv.2.1
    refine er_iload d_Ve_meet_79 rfl ?_
    refine er_bipush ((nI (7))) d_Ve_meet_81 (by decide) ?_
    refine er_aload_n d_Ve_meet_83 rfl ?_
    refine er_getf d_Ve_meet_84 f_Ve_meet_15 hV rfl ?_
    refine er_bipush ((nI (6))) d_Ve_meet_87 (by decide) ?_
    refine er_ialdQ (v := (nI (h))) d_Ve_meet_89 hG (by omega) (by omega) (congrArg en hg.1) ?_
    refine er_iaddN d_Ve_meet_90 ?_
    refine er_icmp_geN 188 d_Ve_meet_91 (by decide) (by omega) (by omega) (fun c1 => ?_) (fun c1 => ?_)
    · refine er_iload d_Ve_meet_188 rfl ?_
      refine er_if_eq 215 d_Ve_meet_190 (by decide) (fun c2 => ?_) (fun c2 => ?_)
      · refine er_iconst ((nI (1))) d_Ve_meet_215 (by decide) ?_
        exact er_zret d_Ve_meet_216 rfl (by decide) (by have hch : ch = false := bi_0.mp c2; subst hch; exact hT (va_up A pc (some (jrow pr r gv h)), F) jn mp fh σ (by unfold meetA; simp only [hAs]; rw [if_pos hrv.1, hI.ok (by omega), hI.chg (by omega)]; rfl) (hA.same hpc (fun q hq => (hrr q hq).trans (congrArg en (hI.same (by omega) hrv q hq)))) hF hvb hfr) (by decide) (by decide)
      · refine er_aload_n d_Ve_meet_193 rfl ?_
        refine er_getf d_Ve_meet_194 f_Ve_meet_18 hV rfl ?_
        refine er_iconst ((nI (0))) d_Ve_meet_197 (by decide) ?_
        refine er_aload_n d_Ve_meet_198 rfl ?_
        refine er_getf d_Ve_meet_199 f_Ve_meet_79 hM rfl ?_
        refine er_iload_n d_Ve_meet_202 rfl ?_
        refine er_bipush ((nI (12))) d_Ve_meet_203 (by decide) ?_
        refine er_copy d_Ve_meet_205 k_Ve_meet_ac82 hJ g7 (by omega) (by omega) (by decide) (by decide) (by decide) (by decide) ?_
        show jl_E l G m_Ve_meet (0, 0) 208 [some (.ref 9), some (.ref a), some (.int (nI pc)), some (.int (nI (pc * 12))), some (.int (bi ch)), some (.int (nI i))] [] (σ.set (a + 7) (.inl (0, 288, .inl (va_cpy (fun j => en (jn j)) (mp) (0) (pc * 12) (12))))) P
        refine er_aload_n d_Ve_meet_208 rfl ?_
        refine er_getf d_Ve_meet_209 f_Ve_meet_75 (jl_sn (by omega) hM) rfl ?_
        refine er_iload_n d_Ve_meet_212 rfl ?_
        refine er_iconst ((nI (1))) d_Ve_meet_213 (by decide) ?_
        refine er_bastN d_Ve_meet_214 (jl_sn (by omega) g8) (by omega) (by omega) (by decide) ?_
        rw [show upd (fun j => bi (fh j)) (pc) ((nI (1))) = (fun j => bi ((va_up fh (pc) (true)) j)) from bi_up fh (pc) (true)]
        show jl_E l G m_Ve_meet (0, 0) 215 [some (.ref 9), some (.ref a), some (.int (nI pc)), some (.int (nI (pc * 12))), some (.int (bi ch)), some (.int (nI i))] [] ((σ.set (a + 7) (.inl (0, 288, .inl (va_cpy (fun j => en (jn j)) (mp) (0) (pc * 12) (12))))).set (a + 8) (.inl (1, 24, .inl (fun j => bi ((va_up fh (pc) (true)) j))))) P
        refine er_iconst ((nI (1))) d_Ve_meet_215 (by decide) ?_
        exact er_zret d_Ve_meet_216 rfl (by decide) (by have hch : ch = true := bi_nf c2; subst hch; exact hT (va_up A pc (some (jrow pr r gv h)), va_up F pc true) jn _ _ _ (by unfold meetA; simp only [hAs]; rw [if_pos hrv.1, hI.ok (by omega), hI.chg (by omega)]; rfl) (hA.up hpc (fun q hq => congrArg en (hI.row (by omega) hg q hq))) (hF.up pc true) ((hvb.s7 hmt ha).s8 hmt ha) ((hfr.set (by omega)).set (by omega))) (by decide) (by decide)
    · refine er_iload d_Ve_meet_94 rfl ?_
      refine er_bipush ((nI (6))) d_Ve_meet_96 (by decide) ?_
      refine er_icmp_eqN 182 d_Ve_meet_98 (by decide) (by omega) (by omega) (fun c3 => ?_) (fun c3 => ?_)
      · refine er_iinc ((nI (i + 1))) d_Ve_meet_182 (by decide) rfl (jl_inc _) ?_
        show jl_E l G m_Ve_meet (0, 0) 185 [some (.ref 9), some (.ref a), some (.int (nI pc)), some (.int (nI (pc * 12))), some (.int (bi ch)), some (.int (nI (i + 1)))] [] (σ) P
        refine er_goto 79 d_Ve_meet_185 (by decide) ?_
        exact ihn (i + 1) σ jn ch (by omega) (by omega) hvb hfr (hI.k (by omega))
      · have hob : ob 16 (join pr (r i) (gv i)) := by
          by_cases e6 : i = 6
          · subst e6; rw [hrv.1, hg.1]; exact join6 hok.1 hrv.2.1
          · exact (join_tyv hok.1 (hrv.2.2.1 i e6) (hg.2.2.1 i e6)).ob
        refine er_aload_n d_Ve_meet_101 rfl ?_
        refine er_getf d_Ve_meet_102 f_Ve_meet_18 hV rfl ?_
        refine er_iload d_Ve_meet_105 rfl ?_
        refine er_aload_n d_Ve_meet_107 rfl ?_
        refine er_getf d_Ve_meet_108 f_Ve_meet_28 hV rfl ?_
        refine er_aload_n d_Ve_meet_111 rfl ?_
        refine er_getf d_Ve_meet_112 f_Ve_meet_79 hM rfl ?_
        refine er_iload_n d_Ve_meet_115 rfl ?_
        refine er_iload d_Ve_meet_116 rfl ?_
        refine er_iaddN d_Ve_meet_118 ?_
        refine er_ialdQ (v := (en (r (i)))) d_Ve_meet_119 g7 (by omega) (by omega) (hrr i (by omega)) ?_
        refine er_aload_n d_Ve_meet_120 rfl ?_
        refine er_getf d_Ve_meet_121 f_Ve_meet_15 hV rfl ?_
        refine er_iload d_Ve_meet_124 rfl ?_
        refine er_ialdN d_Ve_meet_126 hG (by omega) (by omega) ?_
        refine er_callV (As := [.int (en (r (i))), .int (en (gv (i)))]) d_Ve_meet_127 k_Ve_meet_176 hW rfl rfl rfl (Nat.le_of_ble_eq_true rfl) (by decide) (by decide) (wo_join hl hw hok.1 (hrv.ob i) (hg.ob i)) ?_
        show jl_E l G m_Ve_meet (0, 0) 130 [some (.ref 9), some (.ref a), some (.int (nI pc)), some (.int (nI (pc * 12))), some (.int (bi ch)), some (.int (nI i))] [.int (en (join pr (r (i)) (gv (i)))), .int (nI i), .ref 12] (σ) P
        refine er_iastN d_Ve_meet_130 hJ (by omega) (by omega) ?_
        rw [show upd (fun j => en (jn j)) (i) ((en (join pr (r (i)) (gv (i))))) = (fun j => en ((va_up jn (i) ((join pr (r (i)) (gv (i))))) j)) from en_up jn (i) ((join pr (r (i)) (gv (i))))]
        show jl_E l G m_Ve_meet (0, 0) 131 [some (.ref 9), some (.ref a), some (.int (nI pc)), some (.int (nI (pc * 12))), some (.int (bi ch)), some (.int (nI i))] [] (σ.set (12) (.inl (0, 12, .inl (fun j => en ((va_up jn (i) ((join pr (r (i)) (gv (i))))) j))))) P
        refine er_iload d_Ve_meet_131 rfl ?_
        refine er_bipush ((nI (7))) d_Ve_meet_133 (by decide) ?_
        refine er_icmp_ltN 151 d_Ve_meet_135 (by decide) (by omega) (by omega) (fun c4 => ?_) (fun c4 => ?_)
        · try (have hj1 := c4)
          refine er_iload d_Ve_meet_151 rfl ?_
          refine er_if_ne 175 d_Ve_meet_153 (by decide) (fun c5 => ?_) (fun c5 => ?_)
          · try (have hj2 := c5)
            refine er_iconst ((nI (1))) d_Ve_meet_175 (by decide) ?_
            refine er_goto 180 d_Ve_meet_176 (by decide) ?_
            refine er_istore d_Ve_meet_180 (by decide) ?_
            show jl_E l G m_Ve_meet (0, 0) 182 [some (.ref 9), some (.ref a), some (.int (nI pc)), some (.int (nI (pc * 12))), some (.int (nI 1)), some (.int (nI i))] [] (σ.set (12) (.inl (0, 12, .inl (fun j => en ((va_up jn (i) ((join pr (r (i)) (gv (i))))) j))))) P
            refine er_iinc ((nI (i + 1))) d_Ve_meet_182 (by decide) rfl (jl_inc _) ?_
            show jl_E l G m_Ve_meet (0, 0) 185 [some (.ref 9), some (.ref a), some (.int (nI pc)), some (.int (nI (pc * 12))), some (.int (nI 1)), some (.int (nI (i + 1)))] [] (σ.set (12) (.inl (0, 12, .inl (fun j => en ((va_up jn (i) ((join pr (r (i)) (gv (i))))) j))))) P
            refine er_goto 79 d_Ve_meet_185 (by decide) ?_
            exact ihn (i + 1) _ _ true (by omega) (by omega) (hvb.s12 hmt ha) (hfr.set (by omega)) (hI.t (by omega) (fun h7 => by first | omega | exact fun z => hj1 ((en_m1 hob).mpr z)) (by first | exact Or.inl (bi_nf ‹_›) | exact Or.inr (fun z => hj2 ((en_i hob (hrv.ob i)).mpr z))))
          · refine er_aload_n d_Ve_meet_156 rfl ?_
            refine er_getf d_Ve_meet_157 f_Ve_meet_18 (jl_sn (by decide) hV) rfl ?_
            refine er_iload d_Ve_meet_160 rfl ?_
            refine er_ialdQ (v := (en (join pr (r (i)) (gv (i))))) d_Ve_meet_162 (jl_ss hJ) (by omega) (by omega) (congrArg en (if_pos rfl)) ?_
            refine er_aload_n d_Ve_meet_163 rfl ?_
            refine er_getf d_Ve_meet_164 f_Ve_meet_79 (jl_sn (by omega) hM) rfl ?_
            refine er_iload_n d_Ve_meet_167 rfl ?_
            refine er_iload d_Ve_meet_168 rfl ?_
            refine er_iaddN d_Ve_meet_170 ?_
            refine er_ialdQ (v := (en (r (i)))) d_Ve_meet_171 (jl_sn (by omega) g7) (by omega) (by omega) (hrr i (by omega)) ?_
            refine er_icmp_eq 179 d_Ve_meet_172 (by decide) (fun c6 => ?_) (fun c6 => ?_)
            · have hj2 := c6
              refine er_iconst ((nI (0))) d_Ve_meet_179 (by decide) ?_
              refine er_istore d_Ve_meet_180 (by decide) ?_
              show jl_E l G m_Ve_meet (0, 0) 182 [some (.ref 9), some (.ref a), some (.int (nI pc)), some (.int (nI (pc * 12))), some (.int (nI 0)), some (.int (nI i))] [] (σ.set (12) (.inl (0, 12, .inl (fun j => en ((va_up jn (i) ((join pr (r (i)) (gv (i))))) j))))) P
              refine er_iinc ((nI (i + 1))) d_Ve_meet_182 (by decide) rfl (jl_inc _) ?_
              show jl_E l G m_Ve_meet (0, 0) 185 [some (.ref 9), some (.ref a), some (.int (nI pc)), some (.int (nI (pc * 12))), some (.int (nI 0)), some (.int (nI (i + 1)))] [] (σ.set (12) (.inl (0, 12, .inl (fun j => en ((va_up jn (i) ((join pr (r (i)) (gv (i))))) j))))) P
              refine er_goto 79 d_Ve_meet_185 (by decide) ?_
              exact ihn (i + 1) _ _ false (by omega) (by omega) (hvb.s12 hmt ha) (hfr.set (by omega)) (hI.f (by omega) (fun h7 => by first | omega | exact fun z => hj1 ((en_m1 hob).mpr z)) (bi_0.mp ‹_›) ((en_i hob (hrv.ob i)).mp hj2))
            · try (have hj2 := c6)
              refine er_iconst ((nI (1))) d_Ve_meet_175 (by decide) ?_
              refine er_goto 180 d_Ve_meet_176 (by decide) ?_
              refine er_istore d_Ve_meet_180 (by decide) ?_
              show jl_E l G m_Ve_meet (0, 0) 182 [some (.ref 9), some (.ref a), some (.int (nI pc)), some (.int (nI (pc * 12))), some (.int (nI 1)), some (.int (nI i))] [] (σ.set (12) (.inl (0, 12, .inl (fun j => en ((va_up jn (i) ((join pr (r (i)) (gv (i))))) j))))) P
              refine er_iinc ((nI (i + 1))) d_Ve_meet_182 (by decide) rfl (jl_inc _) ?_
              show jl_E l G m_Ve_meet (0, 0) 185 [some (.ref 9), some (.ref a), some (.int (nI pc)), some (.int (nI (pc * 12))), some (.int (nI 1)), some (.int (nI (i + 1)))] [] (σ.set (12) (.inl (0, 12, .inl (fun j => en ((va_up jn (i) ((join pr (r (i)) (gv (i))))) j))))) P
              refine er_goto 79 d_Ve_meet_185 (by decide) ?_
              exact ihn (i + 1) _ _ true (by omega) (by omega) (hvb.s12 hmt ha) (hfr.set (by omega)) (hI.t (by omega) (fun h7 => by first | omega | exact fun z => hj1 ((en_m1 hob).mpr z)) (by first | exact Or.inl (bi_nf ‹_›) | exact Or.inr (fun z => hj2 ((en_i hob (hrv.ob i)).mpr z))))
        · refine er_aload_n d_Ve_meet_138 rfl ?_
          refine er_getf d_Ve_meet_139 f_Ve_meet_18 (jl_sn (by decide) hV) rfl ?_
          refine er_iload d_Ve_meet_142 rfl ?_
          refine er_ialdQ (v := (en (join pr (r (i)) (gv (i))))) d_Ve_meet_144 (jl_ss hJ) (by omega) (by omega) (congrArg en (if_pos rfl)) ?_
          refine er_iconst ((-1)) d_Ve_meet_145 (by decide) ?_
          refine er_icmp_ne 151 d_Ve_meet_146 (by decide) (fun c7 => ?_) (fun c7 => ?_)
          · try (have hj1 := c7)
            refine er_iload d_Ve_meet_151 rfl ?_
            refine er_if_ne 175 d_Ve_meet_153 (by decide) (fun c8 => ?_) (fun c8 => ?_)
            · try (have hj2 := c8)
              refine er_iconst ((nI (1))) d_Ve_meet_175 (by decide) ?_
              refine er_goto 180 d_Ve_meet_176 (by decide) ?_
              refine er_istore d_Ve_meet_180 (by decide) ?_
              show jl_E l G m_Ve_meet (0, 0) 182 [some (.ref 9), some (.ref a), some (.int (nI pc)), some (.int (nI (pc * 12))), some (.int (nI 1)), some (.int (nI i))] [] (σ.set (12) (.inl (0, 12, .inl (fun j => en ((va_up jn (i) ((join pr (r (i)) (gv (i))))) j))))) P
              refine er_iinc ((nI (i + 1))) d_Ve_meet_182 (by decide) rfl (jl_inc _) ?_
              show jl_E l G m_Ve_meet (0, 0) 185 [some (.ref 9), some (.ref a), some (.int (nI pc)), some (.int (nI (pc * 12))), some (.int (nI 1)), some (.int (nI (i + 1)))] [] (σ.set (12) (.inl (0, 12, .inl (fun j => en ((va_up jn (i) ((join pr (r (i)) (gv (i))))) j))))) P
              refine er_goto 79 d_Ve_meet_185 (by decide) ?_
              exact ihn (i + 1) _ _ true (by omega) (by omega) (hvb.s12 hmt ha) (hfr.set (by omega)) (hI.t (by omega) (fun h7 => by first | omega | exact fun z => hj1 ((en_m1 hob).mpr z)) (by first | exact Or.inl (bi_nf ‹_›) | exact Or.inr (fun z => hj2 ((en_i hob (hrv.ob i)).mpr z))))
            · refine er_aload_n d_Ve_meet_156 rfl ?_
              refine er_getf d_Ve_meet_157 f_Ve_meet_18 (jl_sn (by decide) hV) rfl ?_
              refine er_iload d_Ve_meet_160 rfl ?_
              refine er_ialdQ (v := (en (join pr (r (i)) (gv (i))))) d_Ve_meet_162 (jl_ss hJ) (by omega) (by omega) (congrArg en (if_pos rfl)) ?_
              refine er_aload_n d_Ve_meet_163 rfl ?_
              refine er_getf d_Ve_meet_164 f_Ve_meet_79 (jl_sn (by omega) hM) rfl ?_
              refine er_iload_n d_Ve_meet_167 rfl ?_
              refine er_iload d_Ve_meet_168 rfl ?_
              refine er_iaddN d_Ve_meet_170 ?_
              refine er_ialdQ (v := (en (r (i)))) d_Ve_meet_171 (jl_sn (by omega) g7) (by omega) (by omega) (hrr i (by omega)) ?_
              refine er_icmp_eq 179 d_Ve_meet_172 (by decide) (fun c9 => ?_) (fun c9 => ?_)
              · have hj2 := c9
                refine er_iconst ((nI (0))) d_Ve_meet_179 (by decide) ?_
                refine er_istore d_Ve_meet_180 (by decide) ?_
                show jl_E l G m_Ve_meet (0, 0) 182 [some (.ref 9), some (.ref a), some (.int (nI pc)), some (.int (nI (pc * 12))), some (.int (nI 0)), some (.int (nI i))] [] (σ.set (12) (.inl (0, 12, .inl (fun j => en ((va_up jn (i) ((join pr (r (i)) (gv (i))))) j))))) P
                refine er_iinc ((nI (i + 1))) d_Ve_meet_182 (by decide) rfl (jl_inc _) ?_
                show jl_E l G m_Ve_meet (0, 0) 185 [some (.ref 9), some (.ref a), some (.int (nI pc)), some (.int (nI (pc * 12))), some (.int (nI 0)), some (.int (nI (i + 1)))] [] (σ.set (12) (.inl (0, 12, .inl (fun j => en ((va_up jn (i) ((join pr (r (i)) (gv (i))))) j))))) P
                refine er_goto 79 d_Ve_meet_185 (by decide) ?_
                exact ihn (i + 1) _ _ false (by omega) (by omega) (hvb.s12 hmt ha) (hfr.set (by omega)) (hI.f (by omega) (fun h7 => by first | omega | exact fun z => hj1 ((en_m1 hob).mpr z)) (bi_0.mp ‹_›) ((en_i hob (hrv.ob i)).mp hj2))
              · try (have hj2 := c9)
                refine er_iconst ((nI (1))) d_Ve_meet_175 (by decide) ?_
                refine er_goto 180 d_Ve_meet_176 (by decide) ?_
                refine er_istore d_Ve_meet_180 (by decide) ?_
                show jl_E l G m_Ve_meet (0, 0) 182 [some (.ref 9), some (.ref a), some (.int (nI pc)), some (.int (nI (pc * 12))), some (.int (nI 1)), some (.int (nI i))] [] (σ.set (12) (.inl (0, 12, .inl (fun j => en ((va_up jn (i) ((join pr (r (i)) (gv (i))))) j))))) P
                refine er_iinc ((nI (i + 1))) d_Ve_meet_182 (by decide) rfl (jl_inc _) ?_
                show jl_E l G m_Ve_meet (0, 0) 185 [some (.ref 9), some (.ref a), some (.int (nI pc)), some (.int (nI (pc * 12))), some (.int (nI 1)), some (.int (nI (i + 1)))] [] (σ.set (12) (.inl (0, 12, .inl (fun j => en ((va_up jn (i) ((join pr (r (i)) (gv (i))))) j))))) P
                refine er_goto 79 d_Ve_meet_185 (by decide) ?_
                exact ihn (i + 1) _ _ true (by omega) (by omega) (hvb.s12 hmt ha) (hfr.set (by omega)) (hI.t (by omega) (fun h7 => by first | omega | exact fun z => hj1 ((en_m1 hob).mpr z)) (by first | exact Or.inl (bi_nf ‹_›) | exact Or.inr (fun z => hj2 ((en_i hob (hrv.ob i)).mpr z))))
          · refine er_iconst ((nI (0))) d_Ve_meet_149 (by decide) ?_
            exact er_zret d_Ve_meet_150 rfl (by decide) (hN _ _ (by unfold meetA; simp only [hAs]; rw [if_pos hrv.1, MI.bad hrv.2.1 (by omega) (by omega) ((en_m1 hob).mp c7)]; rfl) (hvb.s12 hmt ha) (hfr.set (by omega))) (by decide) (by decide)
theorem d_Ve_meet_37 : decode m_Ve_meet.2.1 37 = .ok (.aload_n 1, 1) := by decide +kernel
theorem d_Ve_meet_38 : decode m_Ve_meet.2.1 38 = .ok (.getfield 79, 3) := by decide +kernel
theorem d_Ve_meet_41 : decode m_Ve_meet.2.1 41 = .ok (.iload_n 3, 1) := by decide +kernel
theorem d_Ve_meet_42 : decode m_Ve_meet.2.1 42 = .ok (.bipush 6, 2) := by decide +kernel
theorem d_Ve_meet_44 : decode m_Ve_meet.2.1 44 = .ok (.iadd, 1) := by decide +kernel
theorem d_Ve_meet_45 : decode m_Ve_meet.2.1 45 = .ok (.iaload, 1) := by decide +kernel
theorem d_Ve_meet_46 : decode m_Ve_meet.2.1 46 = .ok (.aload_n 0, 1) := by decide +kernel
theorem d_Ve_meet_47 : decode m_Ve_meet.2.1 47 = .ok (.getfield 15, 3) := by decide +kernel
theorem d_Ve_meet_50 : decode m_Ve_meet.2.1 50 = .ok (.bipush 6, 2) := by decide +kernel
theorem d_Ve_meet_52 : decode m_Ve_meet.2.1 52 = .ok (.iaload, 1) := by decide +kernel
theorem d_Ve_meet_53 : decode m_Ve_meet.2.1 53 = .ok (.if_icmp .eq 5, 3) := by decide +kernel
theorem d_Ve_meet_58 : decode m_Ve_meet.2.1 58 = .ok (.iconst 0, 1) := by decide +kernel
theorem d_Ve_meet_59 : decode m_Ve_meet.2.1 59 = .ok (.istore 4, 2) := by decide +kernel
theorem d_Ve_meet_61 : decode m_Ve_meet.2.1 61 = .ok (.aload_n 0, 1) := by decide +kernel
theorem d_Ve_meet_62 : decode m_Ve_meet.2.1 62 = .ok (.getfield 15, 3) := by decide +kernel
theorem d_Ve_meet_65 : decode m_Ve_meet.2.1 65 = .ok (.iconst 0, 1) := by decide +kernel
theorem d_Ve_meet_66 : decode m_Ve_meet.2.1 66 = .ok (.aload_n 0, 1) := by decide +kernel
theorem d_Ve_meet_67 : decode m_Ve_meet.2.1 67 = .ok (.getfield 18, 3) := by decide +kernel
theorem d_Ve_meet_70 : decode m_Ve_meet.2.1 70 = .ok (.iconst 0, 1) := by decide +kernel
theorem d_Ve_meet_71 : decode m_Ve_meet.2.1 71 = .ok (.bipush 12, 2) := by decide +kernel
theorem d_Ve_meet_73 : decode m_Ve_meet.2.1 73 = .ok (.invokestatic 82, 3) := by decide +kernel
theorem d_Ve_meet_76 : decode m_Ve_meet.2.1 76 = .ok (.iconst 0, 1) := by decide +kernel
theorem d_Ve_meet_77 : decode m_Ve_meet.2.1 77 = .ok (.istore 5, 2) := by decide +kernel
theorem d_Ve_meet_56 : decode m_Ve_meet.2.1 56 = .ok (.iconst 0, 1) := by decide +kernel
theorem d_Ve_meet_57 : decode m_Ve_meet.2.1 57 = .ok (.ireturn, 1) := by decide +kernel
theorem ve_meet_s (hl : l.stackTraces = false) {P : jl_O → jl_S → Prop} {pc h hr : Nat} {r : Rw} (hvb : VB σ tb pr ow fi ft mt sg a q1 q2 rs op ag sz fr tt tg kd nc wr wz bf gv jn mp fh) (hok : WoOk tb pr ow fi) (hmt : MtOk mt) (ha : 54 ≤ a ∧ (a - 54) % 9 = 0) (hpc : pc < 24) (hA : MpC mp A) (hAV : AV A) (hF : frp fh F) (hg : rv gv h) (hAs : A pc = some r) (hrv : rv r hr) (hT : ∀ s' jn' mp' fh' σ', meetA pr (A, F) pc gv h = some s' → MpC mp' s'.1 → frp fh' s'.2 → VB σ' tb pr ow fi ft mt sg a q1 q2 rs op ag sz fr tt tg kd nc wr wz bf gv jn' mp' fh' → Fr a σ σ' → P (.inl (some (.int (nI 1)))) σ') (hN : ∀ jn' σ', meetA pr (A, F) pc gv h = none → VB σ' tb pr ow fi ft mt sg a q1 q2 rs op ag sz fr tt tg kd nc wr wz bf gv jn' mp fh → Fr a σ σ' → P (.inl (some (.int (nI 0)))) σ') : jl_mE l G m_Ve_meet [.ref 9, .ref a, .int (nI pc)] σ P := by
  obtain ⟨hw, hc, hsg, hm, hV, hB, hG, hJ⟩ := id hvb
  obtain ⟨hW, h2, h3, h4, h5, h6, h7⟩ := id hw
  obtain ⟨hM, g1, g2, g3, g4, g5, g6, g7, g8⟩ := id hm
  have hrr := hA.s hpc hAs
  have hh5 := hrv.2.1
  have hh6 := hg.2.1
  refine jl_ofE (as := [.ref 9, .ref a, .int (nI pc)]) rfl (by decide) hl (jl_cc rfl (jl_cc rfl (jl_cc rfl jl_ca))) (Nat.le_of_ble_eq_true rfl) ?_
  show jl_E l G m_Ve_meet (0, 0) 0 [some (.ref 9), some (.ref a), some (.int (nI pc)), none, none, none] [] (σ) P
  refine er_iload_n d_Ve_meet_0 rfl ?_
  refine er_bipush ((nI (12))) d_Ve_meet_1 (by decide) ?_
  refine er_imulN d_Ve_meet_3 ?_
  refine er_istore_n d_Ve_meet_4 (by decide) ?_
  show jl_E l G m_Ve_meet (0, 0) 5 [some (.ref 9), some (.ref a), some (.int (nI pc)), some (.int (nI ((pc) * (12)))), none, none] [] (σ) P
  refine er_aload_n d_Ve_meet_5 rfl ?_
  refine er_iload_n d_Ve_meet_6 rfl ?_
  refine er_callV (As := [.int (nI pc)]) d_Ve_meet_7 k_Ve_meet_173 hM rfl rfl rfl (Nat.le_of_ble_eq_true rfl) (by decide) (by decide) (jl_meq (o' := .inl (some (.int (nI 1)))) (by rw [decide_eq_true (show ¬ mp (pc * 12 + 6) = -2 by rw [hrr 6 (by decide), hrv.1]; exact nI_m2 (by have := hrv.2.1; omega))]; rfl) (me_hasMap hl hm hpc)) ?_
  show jl_E l G m_Ve_meet (0, 0) 10 [some (.ref 9), some (.ref a), some (.int (nI pc)), some (.int (nI ((pc) * (12)))), none, none] [.int (nI 1)] (σ) P
  refine er_if_ne 37 d_Ve_meet_10 (by decide) (fun _ => ?_) (fun z => absurd z (by decide))
  refine er_aload_n d_Ve_meet_37 rfl ?_
  refine er_getf d_Ve_meet_38 f_Ve_meet_79 hM rfl ?_
  refine er_iload_n d_Ve_meet_41 rfl ?_
  refine er_bipush ((nI (6))) d_Ve_meet_42 (by decide) ?_
  refine er_iaddN d_Ve_meet_44 ?_
  refine er_ialdQ (v := (nI (hr))) d_Ve_meet_45 g7 (by omega) (by omega) ((hrr 6 (by decide)).trans (congrArg en hrv.1)) ?_
  refine er_aload_n d_Ve_meet_46 rfl ?_
  refine er_getf d_Ve_meet_47 f_Ve_meet_15 hV rfl ?_
  refine er_bipush ((nI (6))) d_Ve_meet_50 (by decide) ?_
  refine er_ialdQ (v := (nI (h))) d_Ve_meet_52 hG (by omega) (by omega) (congrArg en hg.1) ?_
  refine er_icmp_eqN 58 d_Ve_meet_53 (by decide) (by omega) (by omega) (fun c1 => ?_) (fun c1 => ?_)
  · refine er_iconst ((nI (0))) d_Ve_meet_58 (by decide) ?_
    refine er_istore d_Ve_meet_59 (by decide) ?_
    show jl_E l G m_Ve_meet (0, 0) 61 [some (.ref 9), some (.ref a), some (.int (nI pc)), some (.int (nI ((pc) * (12)))), some (.int (nI 0)), none] [] (σ) P
    refine er_aload_n d_Ve_meet_61 rfl ?_
    refine er_getf d_Ve_meet_62 f_Ve_meet_15 hV rfl ?_
    refine er_iconst ((nI (0))) d_Ve_meet_65 (by decide) ?_
    refine er_aload_n d_Ve_meet_66 rfl ?_
    refine er_getf d_Ve_meet_67 f_Ve_meet_18 hV rfl ?_
    refine er_iconst ((nI (0))) d_Ve_meet_70 (by decide) ?_
    refine er_bipush ((nI (12))) d_Ve_meet_71 (by decide) ?_
    refine er_copy d_Ve_meet_73 k_Ve_meet_ac82 hG hJ (by omega) (by omega) (by decide) (by decide) (by decide) (by decide) ?_
    rw [show va_cpy (fun j => en (gv j)) (fun j => en (jn j)) (0) (0) (12) = (fun j => en ((va_cpy gv jn (0) (0) (12)) j)) from cpy_en]
    show jl_E l G m_Ve_meet (0, 0) 76 [some (.ref 9), some (.ref a), some (.int (nI pc)), some (.int (nI ((pc) * (12)))), some (.int (nI 0)), none] [] (σ.set (12) (.inl (0, 12, .inl (fun j => en ((va_cpy gv jn (0) (0) (12)) j))))) P
    refine er_iconst ((nI (0))) d_Ve_meet_76 (by decide) ?_
    refine er_istore d_Ve_meet_77 (by decide) ?_
    show jl_E l G m_Ve_meet (0, 0) 79 [some (.ref 9), some (.ref a), some (.int (nI pc)), some (.int (nI ((pc) * (12)))), some (.int (nI 0)), some (.int (nI 0))] [] (σ.set (12) (.inl (0, 12, .inl (fun j => en ((va_cpy gv jn (0) (0) (12)) j))))) P
    have he : hr = h := by omega
    subst he
    exact ve_meet_l (σ0 := σ) hl hok hmt ha hpc hA hF hg hAs hrv hT hN (7 + hr + 1) 0 _ _ false (by omega) (by omega) (hvb.s12 hmt ha) (Fr.refl.set (by omega)) MI.z
  · refine er_iconst ((nI (0))) d_Ve_meet_56 (by decide) ?_
    exact er_zret d_Ve_meet_57 rfl (by decide) (hN jn σ (by unfold meetA; simp only [hAs]; rw [if_neg (by rw [hrv.1]; intro z; cases z; omega)]) hvb Fr.refl) (by decide) (by decide)
theorem ve_meet (hl : l.stackTraces = false) {P : jl_O → jl_S → Prop} {pc h : Nat} (hvb : VB σ tb pr ow fi ft mt sg a q1 q2 rs op ag sz fr tt tg kd nc wr wz bf gv jn mp fh) (hok : WoOk tb pr ow fi) (hmt : MtOk mt) (ha : 54 ≤ a ∧ (a - 54) % 9 = 0) (hpc : pc < 24) (hA : MpC mp A) (hAV : AV A) (hF : frp fh F) (hg : rv gv h) (hT : ∀ s' jn' mp' fh' σ', meetA pr (A, F) pc gv h = some s' → MpC mp' s'.1 → frp fh' s'.2 → VB σ' tb pr ow fi ft mt sg a q1 q2 rs op ag sz fr tt tg kd nc wr wz bf gv jn' mp' fh' → Fr a σ σ' → P (.inl (some (.int (nI 1)))) σ') (hN : ∀ jn' σ', meetA pr (A, F) pc gv h = none → VB σ' tb pr ow fi ft mt sg a q1 q2 rs op ag sz fr tt tg kd nc wr wz bf gv jn' mp fh → Fr a σ σ' → P (.inl (some (.int (nI 0)))) σ') : jl_mE l G m_Ve_meet [.ref 9, .ref a, .int (nI pc)] σ P := by
  cases hq : A pc with
  | none => exact ve_meet_n hl hvb hok hmt ha hpc hA hAV hF hg hq hT hN
  | some r =>
    obtain ⟨hr, hrv⟩ := hAV pc r hq
    exact ve_meet_s hl hvb hok hmt ha hpc hA hAV hF hg hq hrv hT hN
end JVm
