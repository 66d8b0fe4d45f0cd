/-! the model: push, give (wip/gen/p79.py) -/
section JMv
variable {l : Launch} {G : jl_G} {σ : jl_S}
variable {tb : Nat → Bool} {pr : Nat → Option Nat} {ow fi ft : Nat → Nat} {hs : Nat → Bool} {fa vf wh wy hg dp md ov oh dn an : Int32}
variable {u1 u2 : Nat → Option Nat} {ur ul uo : Nat → Nat} {ua : Nat → Int32} {uc us ut uk : Nat → Nat}
variable {lo sk kp : Rw} {mm : Nat → Int32} {fm : Nat → Bool}
variable {A : Nat → Option Rw} {F : Nat → Bool}
theorem d_Mo_push_0 : decode m_Mo_push.2.1 0 = .ok (.aload_n 0, 1) := by decide +kernel
theorem f_Mo_push_72 : jl_fd m_Mo_push 72 7 22 = true := by decide +kernel
theorem d_Mo_push_1 : decode m_Mo_push.2.1 1 = .ok (.getfield 72, 3) := by decide +kernel
theorem d_Mo_push_4 : decode m_Mo_push.2.1 4 = .ok (.aload_n 0, 1) := by decide +kernel
theorem f_Mo_push_179 : jl_fd m_Mo_push 179 7 23 = true := by decide +kernel
theorem d_Mo_push_5 : decode m_Mo_push.2.1 5 = .ok (.getfield 179, 3) := by decide +kernel
theorem d_Mo_push_8 : decode m_Mo_push.2.1 8 = .ok (.iload_n 1, 1) := by decide +kernel
theorem d_Mo_push_9 : decode m_Mo_push.2.1 9 = .ok (.iastore, 1) := by decide +kernel
theorem d_Mo_push_10 : decode m_Mo_push.2.1 10 = .ok (.aload_n 0, 1) := by decide +kernel
theorem d_Mo_push_11 : decode m_Mo_push.2.1 11 = .ok (.dup, 1) := by decide +kernel
theorem d_Mo_push_12 : decode m_Mo_push.2.1 12 = .ok (.getfield 179, 3) := by decide +kernel
theorem d_Mo_push_15 : decode m_Mo_push.2.1 15 = .ok (.iconst 1, 1) := by decide +kernel
theorem d_Mo_push_16 : decode m_Mo_push.2.1 16 = .ok (.iadd, 1) := by decide +kernel
theorem p_Mo_push_179 : jl_fp m_Mo_push 179 7 23 = true := by decide +kernel
theorem d_Mo_push_17 : decode m_Mo_push.2.1 17 = .ok (.putfield 179, 3) := by decide +kernel
theorem d_Mo_push_20 : decode m_Mo_push.2.1 20 = .ok (.return_, 1) := by decide +kernel
theorem mo_push (hl : l.stackTraces = false) {h : Nat} {t : Option Nat} (hO : MoO σ fa vf wh wy (nI h) dp md ov oh dn an) (r2 : σ[41]? = some (.inl (0, 8, .inl fun j => en (sk j)))) (hh : h < 8) : jl_m l G m_Mo_push [.ref 22, .int (en t)] σ (.inl none) ((σ.set 41 (.inl (0, 8, .inl fun j => en (va_up sk h t j)))).set 22 (.inr (7, MoF fa vf wh wy (nI (h + 1)) dp md ov oh dn an))) := by
  refine jl_of (as := [.ref 22, .int (en t)]) rfl (by decide) hl (jl_cc rfl (jl_cc rfl jl_ca)) (Nat.le_of_ble_eq_true rfl) ?_
  show jl_W l G m_Mo_push (0, 0) 0 [some (.ref 22), some (.int (en t))] [] (σ) (.inl none) ((σ.set 41 (.inl (0, 8, .inl fun j => en (va_up sk h t j)))).set 22 (.inr (7, MoF fa vf wh wy (nI (h + 1)) dp md ov oh dn an)))
  refine jr_aload_n d_Mo_push_0 rfl ?_
  refine jr_getf d_Mo_push_1 f_Mo_push_72 hO rfl ?_
  refine jr_aload_n d_Mo_push_4 rfl ?_
  refine jr_getf d_Mo_push_5 f_Mo_push_179 hO rfl ?_
  refine jr_iload_n d_Mo_push_8 rfl ?_
  refine jr_iastN d_Mo_push_9 r2 (by omega) (by omega) ?_
  rw [show upd (fun j => en (sk j)) (h) ((en t)) = (fun j => en ((va_up sk (h) (t)) j)) from en_up sk (h) (t)]
  show jl_W l G m_Mo_push (0, 0) 10 [some (.ref 22), some (.int (en t))] [] (σ.set (41) (.inl (0, 8, .inl (fun j => en ((va_up sk (h) (t)) j))))) (.inl none) ((σ.set 41 (.inl (0, 8, .inl fun j => en (va_up sk h t j)))).set 22 (.inr (7, MoF fa vf wh wy (nI (h + 1)) dp md ov oh dn an)))
  refine jr_aload_n d_Mo_push_10 rfl ?_
  refine jr_dup d_Mo_push_11 rfl ?_
  refine jr_getf d_Mo_push_12 f_Mo_push_179 (jl_sn (by decide) hO) rfl ?_
  refine jr_iconst ((nI (1))) d_Mo_push_15 (by decide) ?_
  refine jr_iaddN d_Mo_push_16 ?_
  refine jr_putf d_Mo_push_17 p_Mo_push_179 (jl_sn (by decide) hO) (Nat.le_of_ble_eq_true rfl) jl_fit_int ?_
  show jl_W l G m_Mo_push (0, 0) 20 [some (.ref 22), some (.int (en t))] [] ((σ.set (41) (.inl (0, 8, .inl (fun j => en ((va_up sk (h) (t)) j))))).set (22) (.inr (7, [.int (fa), .ref 23, .ref 24, .ref 25, .ref 26, .ref 27, .ref 28, .ref 29, .ref 30, .ref 31, .ref 32, .ref 33, .ref 34, .ref 35, .ref 36, .ref 37, .int (vf), .int (wh), .int (wy), .ref 38, .ref 39, .ref 40, .ref 41, .int (nI ((h) + (1))), .ref 42, .ref 43, .ref 44, .ref 45, .ref 46, .ref 47, .ref 48, .ref 49, .int (dp), .ref 50, .ref 51, .ref 52, .int (md), .int (ov), .int (oh), .int (dn), .int (an)]))) (.inl none) ((σ.set 41 (.inl (0, 8, .inl fun j => en (va_up sk h t j)))).set 22 (.inr (7, MoF fa vf wh wy (nI (h + 1)) dp md ov oh dn an)))
  exact jr_vretE d_Mo_push_20 rfl (rfl) (rfl) (by decide) (by decide)
theorem d_Mo_give_59 : decode m_Mo_give.2.1 59 = .ok (.iload 4, 2) := by decide +kernel
theorem d_Mo_give_61 : decode m_Mo_give.2.1 61 = .ok (.iconst 5, 1) := by decide +kernel
theorem d_Mo_give_62 : decode m_Mo_give.2.1 62 = .ok (.if_icmp .ge 41, 3) := by decide +kernel
theorem d_Mo_give_103 : decode m_Mo_give.2.1 103 = .ok (.aload_n 0, 1) := by decide +kernel
theorem f_Mo_give_63 : jl_fd m_Mo_give 63 7 19 = true := by decide +kernel
theorem d_Mo_give_104 : decode m_Mo_give.2.1 104 = .ok (.getfield 63, 3) := by decide +kernel
theorem d_Mo_give_107 : decode m_Mo_give.2.1 107 = .ok (.iload_n 3, 1) := by decide +kernel
theorem d_Mo_give_108 : decode m_Mo_give.2.1 108 = .ok (.bipush 6, 2) := by decide +kernel
theorem d_Mo_give_110 : decode m_Mo_give.2.1 110 = .ok (.iadd, 1) := by decide +kernel
theorem d_Mo_give_111 : decode m_Mo_give.2.1 111 = .ok (.aload_n 0, 1) := by decide +kernel
theorem f_Mo_give_179 : jl_fd m_Mo_give 179 7 23 = true := by decide +kernel
theorem d_Mo_give_112 : decode m_Mo_give.2.1 112 = .ok (.getfield 179, 3) := by decide +kernel
theorem d_Mo_give_115 : decode m_Mo_give.2.1 115 = .ok (.iastore, 1) := by decide +kernel
theorem d_Mo_give_116 : decode m_Mo_give.2.1 116 = .ok (.aload_n 0, 1) := by decide +kernel
theorem f_Mo_give_66 : jl_fd m_Mo_give 66 7 20 = true := by decide +kernel
theorem d_Mo_give_117 : decode m_Mo_give.2.1 117 = .ok (.getfield 66, 3) := by decide +kernel
theorem d_Mo_give_120 : decode m_Mo_give.2.1 120 = .ok (.iload_n 2, 1) := by decide +kernel
theorem d_Mo_give_121 : decode m_Mo_give.2.1 121 = .ok (.iconst 1, 1) := by decide +kernel
theorem d_Mo_give_122 : decode m_Mo_give.2.1 122 = .ok (.bastore, 1) := by decide +kernel
theorem d_Mo_give_123 : decode m_Mo_give.2.1 123 = .ok (.iconst 1, 1) := by decide +kernel
theorem d_Mo_give_124 : decode m_Mo_give.2.1 124 = .ok (.ireturn, 1) := by decide +kernel
theorem d_Mo_give_65 : decode m_Mo_give.2.1 65 = .ok (.aload_n 0, 1) := by decide +kernel
theorem d_Mo_give_66 : decode m_Mo_give.2.1 66 = .ok (.getfield 63, 3) := by decide +kernel
theorem d_Mo_give_69 : decode m_Mo_give.2.1 69 = .ok (.iload_n 3, 1) := by decide +kernel
theorem d_Mo_give_70 : decode m_Mo_give.2.1 70 = .ok (.bipush 7, 2) := by decide +kernel
theorem d_Mo_give_72 : decode m_Mo_give.2.1 72 = .ok (.iadd, 1) := by decide +kernel
theorem d_Mo_give_73 : decode m_Mo_give.2.1 73 = .ok (.iload 4, 2) := by decide +kernel
theorem d_Mo_give_75 : decode m_Mo_give.2.1 75 = .ok (.iadd, 1) := by decide +kernel
theorem d_Mo_give_76 : decode m_Mo_give.2.1 76 = .ok (.iload 4, 2) := by decide +kernel
theorem d_Mo_give_78 : decode m_Mo_give.2.1 78 = .ok (.aload_n 0, 1) := by decide +kernel
theorem d_Mo_give_79 : decode m_Mo_give.2.1 79 = .ok (.getfield 179, 3) := by decide +kernel
theorem d_Mo_give_82 : decode m_Mo_give.2.1 82 = .ok (.if_icmp .ge 13, 3) := by decide +kernel
theorem d_Mo_give_95 : decode m_Mo_give.2.1 95 = .ok (.iconst (-1), 1) := by decide +kernel
theorem d_Mo_give_96 : decode m_Mo_give.2.1 96 = .ok (.iastore, 1) := by decide +kernel
theorem d_Mo_give_97 : decode m_Mo_give.2.1 97 = .ok (.iinc 4 1, 3) := by decide +kernel
theorem d_Mo_give_100 : decode m_Mo_give.2.1 100 = .ok (.goto (-41), 3) := by decide +kernel
theorem d_Mo_give_85 : decode m_Mo_give.2.1 85 = .ok (.aload_n 0, 1) := by decide +kernel
theorem f_Mo_give_72 : jl_fd m_Mo_give 72 7 22 = true := by decide +kernel
theorem d_Mo_give_86 : decode m_Mo_give.2.1 86 = .ok (.getfield 72, 3) := by decide +kernel
theorem d_Mo_give_89 : decode m_Mo_give.2.1 89 = .ok (.iload 4, 2) := by decide +kernel
theorem d_Mo_give_91 : decode m_Mo_give.2.1 91 = .ok (.iaload, 1) := by decide +kernel
theorem d_Mo_give_92 : decode m_Mo_give.2.1 92 = .ok (.goto 4, 3) := by decide +kernel
theorem mo_give_2 (hl : l.stackTraces = false) {P : jl_O → jl_S → Prop} {m pc h : Nat} {g : Rw} {σ0 : jl_S}  (hm : m < 24) (hpc : pc < 24) (hA : MpM mm m A) (hF : frp fm F) (hg : rv g h) (hl2 : RlM g lo sk h) (hAn : A pc = none) (hT : ∀ s' mm' fm' σ', meetA pr (A, F) pc g h = some s' → MpM mm' m s'.1 → frp fm' s'.2 → MmF m mm mm' → MB σ' tb pr ow ft hs u1 u2 ur ul uo ua uc us ut uk fa vf wh wy (nI h) dp md ov oh dn an lo sk kp mm' fm' → FrM σ0 σ' → P (.inl (some (.int (nI 1)))) σ') : ∀ (nn : Nat) (i : Nat) (σ : jl_S) (mi : Nat → Int32), 5 - i < nn → i ≤ 5 → MB σ tb pr ow ft hs u1 u2 ur ul uo ua uc us ut uk fa vf wh wy (nI h) dp md ov oh dn an lo sk kp mi fm → FrM σ0 σ → WR mm mi (12 * (24 * m + pc)) (fun z => decide (z < 6) || (decide (7 ≤ z) && decide (z < 7 + i))) g → jl_E l G m_Mo_give (0, 0) 59 [some (.ref 22), some (.int (nI m)), some (.int (nI pc)), some (.int (nI (12 * (24 * m + pc)))), some (.int (nI i)), none, none] [] σ P := by
  intro nn
  induction nn with
  | zero => intro i σ mi hnn; exact absurd hnn (Nat.not_lt_zero _)
  | succ nn ihn =>
    intro i σ mi hnn hi hmb hfr hw2
    obtain ⟨hO, hw, hu, hr, hkp, hmp, hfm⟩ := id hmb; obtain ⟨r1, r2⟩ := id hr
    obtain ⟨h23, h24, h25, h26, h27⟩ := id hw
    obtain ⟨h28, h29, h30, h31, h32, h33, h34, h35, h36, h37⟩ := id hu
    have hh5 := hg.2.1
    refine er_iload d_Mo_give_59 rfl ?_
    refine er_iconst ((nI (5))) d_Mo_give_61 (by decide) ?_
    refine er_icmp_geN 103 d_Mo_give_62 (by decide) (by omega) (by omega) (fun c1 => ?_) (fun c1 => ?_)
    · refine er_aload_n d_Mo_give_103 rfl ?_
      refine er_getf d_Mo_give_104 f_Mo_give_63 hO rfl ?_
      refine er_iload_n d_Mo_give_107 rfl ?_
      refine er_bipush ((nI (6))) d_Mo_give_108 (by decide) ?_
      refine er_iaddN d_Mo_give_110 ?_
      refine er_aload_n d_Mo_give_111 rfl ?_
      refine er_getf d_Mo_give_112 f_Mo_give_179 hO rfl ?_
      refine er_iastN d_Mo_give_115 hmp (by omega) (by omega) ?_
      show jl_E l G m_Mo_give (0, 0) 116 [some (.ref 22), some (.int (nI m)), some (.int (nI pc)), some (.int (nI (12 * (24 * m + pc)))), some (.int (nI i)), none, none] [] (σ.set (38) (.inl (0, 6912, .inl (upd (mi) ((12 * (24 * m + pc)) + (6)) ((nI (h))))))) P
      refine er_aload_n d_Mo_give_116 rfl ?_
      refine er_getf d_Mo_give_117 f_Mo_give_66 (jl_sn (by decide) hO) rfl ?_
      refine er_iload_n d_Mo_give_120 rfl ?_
      refine er_iconst ((nI (1))) d_Mo_give_121 (by decide) ?_
      refine er_bastN d_Mo_give_122 (jl_sn (by decide) hfm) (by omega) (by omega) (by decide) ?_
      rw [show upd (fun j => bi (fm j)) (pc) ((nI (1))) = (fun j => bi ((va_up fm (pc) (true)) j)) from bi_up fm (pc) (true)]
      show jl_E l G m_Mo_give (0, 0) 123 [some (.ref 22), some (.int (nI m)), some (.int (nI pc)), some (.int (nI (12 * (24 * m + pc)))), some (.int (nI i)), none, none] [] ((σ.set (38) (.inl (0, 6912, .inl (upd (mi) ((12 * (24 * m + pc)) + (6)) ((nI (h))))))).set (39) (.inl (1, 24, .inl (fun j => bi ((va_up fm (pc) (true)) j))))) P
      refine er_iconst ((nI (1))) d_Mo_give_123 (by decide) ?_
      exact er_zret d_Mo_give_124 rfl (by decide) (hT (va_up A pc (some g), va_up F pc true) _ _ _ (by unfold meetA; simp only [hAn]) ((hw2.s (i := 6) (q' := fun _ => true) (by omega) (congrArg en hg.1).symm (fun z hz => by rw [show i = 5 by omega]; rw [Bool.eq_iff_iff]; simp; omega)).up hA (fun z _ hq => by cases hq)) (hF.up pc true) ((hw2.s (i := 6) (q' := fun _ => true) (by omega) (congrArg en hg.1).symm (fun z hz => by rw [show i = 5 by omega]; rw [Bool.eq_iff_iff]; simp; omega)).mf hpc) (hmb.s38.s39) ((hfr.set (by omega)).set (by omega))) (by decide) (by decide)
    · refine er_aload_n d_Mo_give_65 rfl ?_
      refine er_getf d_Mo_give_66 f_Mo_give_63 hO rfl ?_
      refine er_iload_n d_Mo_give_69 rfl ?_
      refine er_bipush ((nI (7))) d_Mo_give_70 (by decide) ?_
      refine er_iaddN d_Mo_give_72 ?_
      refine er_iload d_Mo_give_73 rfl ?_
      refine er_iaddN d_Mo_give_75 ?_
      refine er_iload d_Mo_give_76 rfl ?_
      refine er_aload_n d_Mo_give_78 rfl ?_
      refine er_getf d_Mo_give_79 f_Mo_give_179 hO rfl ?_
      refine er_icmp_geN 95 d_Mo_give_82 (by decide) (by omega) (by omega) (fun c2 => ?_) (fun c2 => ?_)
      · refine er_iconst ((-1)) d_Mo_give_95 (by decide) ?_
        refine er_iastN d_Mo_give_96 hmp (by omega) (by omega) ?_
        show jl_E l G m_Mo_give (0, 0) 97 [some (.ref 22), some (.int (nI m)), some (.int (nI pc)), some (.int (nI (12 * (24 * m + pc)))), some (.int (nI i)), none, none] [] (σ.set (38) (.inl (0, 6912, .inl (upd (mi) (((12 * (24 * m + pc)) + (7)) + (i)) ((-1)))))) P
        refine er_iinc ((nI (i + 1))) d_Mo_give_97 (by decide) rfl (jl_inc _) ?_
        show jl_E l G m_Mo_give (0, 0) 100 [some (.ref 22), some (.int (nI m)), some (.int (nI pc)), some (.int (nI (12 * (24 * m + pc)))), some (.int (nI (i + 1))), none, none] [] (σ.set (38) (.inl (0, 6912, .inl (upd (mi) (((12 * (24 * m + pc)) + (7)) + (i)) ((-1)))))) P
        refine er_goto 59 d_Mo_give_100 (by decide) ?_
        exact ihn (i + 1) _ _ (by omega) (by omega) hmb.s38 (hfr.set (by omega)) (by have z := hw2.s (i := 7 + i) (q' := (fun z => decide (z < 6) || (decide (7 ≤ z) && decide (z < 7 + (i + 1))))) (by omega) (by rw [hg.2.2.2.2 i (by omega) (by omega)]; rfl) (fun z hz => by simp only [Bool.or_assoc]; congr 1; rw [Bool.eq_iff_iff]; simp; omega); rw [show 12 * (24 * m + pc) + (7 + i) = 12 * (24 * m + pc) + 7 + i by omega] at z; exact z)
      · refine er_aload_n d_Mo_give_85 rfl ?_
        refine er_getf d_Mo_give_86 f_Mo_give_72 hO rfl ?_
        refine er_iload d_Mo_give_89 rfl ?_
        refine er_ialdQ (v := (en (g (7 + i)))) d_Mo_give_91 r2 (by omega) (by omega) (congrArg en (hl2.2 i (by omega))) ?_
        refine er_goto 96 d_Mo_give_92 (by decide) ?_
        refine er_iastN d_Mo_give_96 hmp (by omega) (by omega) ?_
        show jl_E l G m_Mo_give (0, 0) 97 [some (.ref 22), some (.int (nI m)), some (.int (nI pc)), some (.int (nI (12 * (24 * m + pc)))), some (.int (nI i)), none, none] [] (σ.set (38) (.inl (0, 6912, .inl (upd (mi) (((12 * (24 * m + pc)) + (7)) + (i)) ((en (g (7 + i)))))))) P
        refine er_iinc ((nI (i + 1))) d_Mo_give_97 (by decide) rfl (jl_inc _) ?_
        show jl_E l G m_Mo_give (0, 0) 100 [some (.ref 22), some (.int (nI m)), some (.int (nI pc)), some (.int (nI (12 * (24 * m + pc)))), some (.int (nI (i + 1))), none, none] [] (σ.set (38) (.inl (0, 6912, .inl (upd (mi) (((12 * (24 * m + pc)) + (7)) + (i)) ((en (g (7 + i)))))))) P
        refine er_goto 59 d_Mo_give_100 (by decide) ?_
        exact ihn (i + 1) _ _ (by omega) (by omega) hmb.s38 (hfr.set (by omega)) (by have z := hw2.s (i := 7 + i) (q' := (fun z => decide (z < 6) || (decide (7 ≤ z) && decide (z < 7 + (i + 1))))) (by omega) rfl (fun z hz => by simp only [Bool.or_assoc]; congr 1; rw [Bool.eq_iff_iff]; simp; omega); rw [show 12 * (24 * m + pc) + (7 + i) = 12 * (24 * m + pc) + 7 + i by omega] at z; exact z)
theorem d_Mo_give_27 : decode m_Mo_give.2.1 27 = .ok (.iload 4, 2) := by decide +kernel
theorem d_Mo_give_29 : decode m_Mo_give.2.1 29 = .ok (.bipush 6, 2) := by decide +kernel
theorem d_Mo_give_31 : decode m_Mo_give.2.1 31 = .ok (.if_icmp .ge 25, 3) := by decide +kernel
theorem d_Mo_give_56 : decode m_Mo_give.2.1 56 = .ok (.iconst 0, 1) := by decide +kernel
theorem d_Mo_give_57 : decode m_Mo_give.2.1 57 = .ok (.istore 4, 2) := by decide +kernel
theorem d_Mo_give_34 : decode m_Mo_give.2.1 34 = .ok (.aload_n 0, 1) := by decide +kernel
theorem d_Mo_give_35 : decode m_Mo_give.2.1 35 = .ok (.getfield 63, 3) := by decide +kernel
theorem d_Mo_give_38 : decode m_Mo_give.2.1 38 = .ok (.iload_n 3, 1) := by decide +kernel
theorem d_Mo_give_39 : decode m_Mo_give.2.1 39 = .ok (.iload 4, 2) := by decide +kernel
theorem d_Mo_give_41 : decode m_Mo_give.2.1 41 = .ok (.iadd, 1) := by decide +kernel
theorem d_Mo_give_42 : decode m_Mo_give.2.1 42 = .ok (.aload_n 0, 1) := by decide +kernel
theorem f_Mo_give_69 : jl_fd m_Mo_give 69 7 21 = true := by decide +kernel
theorem d_Mo_give_43 : decode m_Mo_give.2.1 43 = .ok (.getfield 69, 3) := by decide +kernel
theorem d_Mo_give_46 : decode m_Mo_give.2.1 46 = .ok (.iload 4, 2) := by decide +kernel
theorem d_Mo_give_48 : decode m_Mo_give.2.1 48 = .ok (.iaload, 1) := by decide +kernel
theorem d_Mo_give_49 : decode m_Mo_give.2.1 49 = .ok (.iastore, 1) := by decide +kernel
theorem d_Mo_give_50 : decode m_Mo_give.2.1 50 = .ok (.iinc 4 1, 3) := by decide +kernel
theorem d_Mo_give_53 : decode m_Mo_give.2.1 53 = .ok (.goto (-26), 3) := by decide +kernel
theorem mo_give_1 (hl : l.stackTraces = false) {P : jl_O → jl_S → Prop} {m pc h : Nat} {g : Rw} {σ0 : jl_S}  (hm : m < 24) (hpc : pc < 24) (hA : MpM mm m A) (hF : frp fm F) (hg : rv g h) (hl2 : RlM g lo sk h) (hAn : A pc = none) (hT : ∀ s' mm' fm' σ', meetA pr (A, F) pc g h = some s' → MpM mm' m s'.1 → frp fm' s'.2 → MmF m mm mm' → MB σ' tb pr ow ft hs u1 u2 ur ul uo ua uc us ut uk fa vf wh wy (nI h) dp md ov oh dn an lo sk kp mm' fm' → FrM σ0 σ' → P (.inl (some (.int (nI 1)))) σ') : ∀ (nn : Nat) (i : Nat) (σ : jl_S) (mi : Nat → Int32), 6 - i < nn → i ≤ 6 → MB σ tb pr ow ft hs u1 u2 ur ul uo ua uc us ut uk fa vf wh wy (nI h) dp md ov oh dn an lo sk kp mi fm → FrM σ0 σ → WR mm mi (12 * (24 * m + pc)) (fun z => decide (z < i)) g → jl_E l G m_Mo_give (0, 0) 27 [some (.ref 22), some (.int (nI m)), some (.int (nI pc)), some (.int (nI (12 * (24 * m + pc)))), some (.int (nI i)), none, none] [] σ P := by
  intro nn
  induction nn with
  | zero => intro i σ mi hnn; exact absurd hnn (Nat.not_lt_zero _)
  | succ nn ihn =>
    intro i σ mi hnn hi hmb hfr hw2
    obtain ⟨hO, hw, hu, hr, hkp, hmp, hfm⟩ := id hmb; obtain ⟨r1, r2⟩ := id hr
    obtain ⟨h23, h24, h25, h26, h27⟩ := id hw
    obtain ⟨h28, h29, h30, h31, h32, h33, h34, h35, h36, h37⟩ := id hu
    have hh5 := hg.2.1
    refine er_iload d_Mo_give_27 rfl ?_
    refine er_bipush ((nI (6))) d_Mo_give_29 (by decide) ?_
    refine er_icmp_geN 56 d_Mo_give_31 (by decide) (by omega) (by omega) (fun c1 => ?_) (fun c1 => ?_)
    · refine er_iconst ((nI (0))) d_Mo_give_56 (by decide) ?_
      refine er_istore d_Mo_give_57 (by decide) ?_
      show jl_E l G m_Mo_give (0, 0) 59 [some (.ref 22), some (.int (nI m)), some (.int (nI pc)), some (.int (nI (12 * (24 * m + pc)))), some (.int (nI 0)), none, none] [] (σ) P
      exact mo_give_2 hl hm hpc hA hF hg hl2 hAn hT 6 0 σ mi (by omega) (by omega) hmb hfr (hw2.e (fun z hz => by rw [show i = 6 by omega]; rw [Bool.eq_iff_iff]; simp; omega))
    · refine er_aload_n d_Mo_give_34 rfl ?_
      refine er_getf d_Mo_give_35 f_Mo_give_63 hO rfl ?_
      refine er_iload_n d_Mo_give_38 rfl ?_
      refine er_iload d_Mo_give_39 rfl ?_
      refine er_iaddN d_Mo_give_41 ?_
      refine er_aload_n d_Mo_give_42 rfl ?_
      refine er_getf d_Mo_give_43 f_Mo_give_69 hO rfl ?_
      refine er_iload d_Mo_give_46 rfl ?_
      refine er_ialdQ (v := (en (g (i)))) d_Mo_give_48 r1 (by omega) (by omega) (congrArg en (hl2.1 i (by omega))) ?_
      refine er_iastN d_Mo_give_49 hmp (by omega) (by omega) ?_
      show jl_E l G m_Mo_give (0, 0) 50 [some (.ref 22), some (.int (nI m)), some (.int (nI pc)), some (.int (nI (12 * (24 * m + pc)))), some (.int (nI i)), none, none] [] (σ.set (38) (.inl (0, 6912, .inl (upd (mi) ((12 * (24 * m + pc)) + (i)) ((en (g (i)))))))) P
      refine er_iinc ((nI (i + 1))) d_Mo_give_50 (by decide) rfl (jl_inc _) ?_
      show jl_E l G m_Mo_give (0, 0) 53 [some (.ref 22), some (.int (nI m)), some (.int (nI pc)), some (.int (nI (12 * (24 * m + pc)))), some (.int (nI (i + 1))), none, none] [] (σ.set (38) (.inl (0, 6912, .inl (upd (mi) ((12 * (24 * m + pc)) + (i)) ((en (g (i)))))))) P
      refine er_goto 27 d_Mo_give_53 (by decide) ?_
      exact ihn (i + 1) _ _ (by omega) (by omega) hmb.s38 (hfr.set (by omega)) (hw2.s (i := i) (q' := (fun z => decide (z < i + 1))) (by omega) rfl (fun z hz => by rw [Bool.eq_iff_iff]; simp; omega))
end JMv
