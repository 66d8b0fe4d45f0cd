/-! the model: push, give (wip/gen/p79.py) -/
section JMv
variable {l : Launch} {G : jl_G} {σ : jl_S}
variable {tb : Nat → Bool} {pr : Nat → Option Nat} {ow fi ft : Nat → Nat} {hs : Nat → Bool} {fa vf wh wy hg dp md ov oh dn an : Int32}
variable {u1 u2 : Nat → Option Nat} {ur ul uo : Nat → Nat} {ua : Nat → Int32} {uc us ut uk : Nat → Nat}
variable {lo sk kp : Rw} {mm : Nat → Int32} {fm : Nat → Bool}
variable {A : Nat → Option Rw} {F : Nat → Bool}
theorem d_Mo_push_0 : decode m_Mo_push.2.1 0 = .ok (.aload_n 0, 1) := by decide +kernel
theorem f_Mo_push_72 : jl_fd m_Mo_push 72 7 22 = true := by decide +kernel
theorem d_Mo_push_1 : decode m_Mo_push.2.1 1 = .ok (.getfield 72, 3) := by decide +kernel
theorem d_Mo_push_4 : decode m_Mo_push.2.1 4 = .ok (.aload_n 0, 1) := by decide +kernel
theorem f_Mo_push_179 : jl_fd m_Mo_push 179 7 23 = true := by decide +kernel
theorem d_Mo_push_5 : decode m_Mo_push.2.1 5 = .ok (.getfield 179, 3) := by decide +kernel
theorem d_Mo_push_8 : decode m_Mo_push.2.1 8 = .ok (.iload_n 1, 1) := by decide +kernel
theorem d_Mo_push_9 : decode m_Mo_push.2.1 9 = .ok (.iastore, 1) := by decide +kernel
theorem d_Mo_push_10 : decode m_Mo_push.2.1 10 = .ok (.aload_n 0, 1) := by decide +kernel
theorem d_Mo_push_11 : decode m_Mo_push.2.1 11 = .ok (.dup, 1) := by decide +kernel
theorem d_Mo_push_12 : decode m_Mo_push.2.1 12 = .ok (.getfield 179, 3) := by decide +kernel
theorem d_Mo_push_15 : decode m_Mo_push.2.1 15 = .ok (.iconst 1, 1) := by decide +kernel
theorem d_Mo_push_16 : decode m_Mo_push.2.1 16 = .ok (.iadd, 1) := by decide +kernel
theorem p_Mo_push_179 : jl_fp m_Mo_push 179 7 23 = true := by decide +kernel
theorem d_Mo_push_17 : decode m_Mo_push.2.1 17 = .ok (.putfield 179, 3) := by decide +kernel
theorem d_Mo_push_20 : decode m_Mo_push.2.1 20 = .ok (.return_, 1) := by decide +kernel
theorem mo_push (hl : l.stackTraces = false) {h : Nat} {t : Option Nat} (hO : MoO σ fa vf wh wy (nI h) dp md ov oh dn an) (r2 : σ[41]? = some (.inl (0, 8, .inl fun j => en (sk j)))) (hh : h < 8) : jl_m l G m_Mo_push [.ref 22, .int (en t)] σ (.inl none) ((σ.set 41 (.inl (0, 8, .inl fun j => en (va_up sk h t j)))).set 22 (.inr (7, MoF fa vf wh wy (nI (h + 1)) dp md ov oh dn an))) := by
  refine jl_of (as := [.ref 22, .int (en t)]) rfl (by decide) hl (jl_cc rfl (jl_cc rfl jl_ca)) (Nat.le_of_ble_eq_true rfl) ?_
  show jl_W l G m_Mo_push (0, 0) 0 [some (.ref 22), some (.int (en t))] [] (σ) (.inl none) ((σ.set 41 (.inl (0, 8, .inl fun j => en (va_up sk h t j)))).set 22 (.inr (7, MoF fa vf wh wy (nI (h + 1)) dp md ov oh dn an)))
  refine jr_aload_n d_Mo_push_0 rfl ?_
  refine jr_getf d_Mo_push_1 f_Mo_push_72 hO rfl ?_
  refine jr_aload_n d_Mo_push_4 rfl ?_
  refine jr_getf d_Mo_push_5 f_Mo_push_179 hO rfl ?_
  refine jr_iload_n d_Mo_push_8 rfl ?_
  refine jr_iastN d_Mo_push_9 r2 (by omega) (by omega) ?_
  rw [show upd (fun j => en (sk j)) (h) ((en t)) = (fun j => en ((va_up sk (h) (t)) j)) from en_up sk (h) (t)]
  show jl_W l G m_Mo_push (0, 0) 10 [some (.ref 22), some (.int (en t))] [] (σ.set (41) (.inl (0, 8, .inl (fun j => en ((va_up sk (h) (t)) j))))) (.inl none) ((σ.set 41 (.inl (0, 8, .inl fun j => en (va_up sk h t j)))).set 22 (.inr (7, MoF fa vf wh wy (nI (h + 1)) dp md ov oh dn an)))
  refine jr_aload_n d_Mo_push_10 rfl ?_
  refine jr_dup d_Mo_push_11 rfl ?_
  refine jr_getf d_Mo_push_12 f_Mo_push_179 (jl_sn (by decide) hO) rfl ?_
  refine jr_iconst ((nI (1))) d_Mo_push_15 (by decide) ?_
  refine jr_iaddN d_Mo_push_16 ?_
  refine jr_putf d_Mo_push_17 p_Mo_push_179 (jl_sn (by decide) hO) (Nat.le_of_ble_eq_true rfl) jl_fit_int ?_
  show jl_W l G m_Mo_push (0, 0) 20 [some (.ref 22), some (.int (en t))] [] ((σ.set (41) (.inl (0, 8, .inl (fun j => en ((va_up sk (h) (t)) j))))).set (22) (.inr (7, [.int (fa), .ref 23, .ref 24, .ref 25, .ref 26, .ref 27, .ref 28, .ref 29, .ref 30, .ref 31, .ref 32, .ref 33, .ref 34, .ref 35, .ref 36, .ref 37, .int (vf), .int (wh), .int (wy), .ref 38, .ref 39, .ref 40, .ref 41, .int (nI ((h) + (1))), .ref 42, .ref 43, .ref 44, .ref 45, .ref 46, .ref 47, .ref 48, .ref 49, .int (dp), .ref 50, .ref 51, .ref 52, .int (md), .int (ov), .int (oh), .int (dn), .int (an)]))) (.inl none) ((σ.set 41 (.inl (0, 8, .inl fun j => en (va_up sk h t j)))).set 22 (.inr (7, MoF fa vf wh wy (nI (h + 1)) dp md ov oh dn an)))
  exact jr_vretE d_Mo_push_20 rfl (rfl) (rfl) (by decide) (by decide)
theorem d_Mo_give_59 : decode m_Mo_give.2.1 59 = .ok (.iload 4, 2) := by decide +kernel
theorem d_Mo_give_61 : decode m_Mo_give.2.1 61 = .ok (.iconst 5, 1) := by decide +kernel
theorem d_Mo_give_62 : decode m_Mo_give.2.1 62 = .ok (.if_icmp .ge 41, 3) := by decide +kernel
theorem d_Mo_give_103 : decode m_Mo_give.2.1 103 = .ok (.aload_n 0, 1) := by decide +kernel
theorem f_Mo_give_63 : jl_fd m_Mo_give 63 7 19 = true := by decide +kernel
theorem d_Mo_give_104 : decode m_Mo_give.2.1 104 = .ok (.getfield 63, 3) := by decide +kernel
theorem d_Mo_give_107 : decode m_Mo_give.2.1 107 = .ok (.iload_n 3, 1) := by decide +kernel
theorem d_Mo_give_108 : decode m_Mo_give.2.1 108 = .ok (.bipush 6, 2) := by decide +kernel
theorem d_Mo_give_110 : decode m_Mo_give.2.1 110 = .ok (.iadd, 1) := by decide +kernel
theorem d_Mo_give_111 : decode m_Mo_give.2.1 111 = .ok (.aload_n 0, 1) := by decide +kernel
theorem f_Mo_give_179 : jl_fd m_Mo_give 179 7 23 = true := by decide +kernel
theorem d_Mo_give_112 : decode m_Mo_give.2.1 112 = .ok (.getfield 179, 3) := by decide +kernel
theorem d_Mo_give_115 : decode m_Mo_give.2.1 115 = .ok (.iastore, 1) := by decide +kernel
theorem d_Mo_give_116 : decode m_Mo_give.2.1 116 = .ok (.aload_n 0, 1) := by decide +kernel
theorem f_Mo_give_66 : jl_fd m_Mo_give 66 7 20 = true := by decide +kernel
theorem d_Mo_give_117 : decode m_Mo_give.2.1 117 = .ok (.getfield 66, 3) := by decide +kernel
theorem d_Mo_give_120 : decode m_Mo_give.2.1 120 = .ok (.iload_n 2, 1) := by decide +kernel
theorem d_Mo_give_121 : decode m_Mo_give.2.1 121 = .ok (.iconst 1, 1) := by decide +kernel
theorem d_Mo_give_122 : decode m_Mo_give.2.1 122 = .ok (.bastore, 1) := by decide +kernel
theorem d_Mo_give_123 : decode m_Mo_give.2.1 123 = .ok (.iconst 1, 1) := by decide +kernel
theorem d_Mo_give_124 : decode m_Mo_give.2.1 124 = .ok (.ireturn, 1) := by decide +kernel
theorem d_Mo_give_65 : decode m_Mo_give.2.1 65 = .ok (.aload_n 0, 1) := by decide +kernel
theorem d_Mo_give_66 : decode m_Mo_give.2.1 66 = .ok (.getfield 63, 3) := by decide +kernel
theorem d_Mo_give_69 : decode m_Mo_give.2.1 69 = .ok (.iload_n 3, 1) := by decide +kernel
theorem d_Mo_give_70 : decode m_Mo_give.2.1 70 = .ok (.bipush 7, 2) := by decide +kernel
theorem d_Mo_give_72 : decode m_Mo_give.2.1 72 = .ok (.iadd, 1) := by decide +kernel
theorem d_Mo_give_73 : decode m_Mo_give.2.1 73 = .ok (.iload 4, 2) := by decide +kernel
theorem d_Mo_give_75 : decode m_Mo_give.2.1 75 = .ok (.iadd, 1) := by decide +kernel
theorem d_Mo_give_76 : decode m_Mo_give.2.1 76 = .ok (.iload 4, 2) := by decide +kernel
theorem d_Mo_give_78 : decode m_Mo_give.2.1 78 = .ok (.aload_n 0, 1) := by decide +kernel
theorem d_Mo_give_79 : decode m_Mo_give.2.1 79 = .ok (.getfield 179, 3) := by decide +kernel
theorem d_Mo_give_82 : decode m_Mo_give.2.1 82 = .ok (.if_icmp .ge 13, 3) := by decide +kernel
theorem d_Mo_give_95 : decode m_Mo_give.2.1 95 = .ok (.iconst (-1), 1) := by decide +kernel
theorem d_Mo_give_96 : decode m_Mo_give.2.1 96 = .ok (.iastore, 1) := by decide +kernel
theorem d_Mo_give_97 : decode m_Mo_give.2.1 97 = .ok (.iinc 4 1, 3) := by decide +kernel
theorem d_Mo_give_100 : decode m_Mo_give.2.1 100 = .ok (.goto (-41), 3) := by decide +kernel
theorem d_Mo_give_85 : decode m_Mo_give.2.1 85 = .ok (.aload_n 0, 1) := by decide +kernel
theorem f_Mo_give_72 : jl_fd m_Mo_give 72 7 22 = true := by decide +kernel
theorem d_Mo_give_86 : decode m_Mo_give.2.1 86 = .ok (.getfield 72, 3) := by decide +kernel
theorem d_Mo_give_89 : decode m_Mo_give.2.1 89 = .ok (.iload 4, 2) := by decide +kernel
theorem d_Mo_give_91 : decode m_Mo_give.2.1 91 = .ok (.iaload, 1) := by decide +kernel
theorem d_Mo_give_92 : decode m_Mo_give.2.1 92 = .ok (.goto 4, 3) := by decide +kernel
theorem mo_give_2 (hl : l.stackTraces = false) {P : jl_O → jl_S → Prop} {m pc h : Nat} {g : Rw} {σ0 : jl_S}  (hm : m < 24) (hpc : pc < 24) (hA : MpM mm m A) (hF : frp fm F) (hg : rv g h) (hl2 : RlM g lo sk h) (hAn : A pc = none) (hT : ∀ s' mm' fm' σ', meetA pr (A, F) pc g h = some s' → MpM mm' m s'.1 → frp fm' s'.2 → MmF m mm mm' → MB σ' tb pr ow ft hs u1 u2 ur ul uo ua uc us ut uk fa vf wh wy (nI h) dp md ov oh dn an lo sk kp mm' fm' → FrM σ0 σ' → P (.inl (some (.int (nI 1)))) σ') : ∀ (nn : Nat) (i : Nat) (σ : jl_S) (mi : Nat → Int32), 5 - i < nn → i ≤ 5 → MB σ tb pr ow ft hs u1 u2 ur ul uo ua uc us ut uk fa vf wh wy (nI h) dp md ov oh dn an lo sk kp mi fm → FrM σ0 σ → WR mm mi (12 * (24 * m + pc)) (fun z => decide (z < 6) || (decide (7 ≤ z) && decide (z < 7 + i))) g → jl_E l G m_Mo_give (0, 0) 59 [some (.ref 22), some (.int (nI m)), some (.int (nI pc)), some (.int (nI (12 * (24 * m + pc)))), some (.int (nI i)), none, none] [] σ P := by
  intro nn
  induction nn with
  | zero => intro i σ mi hnn; exact absurd hnn (Nat.not_lt_zero _)
  | succ nn ihn =>
    intro i σ mi hnn hi hmb hfr hw2
    obtain ⟨hO, hw, hu, hr, hkp, hmp, hfm⟩ := id hmb; obtain ⟨r1, r2⟩ := id hr
    obtain ⟨h23, h24, h25, h26, h27⟩ := id hw
    obtain ⟨h28, h29, h30, h31, h32, h33, h34, h35, h36, h37⟩ := id hu
    have hh5 := hg.2.1
    refine er_iload d_Mo_give_59 rfl ?_
    refine er_iconst ((nI (5))) d_Mo_give_61 (by decide) ?_
    refine er_icmp_geN 103 d_Mo_give_62 (by decide) (by omega) (by omega) (fun c1 => ?_) (fun c1 => ?_)
    · refine er_aload_n d_Mo_give_103 rfl ?_
      refine er_getf d_Mo_give_104 f_Mo_give_63 hO rfl ?_
      refine er_iload_n d_Mo_give_107 rfl ?_
      refine er_bipush ((nI (6))) d_Mo_give_108 (by decide) ?_
      refine er_iaddN d_Mo_give_110 ?_
      refine er_aload_n d_Mo_give_111 rfl ?_
      refine er_getf d_Mo_give_112 f_Mo_give_179 hO rfl ?_
      refine er_iastN d_Mo_give_115 hmp (by omega) (by omega) ?_
      show jl_E l G m_Mo_give (0, 0) 116 [some (.ref 22), some (.int (nI m)), some (.int (nI pc)), some (.int (nI (12 * (24 * m + pc)))), some (.int (nI i)), none, none] [] (σ.set (38) (.inl (0, 6912, .inl (upd (mi) ((12 * (24 * m + pc)) + (6)) ((nI (h))))))) P
      refine er_aload_n d_Mo_give_116 rfl ?_
      refine er_getf d_Mo_give_117 f_Mo_give_66 (jl_sn (by decide) hO) rfl ?_
      refine er_iload_n d_Mo_give_120 rfl ?_
      refine er_iconst ((nI (1))) d_Mo_give_121 (by decide) ?_
      refine er_bastN d_Mo_give_122 (jl_sn (by decide) hfm) (by omega) (by omega) (by decide) ?_
      rw [show upd (fun j => bi (fm j)) (pc) ((nI (1))) = (fun j => bi ((va_up fm (pc) (true)) j)) from bi_up fm (pc) (true)]
      show jl_E l G m_Mo_give (0, 0) 123 [some (.ref 22), some (.int (nI m)), some (.int (nI pc)), some (.int (nI (12 * (24 * m + pc)))), some (.int (nI i)), none, none] [] ((σ.set (38) (.inl (0, 6912, .inl (upd (mi) ((12 * (24 * m + pc)) + (6)) ((nI (h))))))).set (39) (.inl (1, 24, .inl (fun j => bi ((va_up fm (pc) (true)) j))))) P
      refine er_iconst ((nI (1))) d_Mo_give_123 (by decide) ?_
      exact er_zret d_Mo_give_124 rfl (by decide) (hT (va_up A pc (some g), va_up F pc true) _ _ _ (by unfold meetA; simp only [hAn]) ((hw2.s (i := 6) (q' := fun _ => true) (by omega) (congrArg en hg.1).symm (fun z hz => by rw [show i = 5 by omega]; rw [Bool.eq_iff_iff]; simp; omega)).up hA (fun z _ hq => by cases hq)) (hF.up pc true) ((hw2.s (i := 6) (q' := fun _ => true) (by omega) (congrArg en hg.1).symm (fun z hz => by rw [show i = 5 by omega]; rw [Bool.eq_iff_iff]; simp; omega)).mf hpc) (hmb.s38.s39) ((hfr.set (by omega)).set (by omega))) (by decide) (by decide)
    · refine er_aload_n d_Mo_give_65 rfl ?_
      refine er_getf d_Mo_give_66 f_Mo_give_63 hO rfl ?_
      refine er_iload_n d_Mo_give_69 rfl ?_
      refine er_bipush ((nI (7))) d_Mo_give_70 (by decide) ?_
      refine er_iaddN d_Mo_give_72 ?_
      refine er_iload d_Mo_give_73 rfl ?_
      refine er_iaddN d_Mo_give_75 ?_
      refine er_iload d_Mo_give_76 rfl ?_
      refine er_aload_n d_Mo_give_78 rfl ?_
      refine er_getf d_Mo_give_79 f_Mo_give_179 hO rfl ?_
      refine er_icmp_geN 95 d_Mo_give_82 (by decide) (by omega) (by omega) (fun c2 => ?_) (fun c2 => ?_)
      · refine er_iconst ((-1)) d_Mo_give_95 (by decide) ?_
        refine er_iastN d_Mo_give_96 hmp (by omega) (by omega) ?_
        show jl_E l G m_Mo_give (0, 0) 97 [some (.ref 22), some (.int (nI m)), some (.int (nI pc)), some (.int (nI (12 * (24 * m + pc)))), some (.int (nI i)), none, none] [] (σ.set (38) (.inl (0, 6912, .inl (upd (mi) (((12 * (24 * m + pc)) + (7)) + (i)) ((-1)))))) P
        refine er_iinc ((nI (i + 1))) d_Mo_give_97 (by decide) rfl (jl_inc _) ?_
        show jl_E l G m_Mo_give (0, 0) 100 [some (.ref 22), some (.int (nI m)), some (.int (nI pc)), some (.int (nI (12 * (24 * m + pc)))), some (.int (nI (i + 1))), none, none] [] (σ.set (38) (.inl (0, 6912, .inl (upd (mi) (((12 * (24 * m + pc)) + (7)) + (i)) ((-1)))))) P
        refine er_goto 59 d_Mo_give_100 (by decide) ?_
        exact ihn (i + 1) _ _ (by omega) (by omega) hmb.s38 (hfr.set (by omega)) (by have z := hw2.s (i := 7 + i) (q' := (fun z => decide (z < 6) || (decide (7 ≤ z) && decide (z < 7 + (i + 1))))) (by omega) (by rw [hg.2.2.2.2 i (by omega) (by omega)]) (fun z hz => by simp only [Bool.or_assoc]; congr 1; rw [Bool.eq_iff_iff]; simp; omega); rw [show 12 * (24 * m + pc) + (7 + i) = 12 * (24 * m + pc) + 7 + i by omega] at z; exact z)
      · refine er_aload_n d_Mo_give_85 rfl ?_
        refine er_getf d_Mo_give_86 f_Mo_give_72 hO rfl ?_
        refine er_iload d_Mo_give_89 rfl ?_
        refine er_ialdQ (v := (en (g (7 + i)))) d_Mo_give_91 r2 (by omega) (by omega) (congrArg en (hl2.2 i (by omega))) ?_
        refine er_goto 96 d_Mo_give_92 (by decide) ?_
        refine er_iastN d_Mo_give_96 hmp (by omega) (by omega) ?_
        show jl_E l G m_Mo_give (0, 0) 97 [some (.ref 22), some (.int (nI m)), some (.int (nI pc)), some (.int (nI (12 * (24 * m + pc)))), some (.int (nI i)), none, none] [] (σ.set (38) (.inl (0, 6912, .inl (upd (mi) (((12 * (24 * m + pc)) + (7)) + (i)) ((en (g (7 + i)))))))) P
        refine er_iinc ((nI (i + 1))) d_Mo_give_97 (by decide) rfl (jl_inc _) ?_
        show jl_E l G m_Mo_give (0, 0) 100 [some (.ref 22), some (.int (nI m)), some (.int (nI pc)), some (.int (nI (12 * (24 * m + pc)))), some (.int (nI (i + 1))), none, none] [] (σ.set (38) (.inl (0, 6912, .inl (upd (mi) (((12 * (24 * m + pc)) + (7)) + (i)) ((en (g (7 + i)))))))) P
        refine er_goto 59 d_Mo_give_100 (by decide) ?_
        exact ihn (i + 1) _ _ (by omega) (by omega) hmb.s38 (hfr.set (by omega)) (by have z := hw2.s (i := 7 + i) (q' := (fun z => decide (z < 6) || (decide (7 ≤ z) && decide (z < 7 + (i + 1))))) (by omega) rfl (fun z hz => by simp only [Bool.or_assoc]; congr 1; rw [Bool.eq_iff_iff]; simp; omega); rw [show 12 * (24 * m + pc) + (7 + i) = 12 * (24 * m + pc) + 7 + i by omega] at z; exact z)
theorem d_Mo_give_27 : decode m_Mo_give.2.1 27 = .ok (.iload 4, 2) := by decide +kernel
theorem d_Mo_give_29 : decode m_Mo_give.2.1 29 = .ok (.bipush 6, 2) := by decide +kernel
theorem d_Mo_give_31 : decode m_Mo_give.2.1 31 = .ok (.if_icmp .ge 25, 3) := by decide +kernel
theorem d_Mo_give_56 : decode m_Mo_give.2.1 56 = .ok (.iconst 0, 1) := by decide +kernel
theorem d_Mo_give_57 : decode m_Mo_give.2.1 57 = .ok (.istore 4, 2) := by decide +kernel
theorem d_Mo_give_34 : decode m_Mo_give.2.1 34 = .ok (.aload_n 0, 1) := by decide +kernel
theorem d_Mo_give_35 : decode m_Mo_give.2.1 35 = .ok (.getfield 63, 3) := by decide +kernel
theorem d_Mo_give_38 : decode m_Mo_give.2.1 38 = .ok (.iload_n 3, 1) := by decide +kernel
theorem d_Mo_give_39 : decode m_Mo_give.2.1 39 = .ok (.iload 4, 2) := by decide +kernel
theorem d_Mo_give_41 : decode m_Mo_give.2.1 41 = .ok (.iadd, 1) := by decide +kernel
theorem d_Mo_give_42 : decode m_Mo_give.2.1 42 = .ok (.aload_n 0, 1) := by decide +kernel
theorem f_Mo_give_69 : jl_fd m_Mo_give 69 7 21 = true := by decide +kernel
theorem d_Mo_give_43 : decode m_Mo_give.2.1 43 = .ok (.getfield 69, 3) := by decide +kernel
theorem d_Mo_give_46 : decode m_Mo_give.2.1 46 = .ok (.iload 4, 2) := by decide +kernel
theorem d_Mo_give_48 : decode m_Mo_give.2.1 48 = .ok (.iaload, 1) := by decide +kernel
theorem d_Mo_give_49 : decode m_Mo_give.2.1 49 = .ok (.iastore, 1) := by decide +kernel
theorem d_Mo_give_50 : decode m_Mo_give.2.1 50 = .ok (.iinc 4 1, 3) := by decide +kernel
theorem d_Mo_give_53 : decode m_Mo_give.2.1 53 = .ok (.goto (-26), 3) := by decide +kernel
theorem mo_give_1 (hl : l.stackTraces = false) {P : jl_O → jl_S → Prop} {m pc h : Nat} {g : Rw} {σ0 : jl_S}  (hm : m < 24) (hpc : pc < 24) (hA : MpM mm m A) (hF : frp fm F) (hg : rv g h) (hl2 : RlM g lo sk h) (hAn : A pc = none) (hT : ∀ s' mm' fm' σ', meetA pr (A, F) pc g h = some s' → MpM mm' m s'.1 → frp fm' s'.2 → MmF m mm mm' → MB σ' tb pr ow ft hs u1 u2 ur ul uo ua uc us ut uk fa vf wh wy (nI h) dp md ov oh dn an lo sk kp mm' fm' → FrM σ0 σ' → P (.inl (some (.int (nI 1)))) σ') : ∀ (nn : Nat) (i : Nat) (σ : jl_S) (mi : Nat → Int32), 6 - i < nn → i ≤ 6 → MB σ tb pr ow ft hs u1 u2 ur ul uo ua uc us ut uk fa vf wh wy (nI h) dp md ov oh dn an lo sk kp mi fm → FrM σ0 σ → WR mm mi (12 * (24 * m + pc)) (fun z => decide (z < i)) g → jl_E l G m_Mo_give (0, 0) 27 [some (.ref 22), some (.int (nI m)), some (.int (nI pc)), some (.int (nI (12 * (24 * m + pc)))), some (.int (nI i)), none, none] [] σ P := by
  intro nn
  induction nn with
  | zero => intro i σ mi hnn; exact absurd hnn (Nat.not_lt_zero _)
  | succ nn ihn =>
    intro i σ mi hnn hi hmb hfr hw2
    obtain ⟨hO, hw, hu, hr, hkp, hmp, hfm⟩ := id hmb; obtain ⟨r1, r2⟩ := id hr
    obtain ⟨h23, h24, h25, h26, h27⟩ := id hw
    obtain ⟨h28, h29, h30, h31, h32, h33, h34, h35, h36, h37⟩ := id hu
    have hh5 := hg.2.1
    refine er_iload d_Mo_give_27 rfl ?_
    refine er_bipush ((nI (6))) d_Mo_give_29 (by decide) ?_
    refine er_icmp_geN 56 d_Mo_give_31 (by decide) (by omega) (by omega) (fun c1 => ?_) (fun c1 => ?_)
    · refine er_iconst ((nI (0))) d_Mo_give_56 (by decide) ?_
      refine er_istore d_Mo_give_57 (by decide) ?_
      show jl_E l G m_Mo_give (0, 0) 59 [some (.ref 22), some (.int (nI m)), some (.int (nI pc)), some (.int (nI (12 * (24 * m + pc)))), some (.int (nI 0)), none, none] [] (σ) P
      exact mo_give_2 hl hm hpc hA hF hg hl2 hAn hT 6 0 σ mi (by omega) (by omega) hmb hfr (hw2.e (fun z hz => by rw [show i = 6 by omega]; rw [Bool.eq_iff_iff]; simp; omega))
    · refine er_aload_n d_Mo_give_34 rfl ?_
      refine er_getf d_Mo_give_35 f_Mo_give_63 hO rfl ?_
      refine er_iload_n d_Mo_give_38 rfl ?_
      refine er_iload d_Mo_give_39 rfl ?_
      refine er_iaddN d_Mo_give_41 ?_
      refine er_aload_n d_Mo_give_42 rfl ?_
      refine er_getf d_Mo_give_43 f_Mo_give_69 hO rfl ?_
      refine er_iload d_Mo_give_46 rfl ?_
      refine er_ialdQ (v := (en (g (i)))) d_Mo_give_48 r1 (by omega) (by omega) (congrArg en (hl2.1 i (by omega))) ?_
      refine er_iastN d_Mo_give_49 hmp (by omega) (by omega) ?_
      show jl_E l G m_Mo_give (0, 0) 50 [some (.ref 22), some (.int (nI m)), some (.int (nI pc)), some (.int (nI (12 * (24 * m + pc)))), some (.int (nI i)), none, none] [] (σ.set (38) (.inl (0, 6912, .inl (upd (mi) ((12 * (24 * m + pc)) + (i)) ((en (g (i)))))))) P
      refine er_iinc ((nI (i + 1))) d_Mo_give_50 (by decide) rfl (jl_inc _) ?_
      show jl_E l G m_Mo_give (0, 0) 53 [some (.ref 22), some (.int (nI m)), some (.int (nI pc)), some (.int (nI (12 * (24 * m + pc)))), some (.int (nI (i + 1))), none, none] [] (σ.set (38) (.inl (0, 6912, .inl (upd (mi) ((12 * (24 * m + pc)) + (i)) ((en (g (i)))))))) P
      refine er_goto 27 d_Mo_give_53 (by decide) ?_
      exact ihn (i + 1) _ _ (by omega) (by omega) hmb.s38 (hfr.set (by omega)) (hw2.s (i := i) (q' := (fun z => decide (z < i + 1))) (by omega) rfl (fun z hz => by rw [Bool.eq_iff_iff]; simp; omega))
theorem d_Mo_give_269 : decode m_Mo_give.2.1 269 = .ok (.iload 5, 2) := by decide +kernel
theorem d_Mo_give_271 : decode m_Mo_give.2.1 271 = .ok (.aload_n 0, 1) := by decide +kernel
theorem d_Mo_give_272 : decode m_Mo_give.2.1 272 = .ok (.getfield 179, 3) := by decide +kernel
theorem d_Mo_give_275 : decode m_Mo_give.2.1 275 = .ok (.if_icmp .ge 75, 3) := by decide +kernel
theorem d_Mo_give_350 : decode m_Mo_give.2.1 350 = .ok (.iload 4, 2) := by decide +kernel
theorem d_Mo_give_352 : decode m_Mo_give.2.1 352 = .ok (.ifCond .eq 10, 3) := by decide +kernel
theorem d_Mo_give_362 : decode m_Mo_give.2.1 362 = .ok (.iconst 1, 1) := by decide +kernel
theorem d_Mo_give_363 : decode m_Mo_give.2.1 363 = .ok (.ireturn, 1) := by decide +kernel
theorem d_Mo_give_355 : decode m_Mo_give.2.1 355 = .ok (.aload_n 0, 1) := by decide +kernel
theorem d_Mo_give_356 : decode m_Mo_give.2.1 356 = .ok (.getfield 66, 3) := by decide +kernel
theorem d_Mo_give_359 : decode m_Mo_give.2.1 359 = .ok (.iload_n 2, 1) := by decide +kernel
theorem d_Mo_give_360 : decode m_Mo_give.2.1 360 = .ok (.iconst 1, 1) := by decide +kernel
theorem d_Mo_give_361 : decode m_Mo_give.2.1 361 = .ok (.bastore, 1) := by decide +kernel
theorem d_Mo_give_278 : decode m_Mo_give.2.1 278 = .ok (.aload_n 0, 1) := by decide +kernel
theorem d_Mo_give_279 : decode m_Mo_give.2.1 279 = .ok (.aload_n 0, 1) := by decide +kernel
theorem d_Mo_give_280 : decode m_Mo_give.2.1 280 = .ok (.getfield 63, 3) := by decide +kernel
theorem d_Mo_give_283 : decode m_Mo_give.2.1 283 = .ok (.iload_n 3, 1) := by decide +kernel
theorem d_Mo_give_284 : decode m_Mo_give.2.1 284 = .ok (.bipush 7, 2) := by decide +kernel
theorem d_Mo_give_286 : decode m_Mo_give.2.1 286 = .ok (.iadd, 1) := by decide +kernel
theorem d_Mo_give_287 : decode m_Mo_give.2.1 287 = .ok (.iload 5, 2) := by decide +kernel
theorem d_Mo_give_289 : decode m_Mo_give.2.1 289 = .ok (.iadd, 1) := by decide +kernel
theorem d_Mo_give_290 : decode m_Mo_give.2.1 290 = .ok (.iaload, 1) := by decide +kernel
theorem d_Mo_give_291 : decode m_Mo_give.2.1 291 = .ok (.aload_n 0, 1) := by decide +kernel
theorem d_Mo_give_292 : decode m_Mo_give.2.1 292 = .ok (.getfield 72, 3) := by decide +kernel
theorem d_Mo_give_295 : decode m_Mo_give.2.1 295 = .ok (.iload 5, 2) := by decide +kernel
theorem d_Mo_give_297 : decode m_Mo_give.2.1 297 = .ok (.iaload, 1) := by decide +kernel
theorem k_Mo_give_189 : jl_cv m_Mo_give m_Mo_join 189 2 = true := by decide +kernel
theorem d_Mo_give_298 : decode m_Mo_give.2.1 298 = .ok (.invokevirtual 189, 3) := by decide +kernel
theorem d_Mo_give_301 : decode m_Mo_give.2.1 301 = .ok (.istore 6, 2) := by decide +kernel
theorem d_Mo_give_303 : decode m_Mo_give.2.1 303 = .ok (.iload 4, 2) := by decide +kernel
theorem d_Mo_give_305 : decode m_Mo_give.2.1 305 = .ok (.iload 6, 2) := by decide +kernel
theorem d_Mo_give_307 : decode m_Mo_give.2.1 307 = .ok (.aload_n 0, 1) := by decide +kernel
theorem d_Mo_give_308 : decode m_Mo_give.2.1 308 = .ok (.getfield 63, 3) := by decide +kernel
theorem d_Mo_give_311 : decode m_Mo_give.2.1 311 = .ok (.iload_n 3, 1) := by decide +kernel
theorem d_Mo_give_312 : decode m_Mo_give.2.1 312 = .ok (.bipush 7, 2) := by decide +kernel
theorem d_Mo_give_314 : decode m_Mo_give.2.1 314 = .ok (.iadd, 1) := by decide +kernel
theorem d_Mo_give_315 : decode m_Mo_give.2.1 315 = .ok (.iload 5, 2) := by decide +kernel
theorem d_Mo_give_317 : decode m_Mo_give.2.1 317 = .ok (.iadd, 1) := by decide +kernel
theorem d_Mo_give_318 : decode m_Mo_give.2.1 318 = .ok (.iaload, 1) := by decide +kernel
theorem d_Mo_give_319 : decode m_Mo_give.2.1 319 = .ok (.if_icmp .eq 7, 3) := by decide +kernel
theorem d_Mo_give_326 : decode m_Mo_give.2.1 326 = .ok (.iconst 0, 1) := by decide +kernel
theorem d_Mo_give_327 : decode m_Mo_give.2.1 327 = .ok (.ior, 1) := by decide +kernel
theorem d_Mo_give_328 : decode m_Mo_give.2.1 328 = .ok (.istore 4, 2) := by decide +kernel
theorem d_Mo_give_330 : decode m_Mo_give.2.1 330 = .ok (.aload_n 0, 1) := by decide +kernel
theorem d_Mo_give_331 : decode m_Mo_give.2.1 331 = .ok (.getfield 63, 3) := by decide +kernel
theorem d_Mo_give_334 : decode m_Mo_give.2.1 334 = .ok (.iload_n 3, 1) := by decide +kernel
theorem d_Mo_give_335 : decode m_Mo_give.2.1 335 = .ok (.bipush 7, 2) := by decide +kernel
theorem d_Mo_give_337 : decode m_Mo_give.2.1 337 = .ok (.iadd, 1) := by decide +kernel
theorem d_Mo_give_338 : decode m_Mo_give.2.1 338 = .ok (.iload 5, 2) := by decide +kernel
theorem d_Mo_give_340 : decode m_Mo_give.2.1 340 = .ok (.iadd, 1) := by decide +kernel
theorem d_Mo_give_341 : decode m_Mo_give.2.1 341 = .ok (.iload 6, 2) := by decide +kernel
theorem d_Mo_give_343 : decode m_Mo_give.2.1 343 = .ok (.iastore, 1) := by decide +kernel
theorem d_Mo_give_344 : decode m_Mo_give.2.1 344 = .ok (.iinc 5 1, 3) := by decide +kernel
theorem d_Mo_give_347 : decode m_Mo_give.2.1 347 = .ok (.goto (-78), 3) := by decide +kernel
theorem d_Mo_give_322 : decode m_Mo_give.2.1 322 = .ok (.iconst 1, 1) := by decide +kernel
theorem d_Mo_give_323 : decode m_Mo_give.2.1 323 = .ok (.goto 4, 3) := by decide +kernel
theorem mo_give_5 (hl : l.stackTraces = false) {P : jl_O → jl_S → Prop} {m pc h : Nat} {g r : Rw} {σ0 : jl_S}  (hok : WoOk tb pr ow fi) (hm : m < 24) (hpc : pc < 24) (hA : MpM mm m A) (hF : frp fm F) (hg : rv g h) (hl2 : RlM g lo sk h) (hAs : A pc = some r) (hrv : rv r h)  (hnb : mbad pr r g h = false) (hT : ∀ s' mm' fm' σ', meetA pr (A, F) pc g h = some s' → MpM mm' m s'.1 → frp fm' s'.2 → MmF m mm mm' → MB σ' tb pr ow ft hs u1 u2 ur ul uo ua uc us ut uk fa vf wh wy (nI h) dp md ov oh dn an lo sk kp mm' fm' → FrM σ0 σ' → P (.inl (some (.int (nI 1)))) σ') : ∀ (nn : Nat) (i : Nat) (σ : jl_S) (mi : Nat → Int32) (ch : Bool), h - i < nn → i ≤ h → MB σ tb pr ow ft hs u1 u2 ur ul uo ua uc us ut uk fa vf wh wy (nI h) dp md ov oh dn an lo sk kp mi fm → FrM σ0 σ → WR mm mi (12 * (24 * m + pc)) (fun z => decide (z < 6) || (decide (7 ≤ z) && decide (z < 7 + i))) (jrow pr r g h) → WC r (jrow pr r g h) (fun z => decide (z < 6) || (decide (7 ≤ z) && decide (z < 7 + i))) ch → jl_E l G m_Mo_give (0, 0) 269 [some (.ref 22), some (.int (nI m)), some (.int (nI pc)), some (.int (nI (12 * (24 * m + pc)))), some (.int (bi ch)), some (.int (nI i)), none] [] σ P := by
  intro nn
  induction nn with
  | zero => intro i σ mi ch hnn; exact absurd hnn (Nat.not_lt_zero _)
  | succ nn ihn =>
    intro i σ mi ch hnn hi hmb hfr hw5 hwc
    obtain ⟨hO, hw, hu, hr, hkp, hmp, hfm⟩ := id hmb; obtain ⟨r1, r2⟩ := id hr
    obtain ⟨h23, h24, h25, h26, h27⟩ := id hw
    obtain ⟨h28, h29, h30, h31, h32, h33, h34, h35, h36, h37⟩ := id hu
    have hh5 := hg.2.1
    have hrr := hA.s hpc hAs
    refine er_iload d_Mo_give_269 rfl ?_
    refine er_aload_n d_Mo_give_271 rfl ?_
    refine er_getf d_Mo_give_272 f_Mo_give_179 hO rfl ?_
    refine er_icmp_geN 350 d_Mo_give_275 (by decide) (by omega) (by omega) (fun c1 => ?_) (fun c1 => ?_)
    · refine er_iload d_Mo_give_350 rfl ?_
      refine er_if_eq 362 d_Mo_give_352 (by decide) (fun c2 => ?_) (fun c2 => ?_)
      · refine er_iconst ((nI (1))) d_Mo_give_362 (by decide) ?_
        exact er_zret d_Mo_give_363 rfl (by decide) (by have hmc := WC.mc hh5 (by have z := hwc; rw [show i = h by omega] at z; exact z); have hch : ch = false := bi_0.mp c2; subst hch; exact hT (va_up A pc (some (jrow pr r g h)), F) mi fm σ (by unfold meetA; simp only [hAs]; rw [if_pos hrv.1, hnb, hmc]; rfl) (hw5.up hA (fun z hz hq => (hrr z hz).trans (congrArg en (jrow_out hrv hz (by rw [show i = h by omega] at hq; simp at hq; omega))))) hF (hw5.mf hpc) hmb hfr) (by decide) (by decide)
      · refine er_aload_n d_Mo_give_355 rfl ?_
        refine er_getf d_Mo_give_356 f_Mo_give_66 hO rfl ?_
        refine er_iload_n d_Mo_give_359 rfl ?_
        refine er_iconst ((nI (1))) d_Mo_give_360 (by decide) ?_
        refine er_bastN d_Mo_give_361 hfm (by omega) (by omega) (by decide) ?_
        rw [show upd (fun j => bi (fm j)) (pc) ((nI (1))) = (fun j => bi ((va_up fm (pc) (true)) j)) from bi_up fm (pc) (true)]
        show jl_E l G m_Mo_give (0, 0) 362 [some (.ref 22), some (.int (nI m)), some (.int (nI pc)), some (.int (nI (12 * (24 * m + pc)))), some (.int (bi ch)), some (.int (nI i)), none] [] (σ.set (39) (.inl (1, 24, .inl (fun j => bi ((va_up fm (pc) (true)) j))))) P
        refine er_iconst ((nI (1))) d_Mo_give_362 (by decide) ?_
        exact er_zret d_Mo_give_363 rfl (by decide) (by have hmc := WC.mc hh5 (by have z := hwc; rw [show i = h by omega] at z; exact z); have hch : ch = true := bi_nf c2; subst hch; exact hT (va_up A pc (some (jrow pr r g h)), va_up F pc true) mi _ _ (by unfold meetA; simp only [hAs]; rw [if_pos hrv.1, hnb, hmc]; rfl) (hw5.up hA (fun z hz hq => (hrr z hz).trans (congrArg en (jrow_out hrv hz (by rw [show i = h by omega] at hq; simp at hq; omega))))) (hF.up pc true) (hw5.mf hpc) hmb.s39 (hfr.set (by omega))) (by decide) (by decide)
    · refine er_aload_n d_Mo_give_278 rfl ?_
      refine er_aload_n d_Mo_give_279 rfl ?_
      refine er_getf d_Mo_give_280 f_Mo_give_63 hO rfl ?_
      refine er_iload_n d_Mo_give_283 rfl ?_
      refine er_bipush ((nI (7))) d_Mo_give_284 (by decide) ?_
      refine er_iaddN d_Mo_give_286 ?_
      refine er_iload d_Mo_give_287 rfl ?_
      refine er_iaddN d_Mo_give_289 ?_
      refine er_ialdQ (v := (en (r (7 + i)))) d_Mo_give_290 hmp (by omega) (by omega) (by have z := (hw5.at (i := 7 + i) (by omega) (by simp; omega)).trans (hrr (7 + i) (by omega)); rw [show 12 * (24 * m + pc) + (7 + i) = 12 * (24 * m + pc) + 7 + i by omega] at z; exact z) ?_
      refine er_aload_n d_Mo_give_291 rfl ?_
      refine er_getf d_Mo_give_292 f_Mo_give_72 hO rfl ?_
      refine er_iload d_Mo_give_295 rfl ?_
      refine er_ialdQ (v := (en (g (7 + i)))) d_Mo_give_297 r2 (by omega) (by omega) (congrArg en (hl2.2 i (by omega))) ?_
      refine er_callV (As := [.int (en (r (7 + i))), .int (en (g (7 + i)))]) d_Mo_give_298 k_Mo_give_189 hO rfl rfl rfl (Nat.le_of_ble_eq_true rfl) (by decide) (by decide) (mo_join (x := r (7 + i)) (y := g (7 + i)) hl hO hw hok.dsc (hrv.ob _) (hg.ob _)) ?_
      show jl_E l G m_Mo_give (0, 0) 301 [some (.ref 22), some (.int (nI m)), some (.int (nI pc)), some (.int (nI (12 * (24 * m + pc)))), some (.int (bi ch)), some (.int (nI i)), none] [.int (en (join pr (r (7 + i)) (g (7 + i))))] (σ) P
      refine er_istore d_Mo_give_301 (by decide) ?_
      show jl_E l G m_Mo_give (0, 0) 303 [some (.ref 22), some (.int (nI m)), some (.int (nI pc)), some (.int (nI (12 * (24 * m + pc)))), some (.int (bi ch)), some (.int (nI i)), some (.int (en (join pr (r (7 + i)) (g (7 + i)))))] [] (σ) P
      refine er_iload d_Mo_give_303 rfl ?_
      refine er_iload d_Mo_give_305 rfl ?_
      refine er_aload_n d_Mo_give_307 rfl ?_
      refine er_getf d_Mo_give_308 f_Mo_give_63 hO rfl ?_
      refine er_iload_n d_Mo_give_311 rfl ?_
      refine er_bipush ((nI (7))) d_Mo_give_312 (by decide) ?_
      refine er_iaddN d_Mo_give_314 ?_
      refine er_iload d_Mo_give_315 rfl ?_
      refine er_iaddN d_Mo_give_317 ?_
      refine er_ialdQ (v := (en (r (7 + i)))) d_Mo_give_318 hmp (by omega) (by omega) (by have z := (hw5.at (i := 7 + i) (by omega) (by simp; omega)).trans (hrr (7 + i) (by omega)); rw [show 12 * (24 * m + pc) + (7 + i) = 12 * (24 * m + pc) + 7 + i by omega] at z; exact z) ?_
      refine er_icmp_eq 326 d_Mo_give_319 (by decide) (fun c3 => ?_) (fun c3 => ?_)
      · refine er_iconst ((nI (0))) d_Mo_give_326 (by decide) ?_
        refine er_ior d_Mo_give_327 ?_
        refine er_oeq (congrArg Value.int (bor0 ch)) ?_
        show jl_E l G m_Mo_give (0, 0) 328 [some (.ref 22), some (.int (nI m)), some (.int (nI pc)), some (.int (nI (12 * (24 * m + pc)))), some (.int (bi ch)), some (.int (nI i)), some (.int (en (join pr (r (7 + i)) (g (7 + i)))))] [.int (bi ch)] (σ) P
        refine er_istore d_Mo_give_328 (by decide) ?_
        show jl_E l G m_Mo_give (0, 0) 330 [some (.ref 22), some (.int (nI m)), some (.int (nI pc)), some (.int (nI (12 * (24 * m + pc)))), some (.int (bi ch)), some (.int (nI i)), some (.int (en (join pr (r (7 + i)) (g (7 + i)))))] [] (σ) P
        refine er_aload_n d_Mo_give_330 rfl ?_
        refine er_getf d_Mo_give_331 f_Mo_give_63 hO rfl ?_
        refine er_iload_n d_Mo_give_334 rfl ?_
        refine er_bipush ((nI (7))) d_Mo_give_335 (by decide) ?_
        refine er_iaddN d_Mo_give_337 ?_
        refine er_iload d_Mo_give_338 rfl ?_
        refine er_iaddN d_Mo_give_340 ?_
        refine er_iload d_Mo_give_341 rfl ?_
        refine er_iastN d_Mo_give_343 hmp (by omega) (by omega) ?_
        show jl_E l G m_Mo_give (0, 0) 344 [some (.ref 22), some (.int (nI m)), some (.int (nI pc)), some (.int (nI (12 * (24 * m + pc)))), some (.int (bi ch)), some (.int (nI i)), some (.int (en (join pr (r (7 + i)) (g (7 + i)))))] [] (σ.set (38) (.inl (0, 6912, .inl (upd (mi) (((12 * (24 * m + pc)) + (7)) + (i)) ((en (join pr (r (7 + i)) (g (7 + i))))))))) P
        refine er_iinc ((nI (i + 1))) d_Mo_give_344 (by decide) rfl (jl_inc _) ?_
        show jl_E l G m_Mo_give (0, 0) 347 [some (.ref 22), some (.int (nI m)), some (.int (nI pc)), some (.int (nI (12 * (24 * m + pc)))), some (.int (bi ch)), some (.int (nI (i + 1))), some (.int (en (join pr (r (7 + i)) (g (7 + i)))))] [] (σ.set (38) (.inl (0, 6912, .inl (upd (mi) (((12 * (24 * m + pc)) + (7)) + (i)) ((en (join pr (r (7 + i)) (g (7 + i))))))))) P
        refine er_goto 269 d_Mo_give_347 (by decide) ?_
        exact er_weak (ls' := [some (.ref 22), some (.int (nI m)), some (.int (nI pc)), some (.int (nI (12 * (24 * m + pc)))), some (.int (bi ch)), some (.int (nI (i + 1))), none]) (fun q v hv => by match q, hv with | 0, hv => exact hv | 1, hv => exact hv | 2, hv => exact hv | 3, hv => exact hv | 4, hv => exact hv | 5, hv => exact hv | 6, hv => cases hv | q + 7, hv => cases hv) (ihn (i + 1) _ _ ch (by omega) (by omega) hmb.s38 (hfr.set (by omega)) (by have z := hw5.s (i := 7 + i) (q' := (fun z => decide (z < 6) || (decide (7 ≤ z) && decide (z < 7 + (i + 1))))) (by omega) (congrArg en (jrow_at (by omega) (by omega))).symm (fun z hz => by rw [Bool.eq_iff_iff]; simp; omega); rw [show 12 * (24 * m + pc) + (7 + i) = 12 * (24 * m + pc) + 7 + i by omega] at z; exact z) (hwc.f (i := 7 + i) (by omega) (fun z hz => by rw [Bool.eq_iff_iff]; simp; omega) (by rw [jrow_at (by omega) (by omega)]; exact (en_i (join_ob hok.1 hrv hg (by omega)) (hrv.ob _)).mp c3)))
      · refine er_iconst ((nI (1))) d_Mo_give_322 (by decide) ?_
        refine er_goto 327 d_Mo_give_323 (by decide) ?_
        refine er_ior d_Mo_give_327 ?_
        refine er_oeq (congrArg Value.int (bor1 ch)) ?_
        show jl_E l G m_Mo_give (0, 0) 328 [some (.ref 22), some (.int (nI m)), some (.int (nI pc)), some (.int (nI (12 * (24 * m + pc)))), some (.int (bi ch)), some (.int (nI i)), some (.int (en (join pr (r (7 + i)) (g (7 + i)))))] [.int (bi true)] (σ) P
        refine er_istore d_Mo_give_328 (by decide) ?_
        show jl_E l G m_Mo_give (0, 0) 330 [some (.ref 22), some (.int (nI m)), some (.int (nI pc)), some (.int (nI (12 * (24 * m + pc)))), some (.int (bi true)), some (.int (nI i)), some (.int (en (join pr (r (7 + i)) (g (7 + i)))))] [] (σ) P
        refine er_aload_n d_Mo_give_330 rfl ?_
        refine er_getf d_Mo_give_331 f_Mo_give_63 hO rfl ?_
        refine er_iload_n d_Mo_give_334 rfl ?_
        refine er_bipush ((nI (7))) d_Mo_give_335 (by decide) ?_
        refine er_iaddN d_Mo_give_337 ?_
        refine er_iload d_Mo_give_338 rfl ?_
        refine er_iaddN d_Mo_give_340 ?_
        refine er_iload d_Mo_give_341 rfl ?_
        refine er_iastN d_Mo_give_343 hmp (by omega) (by omega) ?_
        show jl_E l G m_Mo_give (0, 0) 344 [some (.ref 22), some (.int (nI m)), some (.int (nI pc)), some (.int (nI (12 * (24 * m + pc)))), some (.int (bi true)), some (.int (nI i)), some (.int (en (join pr (r (7 + i)) (g (7 + i)))))] [] (σ.set (38) (.inl (0, 6912, .inl (upd (mi) (((12 * (24 * m + pc)) + (7)) + (i)) ((en (join pr (r (7 + i)) (g (7 + i))))))))) P
        refine er_iinc ((nI (i + 1))) d_Mo_give_344 (by decide) rfl (jl_inc _) ?_
        show jl_E l G m_Mo_give (0, 0) 347 [some (.ref 22), some (.int (nI m)), some (.int (nI pc)), some (.int (nI (12 * (24 * m + pc)))), some (.int (bi true)), some (.int (nI (i + 1))), some (.int (en (join pr (r (7 + i)) (g (7 + i)))))] [] (σ.set (38) (.inl (0, 6912, .inl (upd (mi) (((12 * (24 * m + pc)) + (7)) + (i)) ((en (join pr (r (7 + i)) (g (7 + i))))))))) P
        refine er_goto 269 d_Mo_give_347 (by decide) ?_
        exact er_weak (ls' := [some (.ref 22), some (.int (nI m)), some (.int (nI pc)), some (.int (nI (12 * (24 * m + pc)))), some (.int (bi true)), some (.int (nI (i + 1))), none]) (fun q v hv => by match q, hv with | 0, hv => exact hv | 1, hv => exact hv | 2, hv => exact hv | 3, hv => exact hv | 4, hv => exact hv | 5, hv => exact hv | 6, hv => cases hv | q + 7, hv => cases hv) (ihn (i + 1) _ _ true (by omega) (by omega) hmb.s38 (hfr.set (by omega)) (by have z := hw5.s (i := 7 + i) (q' := (fun z => decide (z < 6) || (decide (7 ≤ z) && decide (z < 7 + (i + 1))))) (by omega) (congrArg en (jrow_at (by omega) (by omega))).symm (fun z hz => by rw [Bool.eq_iff_iff]; simp; omega); rw [show 12 * (24 * m + pc) + (7 + i) = 12 * (24 * m + pc) + 7 + i by omega] at z; exact z) (hwc.t (i := 7 + i) (by omega) (fun z hz => by rw [Bool.eq_iff_iff]; simp; omega) (by rw [jrow_at (by omega) (by omega)]; exact fun z => c3 ((en_i (join_ob hok.1 hrv hg (by omega)) (hrv.ob _)).mpr z))))
theorem d_Mo_give_196 : decode m_Mo_give.2.1 196 = .ok (.iload 5, 2) := by decide +kernel
theorem d_Mo_give_198 : decode m_Mo_give.2.1 198 = .ok (.bipush 6, 2) := by decide +kernel
theorem d_Mo_give_200 : decode m_Mo_give.2.1 200 = .ok (.if_icmp .ge 66, 3) := by decide +kernel
theorem d_Mo_give_266 : decode m_Mo_give.2.1 266 = .ok (.iconst 0, 1) := by decide +kernel
theorem d_Mo_give_267 : decode m_Mo_give.2.1 267 = .ok (.istore 5, 2) := by decide +kernel
theorem d_Mo_give_203 : decode m_Mo_give.2.1 203 = .ok (.aload_n 0, 1) := by decide +kernel
theorem d_Mo_give_204 : decode m_Mo_give.2.1 204 = .ok (.aload_n 0, 1) := by decide +kernel
theorem d_Mo_give_205 : decode m_Mo_give.2.1 205 = .ok (.getfield 63, 3) := by decide +kernel
theorem d_Mo_give_208 : decode m_Mo_give.2.1 208 = .ok (.iload_n 3, 1) := by decide +kernel
theorem d_Mo_give_209 : decode m_Mo_give.2.1 209 = .ok (.iload 5, 2) := by decide +kernel
theorem d_Mo_give_211 : decode m_Mo_give.2.1 211 = .ok (.iadd, 1) := by decide +kernel
theorem d_Mo_give_212 : decode m_Mo_give.2.1 212 = .ok (.iaload, 1) := by decide +kernel
theorem d_Mo_give_213 : decode m_Mo_give.2.1 213 = .ok (.aload_n 0, 1) := by decide +kernel
theorem d_Mo_give_214 : decode m_Mo_give.2.1 214 = .ok (.getfield 69, 3) := by decide +kernel
theorem d_Mo_give_217 : decode m_Mo_give.2.1 217 = .ok (.iload 5, 2) := by decide +kernel
theorem d_Mo_give_219 : decode m_Mo_give.2.1 219 = .ok (.iaload, 1) := by decide +kernel
theorem d_Mo_give_220 : decode m_Mo_give.2.1 220 = .ok (.invokevirtual 189, 3) := by decide +kernel
theorem d_Mo_give_223 : decode m_Mo_give.2.1 223 = .ok (.istore 6, 2) := by decide +kernel
theorem d_Mo_give_225 : decode m_Mo_give.2.1 225 = .ok (.iload 4, 2) := by decide +kernel
theorem d_Mo_give_227 : decode m_Mo_give.2.1 227 = .ok (.iload 6, 2) := by decide +kernel
theorem d_Mo_give_229 : decode m_Mo_give.2.1 229 = .ok (.aload_n 0, 1) := by decide +kernel
theorem d_Mo_give_230 : decode m_Mo_give.2.1 230 = .ok (.getfield 63, 3) := by decide +kernel
theorem d_Mo_give_233 : decode m_Mo_give.2.1 233 = .ok (.iload_n 3, 1) := by decide +kernel
theorem d_Mo_give_234 : decode m_Mo_give.2.1 234 = .ok (.iload 5, 2) := by decide +kernel
theorem d_Mo_give_236 : decode m_Mo_give.2.1 236 = .ok (.iadd, 1) := by decide +kernel
theorem d_Mo_give_237 : decode m_Mo_give.2.1 237 = .ok (.iaload, 1) := by decide +kernel
theorem d_Mo_give_238 : decode m_Mo_give.2.1 238 = .ok (.if_icmp .eq 7, 3) := by decide +kernel
theorem d_Mo_give_245 : decode m_Mo_give.2.1 245 = .ok (.iconst 0, 1) := by decide +kernel
theorem d_Mo_give_246 : decode m_Mo_give.2.1 246 = .ok (.ior, 1) := by decide +kernel
theorem d_Mo_give_247 : decode m_Mo_give.2.1 247 = .ok (.istore 4, 2) := by decide +kernel
theorem d_Mo_give_249 : decode m_Mo_give.2.1 249 = .ok (.aload_n 0, 1) := by decide +kernel
theorem d_Mo_give_250 : decode m_Mo_give.2.1 250 = .ok (.getfield 63, 3) := by decide +kernel
theorem d_Mo_give_253 : decode m_Mo_give.2.1 253 = .ok (.iload_n 3, 1) := by decide +kernel
theorem d_Mo_give_254 : decode m_Mo_give.2.1 254 = .ok (.iload 5, 2) := by decide +kernel
theorem d_Mo_give_256 : decode m_Mo_give.2.1 256 = .ok (.iadd, 1) := by decide +kernel
theorem d_Mo_give_257 : decode m_Mo_give.2.1 257 = .ok (.iload 6, 2) := by decide +kernel
theorem d_Mo_give_259 : decode m_Mo_give.2.1 259 = .ok (.iastore, 1) := by decide +kernel
theorem d_Mo_give_260 : decode m_Mo_give.2.1 260 = .ok (.iinc 5 1, 3) := by decide +kernel
theorem d_Mo_give_263 : decode m_Mo_give.2.1 263 = .ok (.goto (-67), 3) := by decide +kernel
theorem d_Mo_give_241 : decode m_Mo_give.2.1 241 = .ok (.iconst 1, 1) := by decide +kernel
theorem d_Mo_give_242 : decode m_Mo_give.2.1 242 = .ok (.goto 4, 3) := by decide +kernel
theorem mo_give_4 (hl : l.stackTraces = false) {P : jl_O → jl_S → Prop} {m pc h : Nat} {g r : Rw} {σ0 : jl_S}  (hok : WoOk tb pr ow fi) (hm : m < 24) (hpc : pc < 24) (hA : MpM mm m A) (hF : frp fm F) (hg : rv g h) (hl2 : RlM g lo sk h) (hAs : A pc = some r) (hrv : rv r h)  (hnb : mbad pr r g h = false) (hT : ∀ s' mm' fm' σ', meetA pr (A, F) pc g h = some s' → MpM mm' m s'.1 → frp fm' s'.2 → MmF m mm mm' → MB σ' tb pr ow ft hs u1 u2 ur ul uo ua uc us ut uk fa vf wh wy (nI h) dp md ov oh dn an lo sk kp mm' fm' → FrM σ0 σ' → P (.inl (some (.int (nI 1)))) σ') : ∀ (nn : Nat) (i : Nat) (σ : jl_S) (mi : Nat → Int32) (ch : Bool), 6 - i < nn → i ≤ 6 → MB σ tb pr ow ft hs u1 u2 ur ul uo ua uc us ut uk fa vf wh wy (nI h) dp md ov oh dn an lo sk kp mi fm → FrM σ0 σ → WR mm mi (12 * (24 * m + pc)) (fun z => decide (z < i)) (jrow pr r g h) → WC r (jrow pr r g h) (fun z => decide (z < i)) ch → jl_E l G m_Mo_give (0, 0) 196 [some (.ref 22), some (.int (nI m)), some (.int (nI pc)), some (.int (nI (12 * (24 * m + pc)))), some (.int (bi ch)), some (.int (nI i)), none] [] σ P := by
  intro nn
  induction nn with
  | zero => intro i σ mi ch hnn; exact absurd hnn (Nat.not_lt_zero _)
  | succ nn ihn =>
    intro i σ mi ch hnn hi hmb hfr hw5 hwc
    obtain ⟨hO, hw, hu, hr, hkp, hmp, hfm⟩ := id hmb; obtain ⟨r1, r2⟩ := id hr
    obtain ⟨h23, h24, h25, h26, h27⟩ := id hw
    obtain ⟨h28, h29, h30, h31, h32, h33, h34, h35, h36, h37⟩ := id hu
    have hh5 := hg.2.1
    have hrr := hA.s hpc hAs
    refine er_iload d_Mo_give_196 rfl ?_
    refine er_bipush ((nI (6))) d_Mo_give_198 (by decide) ?_
    refine er_icmp_geN 266 d_Mo_give_200 (by decide) (by omega) (by omega) (fun c1 => ?_) (fun c1 => ?_)
    · refine er_iconst ((nI (0))) d_Mo_give_266 (by decide) ?_
      refine er_istore d_Mo_give_267 (by decide) ?_
      show jl_E l G m_Mo_give (0, 0) 269 [some (.ref 22), some (.int (nI m)), some (.int (nI pc)), some (.int (nI (12 * (24 * m + pc)))), some (.int (bi ch)), some (.int (nI 0)), none] [] (σ) P
      exact er_weak (ls' := [some (.ref 22), some (.int (nI m)), some (.int (nI pc)), some (.int (nI (12 * (24 * m + pc)))), some (.int (bi ch)), some (.int (nI 0)), none]) (fun q v hv => by match q, hv with | 0, hv => exact hv | 1, hv => exact hv | 2, hv => exact hv | 3, hv => exact hv | 4, hv => exact hv | 5, hv => exact hv | 6, hv => cases hv | q + 7, hv => cases hv) (mo_give_5 hl hok hm hpc hA hF hg hl2 hAs hrv hnb hT (h + 1) 0 σ mi ch (by omega) (by omega) hmb hfr (hw5.e (fun z hz => by rw [show i = 6 by omega]; rw [Bool.eq_iff_iff]; simp; omega)) (by have z := hwc; rw [show i = 6 by omega] at z; refine ⟨fun c => ?_, fun c z2 h1 h2 => z.2 c z2 h1 (by simp at h2 ⊢; omega)⟩; obtain ⟨y, a1, a2, a3⟩ := z.1 c; exact ⟨y, a1, by simp at a2 ⊢; omega, a3⟩))
    · refine er_aload_n d_Mo_give_203 rfl ?_
      refine er_aload_n d_Mo_give_204 rfl ?_
      refine er_getf d_Mo_give_205 f_Mo_give_63 hO rfl ?_
      refine er_iload_n d_Mo_give_208 rfl ?_
      refine er_iload d_Mo_give_209 rfl ?_
      refine er_iaddN d_Mo_give_211 ?_
      refine er_ialdQ (v := (en (r (i)))) d_Mo_give_212 hmp (by omega) (by omega) ((hw5.at (i := i) (by omega) (by simp)).trans (hrr i (by omega))) ?_
      refine er_aload_n d_Mo_give_213 rfl ?_
      refine er_getf d_Mo_give_214 f_Mo_give_69 hO rfl ?_
      refine er_iload d_Mo_give_217 rfl ?_
      refine er_ialdQ (v := (en (g (i)))) d_Mo_give_219 r1 (by omega) (by omega) (congrArg en (hl2.1 i (by omega))) ?_
      refine er_callV (As := [.int (en (r (i))), .int (en (g (i)))]) d_Mo_give_220 k_Mo_give_189 hO rfl rfl rfl (Nat.le_of_ble_eq_true rfl) (by decide) (by decide) (mo_join (x := r (i)) (y := g (i)) hl hO hw hok.dsc (hrv.ob _) (hg.ob _)) ?_
      show jl_E l G m_Mo_give (0, 0) 223 [some (.ref 22), some (.int (nI m)), some (.int (nI pc)), some (.int (nI (12 * (24 * m + pc)))), some (.int (bi ch)), some (.int (nI i)), none] [.int (en (join pr (r (i)) (g (i))))] (σ) P
      refine er_istore d_Mo_give_223 (by decide) ?_
      show jl_E l G m_Mo_give (0, 0) 225 [some (.ref 22), some (.int (nI m)), some (.int (nI pc)), some (.int (nI (12 * (24 * m + pc)))), some (.int (bi ch)), some (.int (nI i)), some (.int (en (join pr (r (i)) (g (i)))))] [] (σ) P
      refine er_iload d_Mo_give_225 rfl ?_
      refine er_iload d_Mo_give_227 rfl ?_
      refine er_aload_n d_Mo_give_229 rfl ?_
      refine er_getf d_Mo_give_230 f_Mo_give_63 hO rfl ?_
      refine er_iload_n d_Mo_give_233 rfl ?_
      refine er_iload d_Mo_give_234 rfl ?_
      refine er_iaddN d_Mo_give_236 ?_
      refine er_ialdQ (v := (en (r (i)))) d_Mo_give_237 hmp (by omega) (by omega) ((hw5.at (i := i) (by omega) (by simp)).trans (hrr i (by omega))) ?_
      refine er_icmp_eq 245 d_Mo_give_238 (by decide) (fun c2 => ?_) (fun c2 => ?_)
      · refine er_iconst ((nI (0))) d_Mo_give_245 (by decide) ?_
        refine er_ior d_Mo_give_246 ?_
        refine er_oeq (congrArg Value.int (bor0 ch)) ?_
        show jl_E l G m_Mo_give (0, 0) 247 [some (.ref 22), some (.int (nI m)), some (.int (nI pc)), some (.int (nI (12 * (24 * m + pc)))), some (.int (bi ch)), some (.int (nI i)), some (.int (en (join pr (r (i)) (g (i)))))] [.int (bi ch)] (σ) P
        refine er_istore d_Mo_give_247 (by decide) ?_
        show jl_E l G m_Mo_give (0, 0) 249 [some (.ref 22), some (.int (nI m)), some (.int (nI pc)), some (.int (nI (12 * (24 * m + pc)))), some (.int (bi ch)), some (.int (nI i)), some (.int (en (join pr (r (i)) (g (i)))))] [] (σ) P
        refine er_aload_n d_Mo_give_249 rfl ?_
        refine er_getf d_Mo_give_250 f_Mo_give_63 hO rfl ?_
        refine er_iload_n d_Mo_give_253 rfl ?_
        refine er_iload d_Mo_give_254 rfl ?_
        refine er_iaddN d_Mo_give_256 ?_
        refine er_iload d_Mo_give_257 rfl ?_
        refine er_iastN d_Mo_give_259 hmp (by omega) (by omega) ?_
        show jl_E l G m_Mo_give (0, 0) 260 [some (.ref 22), some (.int (nI m)), some (.int (nI pc)), some (.int (nI (12 * (24 * m + pc)))), some (.int (bi ch)), some (.int (nI i)), some (.int (en (join pr (r (i)) (g (i)))))] [] (σ.set (38) (.inl (0, 6912, .inl (upd (mi) ((12 * (24 * m + pc)) + (i)) ((en (join pr (r (i)) (g (i))))))))) P
        refine er_iinc ((nI (i + 1))) d_Mo_give_260 (by decide) rfl (jl_inc _) ?_
        show jl_E l G m_Mo_give (0, 0) 263 [some (.ref 22), some (.int (nI m)), some (.int (nI pc)), some (.int (nI (12 * (24 * m + pc)))), some (.int (bi ch)), some (.int (nI (i + 1))), some (.int (en (join pr (r (i)) (g (i)))))] [] (σ.set (38) (.inl (0, 6912, .inl (upd (mi) ((12 * (24 * m + pc)) + (i)) ((en (join pr (r (i)) (g (i))))))))) P
        refine er_goto 196 d_Mo_give_263 (by decide) ?_
        exact er_weak (ls' := [some (.ref 22), some (.int (nI m)), some (.int (nI pc)), some (.int (nI (12 * (24 * m + pc)))), some (.int (bi ch)), some (.int (nI (i + 1))), none]) (fun q v hv => by match q, hv with | 0, hv => exact hv | 1, hv => exact hv | 2, hv => exact hv | 3, hv => exact hv | 4, hv => exact hv | 5, hv => exact hv | 6, hv => cases hv | q + 7, hv => cases hv) (ihn (i + 1) _ _ ch (by omega) (by omega) hmb.s38 (hfr.set (by omega)) (by have z := hw5.s (i := i) (q' := (fun z => decide (z < i + 1))) (by omega) (congrArg en (jrow_at (by omega) (by omega))).symm (fun z hz => by rw [Bool.eq_iff_iff]; simp; omega); exact z) (hwc.f (i := i) (by omega) (fun z hz => by rw [Bool.eq_iff_iff]; simp; omega) (by rw [jrow_at (by omega) (by omega)]; exact (en_i (join_ob hok.1 hrv hg (by omega)) (hrv.ob _)).mp c2)))
      · refine er_iconst ((nI (1))) d_Mo_give_241 (by decide) ?_
        refine er_goto 246 d_Mo_give_242 (by decide) ?_
        refine er_ior d_Mo_give_246 ?_
        refine er_oeq (congrArg Value.int (bor1 ch)) ?_
        show jl_E l G m_Mo_give (0, 0) 247 [some (.ref 22), some (.int (nI m)), some (.int (nI pc)), some (.int (nI (12 * (24 * m + pc)))), some (.int (bi ch)), some (.int (nI i)), some (.int (en (join pr (r (i)) (g (i)))))] [.int (bi true)] (σ) P
        refine er_istore d_Mo_give_247 (by decide) ?_
        show jl_E l G m_Mo_give (0, 0) 249 [some (.ref 22), some (.int (nI m)), some (.int (nI pc)), some (.int (nI (12 * (24 * m + pc)))), some (.int (bi true)), some (.int (nI i)), some (.int (en (join pr (r (i)) (g (i)))))] [] (σ) P
        refine er_aload_n d_Mo_give_249 rfl ?_
        refine er_getf d_Mo_give_250 f_Mo_give_63 hO rfl ?_
        refine er_iload_n d_Mo_give_253 rfl ?_
        refine er_iload d_Mo_give_254 rfl ?_
        refine er_iaddN d_Mo_give_256 ?_
        refine er_iload d_Mo_give_257 rfl ?_
        refine er_iastN d_Mo_give_259 hmp (by omega) (by omega) ?_
        show jl_E l G m_Mo_give (0, 0) 260 [some (.ref 22), some (.int (nI m)), some (.int (nI pc)), some (.int (nI (12 * (24 * m + pc)))), some (.int (bi true)), some (.int (nI i)), some (.int (en (join pr (r (i)) (g (i)))))] [] (σ.set (38) (.inl (0, 6912, .inl (upd (mi) ((12 * (24 * m + pc)) + (i)) ((en (join pr (r (i)) (g (i))))))))) P
        refine er_iinc ((nI (i + 1))) d_Mo_give_260 (by decide) rfl (jl_inc _) ?_
        show jl_E l G m_Mo_give (0, 0) 263 [some (.ref 22), some (.int (nI m)), some (.int (nI pc)), some (.int (nI (12 * (24 * m + pc)))), some (.int (bi true)), some (.int (nI (i + 1))), some (.int (en (join pr (r (i)) (g (i)))))] [] (σ.set (38) (.inl (0, 6912, .inl (upd (mi) ((12 * (24 * m + pc)) + (i)) ((en (join pr (r (i)) (g (i))))))))) P
        refine er_goto 196 d_Mo_give_263 (by decide) ?_
        exact er_weak (ls' := [some (.ref 22), some (.int (nI m)), some (.int (nI pc)), some (.int (nI (12 * (24 * m + pc)))), some (.int (bi true)), some (.int (nI (i + 1))), none]) (fun q v hv => by match q, hv with | 0, hv => exact hv | 1, hv => exact hv | 2, hv => exact hv | 3, hv => exact hv | 4, hv => exact hv | 5, hv => exact hv | 6, hv => cases hv | q + 7, hv => cases hv) (ihn (i + 1) _ _ true (by omega) (by omega) hmb.s38 (hfr.set (by omega)) (by have z := hw5.s (i := i) (q' := (fun z => decide (z < i + 1))) (by omega) (congrArg en (jrow_at (by omega) (by omega))).symm (fun z hz => by rw [Bool.eq_iff_iff]; simp; omega); exact z) (hwc.t (i := i) (by omega) (fun z hz => by rw [Bool.eq_iff_iff]; simp; omega) (by rw [jrow_at (by omega) (by omega)]; exact fun z => c2 ((en_i (join_ob hok.1 hrv hg (by omega)) (hrv.ob _)).mpr z))))
theorem d_Mo_give_146 : decode m_Mo_give.2.1 146 = .ok (.iload 4, 2) := by decide +kernel
theorem d_Mo_give_148 : decode m_Mo_give.2.1 148 = .ok (.aload_n 0, 1) := by decide +kernel
theorem d_Mo_give_149 : decode m_Mo_give.2.1 149 = .ok (.getfield 179, 3) := by decide +kernel
theorem d_Mo_give_152 : decode m_Mo_give.2.1 152 = .ok (.if_icmp .ge 38, 3) := by decide +kernel
theorem d_Mo_give_190 : decode m_Mo_give.2.1 190 = .ok (.iconst 0, 1) := by decide +kernel
theorem d_Mo_give_191 : decode m_Mo_give.2.1 191 = .ok (.istore 4, 2) := by decide +kernel
theorem d_Mo_give_193 : decode m_Mo_give.2.1 193 = .ok (.iconst 0, 1) := by decide +kernel
theorem d_Mo_give_194 : decode m_Mo_give.2.1 194 = .ok (.istore 5, 2) := by decide +kernel
theorem d_Mo_give_155 : decode m_Mo_give.2.1 155 = .ok (.aload_n 0, 1) := by decide +kernel
theorem d_Mo_give_156 : decode m_Mo_give.2.1 156 = .ok (.aload_n 0, 1) := by decide +kernel
theorem d_Mo_give_157 : decode m_Mo_give.2.1 157 = .ok (.getfield 63, 3) := by decide +kernel
theorem d_Mo_give_160 : decode m_Mo_give.2.1 160 = .ok (.iload_n 3, 1) := by decide +kernel
theorem d_Mo_give_161 : decode m_Mo_give.2.1 161 = .ok (.bipush 7, 2) := by decide +kernel
theorem d_Mo_give_163 : decode m_Mo_give.2.1 163 = .ok (.iadd, 1) := by decide +kernel
theorem d_Mo_give_164 : decode m_Mo_give.2.1 164 = .ok (.iload 4, 2) := by decide +kernel
theorem d_Mo_give_166 : decode m_Mo_give.2.1 166 = .ok (.iadd, 1) := by decide +kernel
theorem d_Mo_give_167 : decode m_Mo_give.2.1 167 = .ok (.iaload, 1) := by decide +kernel
theorem d_Mo_give_168 : decode m_Mo_give.2.1 168 = .ok (.aload_n 0, 1) := by decide +kernel
theorem d_Mo_give_169 : decode m_Mo_give.2.1 169 = .ok (.getfield 72, 3) := by decide +kernel
theorem d_Mo_give_172 : decode m_Mo_give.2.1 172 = .ok (.iload 4, 2) := by decide +kernel
theorem d_Mo_give_174 : decode m_Mo_give.2.1 174 = .ok (.iaload, 1) := by decide +kernel
theorem d_Mo_give_175 : decode m_Mo_give.2.1 175 = .ok (.invokevirtual 189, 3) := by decide +kernel
theorem d_Mo_give_178 : decode m_Mo_give.2.1 178 = .ok (.iconst (-1), 1) := by decide +kernel
theorem d_Mo_give_179 : decode m_Mo_give.2.1 179 = .ok (.if_icmp .ne 5, 3) := by decide +kernel
theorem d_Mo_give_184 : decode m_Mo_give.2.1 184 = .ok (.iinc 4 1, 3) := by decide +kernel
theorem d_Mo_give_187 : decode m_Mo_give.2.1 187 = .ok (.goto (-41), 3) := by decide +kernel
theorem d_Mo_give_182 : decode m_Mo_give.2.1 182 = .ok (.iconst 0, 1) := by decide +kernel
theorem d_Mo_give_183 : decode m_Mo_give.2.1 183 = .ok (.ireturn, 1) := by decide +kernel
theorem mo_give_3 (hl : l.stackTraces = false) {P : jl_O → jl_S → Prop} {m pc h : Nat} {g r : Rw} (hmb : MB σ tb pr ow ft hs u1 u2 ur ul uo ua uc us ut uk fa vf wh wy (nI h) dp md ov oh dn an lo sk kp mm fm) (hok : WoOk tb pr ow fi) (hm : m < 24) (hpc : pc < 24) (hA : MpM mm m A) (hF : frp fm F) (hg : rv g h) (hl2 : RlM g lo sk h) (hAs : A pc = some r) (hrv : rv r h) (hT : ∀ s' mm' fm' σ', meetA pr (A, F) pc g h = some s' → MpM mm' m s'.1 → frp fm' s'.2 → MmF m mm mm' → MB σ' tb pr ow ft hs u1 u2 ur ul uo ua uc us ut uk fa vf wh wy (nI h) dp md ov oh dn an lo sk kp mm' fm' → FrM σ σ' → P (.inl (some (.int (nI 1)))) σ') (hN : meetA pr (A, F) pc g h = none → P (.inl (some (.int (nI 0)))) σ) : ∀ (nn : Nat) (i : Nat), h - i < nn → i ≤ h → (∀ j, j < i → join pr (r (7 + j)) (g (7 + j)) ≠ none) → jl_E l G m_Mo_give (0, 0) 146 [some (.ref 22), some (.int (nI m)), some (.int (nI pc)), some (.int (nI (12 * (24 * m + pc)))), some (.int (nI i)), none, none] [] σ P := by
  obtain ⟨hO, hw, hu, hr, hkp, hmp, hfm⟩ := id hmb; obtain ⟨r1, r2⟩ := id hr
  obtain ⟨h23, h24, h25, h26, h27⟩ := id hw
  obtain ⟨h28, h29, h30, h31, h32, h33, h34, h35, h36, h37⟩ := id hu
  have hh5 := hg.2.1
  have hrr := hA.s hpc hAs
  intro nn
  induction nn with
  | zero => intro i hnn; exact absurd hnn (Nat.not_lt_zero _)
  | succ nn ihn =>
    intro i hnn hi hnj
    refine er_iload d_Mo_give_146 rfl ?_
    refine er_aload_n d_Mo_give_148 rfl ?_
    refine er_getf d_Mo_give_149 f_Mo_give_179 hO rfl ?_
    refine er_icmp_geN 190 d_Mo_give_152 (by decide) (by omega) (by omega) (fun c1 => ?_) (fun c1 => ?_)
    · refine er_iconst ((nI (0))) d_Mo_give_190 (by decide) ?_
      refine er_istore d_Mo_give_191 (by decide) ?_
      show jl_E l G m_Mo_give (0, 0) 193 [some (.ref 22), some (.int (nI m)), some (.int (nI pc)), some (.int (nI (12 * (24 * m + pc)))), some (.int (nI 0)), none, none] [] (σ) P
      refine er_iconst ((nI (0))) d_Mo_give_193 (by decide) ?_
      refine er_istore d_Mo_give_194 (by decide) ?_
      show jl_E l G m_Mo_give (0, 0) 196 [some (.ref 22), some (.int (nI m)), some (.int (nI pc)), some (.int (nI (12 * (24 * m + pc)))), some (.int (nI 0)), some (.int (nI 0)), none] [] (σ) P
      exact mo_give_4 hl hok hm hpc hA hF hg hl2 hAs hrv (mbad_f (fun j hj => hnj j (by omega))) hT 7 0 σ mm false (by omega) (by omega) hmb FrM.refl (WR.z (fun z hz => by simp)) ⟨fun z => (by cases z), fun _ z _ hq => absurd hq (by simp)⟩
    · refine er_aload_n d_Mo_give_155 rfl ?_
      refine er_aload_n d_Mo_give_156 rfl ?_
      refine er_getf d_Mo_give_157 f_Mo_give_63 hO rfl ?_
      refine er_iload_n d_Mo_give_160 rfl ?_
      refine er_bipush ((nI (7))) d_Mo_give_161 (by decide) ?_
      refine er_iaddN d_Mo_give_163 ?_
      refine er_iload d_Mo_give_164 rfl ?_
      refine er_iaddN d_Mo_give_166 ?_
      refine er_ialdQ (v := (en (r (7 + i)))) d_Mo_give_167 hmp (by omega) (by omega) (by have z := hrr (7 + i) (by omega); rw [show 12 * (24 * m + pc) + (7 + i) = 12 * (24 * m + pc) + 7 + i by omega] at z; exact z) ?_
      refine er_aload_n d_Mo_give_168 rfl ?_
      refine er_getf d_Mo_give_169 f_Mo_give_72 hO rfl ?_
      refine er_iload d_Mo_give_172 rfl ?_
      refine er_ialdQ (v := (en (g (7 + i)))) d_Mo_give_174 r2 (by omega) (by omega) (congrArg en (hl2.2 i (by omega))) ?_
      refine er_callV (As := [.int (en (r (7 + i))), .int (en (g (7 + i)))]) d_Mo_give_175 k_Mo_give_189 hO rfl rfl rfl (Nat.le_of_ble_eq_true rfl) (by decide) (by decide) (mo_join (x := r (7 + i)) (y := g (7 + i)) hl hO hw hok.dsc (hrv.ob _) (hg.ob _)) ?_
      show jl_E l G m_Mo_give (0, 0) 178 [some (.ref 22), some (.int (nI m)), some (.int (nI pc)), some (.int (nI (12 * (24 * m + pc)))), some (.int (nI i)), none, none] [.int (en (join pr (r (7 + i)) (g (7 + i))))] (σ) P
      refine er_iconst ((-1)) d_Mo_give_178 (by decide) ?_
      refine er_icmp_ne 184 d_Mo_give_179 (by decide) (fun c2 => ?_) (fun c2 => ?_)
      · refine er_iinc ((nI (i + 1))) d_Mo_give_184 (by decide) rfl (jl_inc _) ?_
        show jl_E l G m_Mo_give (0, 0) 187 [some (.ref 22), some (.int (nI m)), some (.int (nI pc)), some (.int (nI (12 * (24 * m + pc)))), some (.int (nI (i + 1))), none, none] [] (σ) P
        refine er_goto 146 d_Mo_give_187 (by decide) ?_
        exact ihn (i + 1) (by omega) (by omega) (fun j hj => by by_cases e : j = i; (subst e; exact fun z => c2 ((en_m1 (join_ob hok.1 hrv hg (by omega))).mpr z)); exact hnj j (by omega))
      · refine er_iconst ((nI (0))) d_Mo_give_182 (by decide) ?_
        exact er_zret d_Mo_give_183 rfl (by decide) (hN (by unfold meetA; simp only [hAs]; rw [if_pos hrv.1, mbad_t (j := i) (by omega) ((en_m1 (join_ob hok.1 hrv hg (by omega))).mp c2)]; rfl)) (by decide) (by decide)
theorem d_Mo_give_0 : decode m_Mo_give.2.1 0 = .ok (.bipush 12, 2) := by decide +kernel
theorem d_Mo_give_2 : decode m_Mo_give.2.1 2 = .ok (.bipush 24, 2) := by decide +kernel
theorem d_Mo_give_4 : decode m_Mo_give.2.1 4 = .ok (.iload_n 1, 1) := by decide +kernel
theorem d_Mo_give_5 : decode m_Mo_give.2.1 5 = .ok (.imul, 1) := by decide +kernel
theorem d_Mo_give_6 : decode m_Mo_give.2.1 6 = .ok (.iload_n 2, 1) := by decide +kernel
theorem d_Mo_give_7 : decode m_Mo_give.2.1 7 = .ok (.iadd, 1) := by decide +kernel
theorem d_Mo_give_8 : decode m_Mo_give.2.1 8 = .ok (.imul, 1) := by decide +kernel
theorem d_Mo_give_9 : decode m_Mo_give.2.1 9 = .ok (.istore_n 3, 1) := by decide +kernel
theorem d_Mo_give_10 : decode m_Mo_give.2.1 10 = .ok (.aload_n 0, 1) := by decide +kernel
theorem d_Mo_give_11 : decode m_Mo_give.2.1 11 = .ok (.getfield 63, 3) := by decide +kernel
theorem d_Mo_give_14 : decode m_Mo_give.2.1 14 = .ok (.iload_n 3, 1) := by decide +kernel
theorem d_Mo_give_15 : decode m_Mo_give.2.1 15 = .ok (.bipush 6, 2) := by decide +kernel
theorem d_Mo_give_17 : decode m_Mo_give.2.1 17 = .ok (.iadd, 1) := by decide +kernel
theorem d_Mo_give_18 : decode m_Mo_give.2.1 18 = .ok (.iaload, 1) := by decide +kernel
theorem d_Mo_give_19 : decode m_Mo_give.2.1 19 = .ok (.bipush (-2), 2) := by decide +kernel
theorem d_Mo_give_21 : decode m_Mo_give.2.1 21 = .ok (.if_icmp .ne 104, 3) := by decide +kernel
theorem d_Mo_give_24 : decode m_Mo_give.2.1 24 = .ok (.iconst 0, 1) := by decide +kernel
theorem d_Mo_give_25 : decode m_Mo_give.2.1 25 = .ok (.istore 4, 2) := by decide +kernel
theorem mo_give_n (hl : l.stackTraces = false) {P : jl_O → jl_S → Prop} {m pc h : Nat} {g : Rw} (hmb : MB σ tb pr ow ft hs u1 u2 ur ul uo ua uc us ut uk fa vf wh wy (nI h) dp md ov oh dn an lo sk kp mm fm) (hok : WoOk tb pr ow fi) (hm : m < 24) (hpc : pc < 24) (hA : MpM mm m A) (hF : frp fm F) (hg : rv g h) (hl2 : RlM g lo sk h) (hAn : A pc = none) (hT : ∀ s' mm' fm' σ', meetA pr (A, F) pc g h = some s' → MpM mm' m s'.1 → frp fm' s'.2 → MmF m mm mm' → MB σ' tb pr ow ft hs u1 u2 ur ul uo ua uc us ut uk fa vf wh wy (nI h) dp md ov oh dn an lo sk kp mm' fm' → FrM σ σ' → P (.inl (some (.int (nI 1)))) σ') : jl_mE l G m_Mo_give [.ref 22, .int (nI m), .int (nI pc)] σ P := by
  obtain ⟨hO, hw, hu, hr, hkp, hmp, hfm⟩ := id hmb; obtain ⟨r1, r2⟩ := id hr
  obtain ⟨h23, h24, h25, h26, h27⟩ := id hw
  obtain ⟨h28, h29, h30, h31, h32, h33, h34, h35, h36, h37⟩ := id hu
  refine jl_ofE (as := [.ref 22, .int (nI m), .int (nI pc)]) rfl (by decide) hl (jl_cc rfl (jl_cc rfl (jl_cc rfl jl_ca))) (Nat.le_of_ble_eq_true rfl) ?_
  show jl_E l G m_Mo_give (0, 0) 0 [some (.ref 22), some (.int (nI m)), some (.int (nI pc)), none, none, none, none] [] (σ) P
  refine er_bipush ((nI (12))) d_Mo_give_0 (by decide) ?_
  refine er_bipush ((nI (24))) d_Mo_give_2 (by decide) ?_
  refine er_iload_n d_Mo_give_4 rfl ?_
  refine er_imulN d_Mo_give_5 ?_
  refine er_iload_n d_Mo_give_6 rfl ?_
  refine er_iaddN d_Mo_give_7 ?_
  refine er_imulN d_Mo_give_8 ?_
  refine er_istore_n d_Mo_give_9 (by decide) ?_
  show jl_E l G m_Mo_give (0, 0) 10 [some (.ref 22), some (.int (nI m)), some (.int (nI pc)), some (.int (nI ((12) * (((24) * (m)) + (pc))))), none, none, none] [] (σ) P
  refine er_aload_n d_Mo_give_10 rfl ?_
  refine er_getf d_Mo_give_11 f_Mo_give_63 hO rfl ?_
  refine er_iload_n d_Mo_give_14 rfl ?_
  refine er_bipush ((nI (6))) d_Mo_give_15 (by decide) ?_
  refine er_iaddN d_Mo_give_17 ?_
  refine er_ialdQ (v := (-2)) d_Mo_give_18 hmp (by omega) (by omega) (hA.n hpc hAn) ?_
  refine er_bipush ((-2)) d_Mo_give_19 (by decide) ?_
  refine er_icmp_ne 125 d_Mo_give_21 (by decide) (fun z => absurd rfl z) (fun _ => ?_)
  refine er_iconst ((nI (0))) d_Mo_give_24 (by decide) ?_
  refine er_istore d_Mo_give_25 (by decide) ?_
  show jl_E l G m_Mo_give (0, 0) 27 [some (.ref 22), some (.int (nI m)), some (.int (nI pc)), some (.int (nI ((12) * (((24) * (m)) + (pc))))), some (.int (nI 0)), none, none] [] (σ) P
  exact mo_give_1 hl hm hpc hA hF hg hl2 hAn hT 7 0 σ mm (by omega) (by omega) hmb FrM.refl (WR.z (fun z hz => by simp))
theorem d_Mo_give_125 : decode m_Mo_give.2.1 125 = .ok (.aload_n 0, 1) := by decide +kernel
theorem d_Mo_give_126 : decode m_Mo_give.2.1 126 = .ok (.getfield 63, 3) := by decide +kernel
theorem d_Mo_give_129 : decode m_Mo_give.2.1 129 = .ok (.iload_n 3, 1) := by decide +kernel
theorem d_Mo_give_130 : decode m_Mo_give.2.1 130 = .ok (.bipush 6, 2) := by decide +kernel
theorem d_Mo_give_132 : decode m_Mo_give.2.1 132 = .ok (.iadd, 1) := by decide +kernel
theorem d_Mo_give_133 : decode m_Mo_give.2.1 133 = .ok (.iaload, 1) := by decide +kernel
theorem d_Mo_give_134 : decode m_Mo_give.2.1 134 = .ok (.aload_n 0, 1) := by decide +kernel
theorem d_Mo_give_135 : decode m_Mo_give.2.1 135 = .ok (.getfield 179, 3) := by decide +kernel
theorem d_Mo_give_138 : decode m_Mo_give.2.1 138 = .ok (.if_icmp .eq 5, 3) := by decide +kernel
theorem d_Mo_give_143 : decode m_Mo_give.2.1 143 = .ok (.iconst 0, 1) := by decide +kernel
theorem d_Mo_give_144 : decode m_Mo_give.2.1 144 = .ok (.istore 4, 2) := by decide +kernel
theorem d_Mo_give_141 : decode m_Mo_give.2.1 141 = .ok (.iconst 0, 1) := by decide +kernel
theorem d_Mo_give_142 : decode m_Mo_give.2.1 142 = .ok (.ireturn, 1) := by decide +kernel
theorem mo_give_s (hl : l.stackTraces = false) {P : jl_O → jl_S → Prop} {m pc h hx : Nat} {g r : Rw} (hmb : MB σ tb pr ow ft hs u1 u2 ur ul uo ua uc us ut uk fa vf wh wy (nI h) dp md ov oh dn an lo sk kp mm fm) (hok : WoOk tb pr ow fi) (hm : m < 24) (hpc : pc < 24) (hA : MpM mm m A) (hF : frp fm F) (hg : rv g h) (hl2 : RlM g lo sk h) (hAs : A pc = some r) (hrv : rv r hx) (hT : ∀ s' mm' fm' σ', meetA pr (A, F) pc g h = some s' → MpM mm' m s'.1 → frp fm' s'.2 → MmF m mm mm' → MB σ' tb pr ow ft hs u1 u2 ur ul uo ua uc us ut uk fa vf wh wy (nI h) dp md ov oh dn an lo sk kp mm' fm' → FrM σ σ' → P (.inl (some (.int (nI 1)))) σ') (hN : meetA pr (A, F) pc g h = none → P (.inl (some (.int (nI 0)))) σ) : jl_mE l G m_Mo_give [.ref 22, .int (nI m), .int (nI pc)] σ P := by
  obtain ⟨hO, hw, hu, hr, hkp, hmp, hfm⟩ := id hmb; obtain ⟨r1, r2⟩ := id hr
  obtain ⟨h23, h24, h25, h26, h27⟩ := id hw
  obtain ⟨h28, h29, h30, h31, h32, h33, h34, h35, h36, h37⟩ := id hu
  have hrr := hA.s hpc hAs
  have hh5 := hrv.2.1
  have hh6 := hg.2.1
  refine jl_ofE (as := [.ref 22, .int (nI m), .int (nI pc)]) rfl (by decide) hl (jl_cc rfl (jl_cc rfl (jl_cc rfl jl_ca))) (Nat.le_of_ble_eq_true rfl) ?_
  show jl_E l G m_Mo_give (0, 0) 0 [some (.ref 22), some (.int (nI m)), some (.int (nI pc)), none, none, none, none] [] (σ) P
  refine er_bipush ((nI (12))) d_Mo_give_0 (by decide) ?_
  refine er_bipush ((nI (24))) d_Mo_give_2 (by decide) ?_
  refine er_iload_n d_Mo_give_4 rfl ?_
  refine er_imulN d_Mo_give_5 ?_
  refine er_iload_n d_Mo_give_6 rfl ?_
  refine er_iaddN d_Mo_give_7 ?_
  refine er_imulN d_Mo_give_8 ?_
  refine er_istore_n d_Mo_give_9 (by decide) ?_
  show jl_E l G m_Mo_give (0, 0) 10 [some (.ref 22), some (.int (nI m)), some (.int (nI pc)), some (.int (nI ((12) * (((24) * (m)) + (pc))))), none, none, none] [] (σ) P
  refine er_aload_n d_Mo_give_10 rfl ?_
  refine er_getf d_Mo_give_11 f_Mo_give_63 hO rfl ?_
  refine er_iload_n d_Mo_give_14 rfl ?_
  refine er_bipush ((nI (6))) d_Mo_give_15 (by decide) ?_
  refine er_iaddN d_Mo_give_17 ?_
  refine er_ialdQ (v := (nI (hx))) d_Mo_give_18 hmp (by omega) (by omega) ((hrr 6 (by decide)).trans (congrArg en hrv.1)) ?_
  refine er_bipush ((-2)) d_Mo_give_19 (by decide) ?_
  refine er_icmp_ne 125 d_Mo_give_21 (by decide) (fun _ => ?_) (fun z => absurd z (nI_m2 (by omega)))
  show jl_E l G m_Mo_give (0, 0) 125 [some (.ref 22), some (.int (nI m)), some (.int (nI pc)), some (.int (nI ((12) * (((24) * (m)) + (pc))))), none, none, none] [] (σ) P
  refine er_aload_n d_Mo_give_125 rfl ?_
  refine er_getf d_Mo_give_126 f_Mo_give_63 hO rfl ?_
  refine er_iload_n d_Mo_give_129 rfl ?_
  refine er_bipush ((nI (6))) d_Mo_give_130 (by decide) ?_
  refine er_iaddN d_Mo_give_132 ?_
  refine er_ialdQ (v := (nI (hx))) d_Mo_give_133 hmp (by omega) (by omega) ((hrr 6 (by decide)).trans (congrArg en hrv.1)) ?_
  refine er_aload_n d_Mo_give_134 rfl ?_
  refine er_getf d_Mo_give_135 f_Mo_give_179 hO rfl ?_
  refine er_icmp_eqN 143 d_Mo_give_138 (by decide) (by omega) (by omega) (fun c1 => ?_) (fun c1 => ?_)
  · refine er_iconst ((nI (0))) d_Mo_give_143 (by decide) ?_
    refine er_istore d_Mo_give_144 (by decide) ?_
    show jl_E l G m_Mo_give (0, 0) 146 [some (.ref 22), some (.int (nI m)), some (.int (nI pc)), some (.int (nI ((12) * (((24) * (m)) + (pc))))), some (.int (nI 0)), none, none] [] (σ) P
    have he : hx = h := by omega
    subst he
    exact mo_give_3 hl hmb hok hm hpc hA hF hg hl2 hAs hrv hT hN (hx + 1) 0 (by omega) (by omega) (fun j hj => absurd hj (Nat.not_lt_zero _))
  · refine er_iconst ((nI (0))) d_Mo_give_141 (by decide) ?_
    exact er_zret d_Mo_give_142 rfl (by decide) (hN (by unfold meetA; simp only [hAs]; rw [if_neg (by rw [hrv.1]; intro z; cases z; omega)])) (by decide) (by decide)
theorem mo_give (hl : l.stackTraces = false) {P : jl_O → jl_S → Prop} {m pc h : Nat} {g : Rw} (hmb : MB σ tb pr ow ft hs u1 u2 ur ul uo ua uc us ut uk fa vf wh wy (nI h) dp md ov oh dn an lo sk kp mm fm) (hok : WoOk tb pr ow fi) (hm : m < 24) (hpc : pc < 24) (hA : MpM mm m A) (hF : frp fm F) (hg : rv g h) (hl2 : RlM g lo sk h) (hAV : AV A) (hT : ∀ s' mm' fm' σ', meetA pr (A, F) pc g h = some s' → MpM mm' m s'.1 → frp fm' s'.2 → MmF m mm mm' → MB σ' tb pr ow ft hs u1 u2 ur ul uo ua uc us ut uk fa vf wh wy (nI h) dp md ov oh dn an lo sk kp mm' fm' → FrM σ σ' → P (.inl (some (.int (nI 1)))) σ') (hN : meetA pr (A, F) pc g h = none → P (.inl (some (.int (nI 0)))) σ) : jl_mE l G m_Mo_give [.ref 22, .int (nI m), .int (nI pc)] σ P := by
  cases hq : A pc with
  | none => exact mo_give_n hl hmb hok hm hpc hA hF hg hl2 hq hT
  | some r =>
    obtain ⟨hr, hrv⟩ := hAV pc r hq
    exact mo_give_s hl hmb hok hm hpc hA hF hg hl2 hq hrv hT hN
end JMv
