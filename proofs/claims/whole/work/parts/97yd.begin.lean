/-! the class Machine: begin (wip/gen/p97yd.py) -/
section JMyd
variable {l : Launch} {G : jl_G} {σ : jl_S}
variable {tb : Nat → Bool} {pr : Nat → Option Nat} {ow fi ft : Nat → Nat} {mt : Nat → Option Nat}
variable {a : Nat} {q1 q2 : Option Nat} {rs : Nat} {op : Nat → Nat} {ag : Nat → Int32} {sz : Nat} {fr tt tg kd : Nat → Nat} {nc : Nat} {mp : Nat → Int32} {fh : Nat → Bool}
variable {σ0 : jl_S} {N t m p b : Nat} {R : Rw} {V : Nat → Int32} {fs : List Fm} {H : Hp} {su dt dq aw x : Int32}
variable {sg : Int32 → Option Sg} {D : Nat → MDt} {MP : Nat → Nat → Int32} {FH : Nat → Nat → Bool} {k t1v t2v : Nat} {xa xb : Int32}
theorem d_Ma_begin_61 : decode m_Ma_begin.2.1 61 = .ok (.iload 6, 2) := by decide +kernel
theorem d_Ma_begin_63 : decode m_Ma_begin.2.1 63 = .ok (.aload_n 2, 1) := by decide +kernel
theorem k_Ma_begin_73 : jl_cv m_Ma_begin m_Me_parameters 73 0 = true := by decide +kernel
theorem d_Ma_begin_64 : decode m_Ma_begin.2.1 64 = .ok (.invokevirtual 73, 3) := by decide +kernel
theorem d_Ma_begin_67 : decode m_Ma_begin.2.1 67 = .ok (.if_icmp .ge 46, 3) := by decide +kernel
theorem d_Ma_begin_113 : decode m_Ma_begin.2.1 113 = .ok (.return_, 1) := by decide +kernel
theorem ma_bg_0 (hl : l.stackTraces = false) {P : jl_O → jl_S → Prop}  (hk : KB σ0 mt σ (7) t m p (R) (V) (fs) (H) (nI 9) (nI 0) (nI 0) aw) (hm : MeAt σ a (none) (none) rs op ag sz fr tt tg kd nc mp fh) (ha : 54 ≤ a) (ht : t < 12)  (hT : ∀ σ', KB σ0 mt σ' (7) t m p (R) (V) (fs) (H) (nI 9) (nI 0) (nI 0) aw → P (.inl none) σ') : jl_E l G m_Ma_begin (0, 0) 61 [some (.ref 13), some (.int (nI k)), some (.ref a), some (.int (xa)), some (.int (xb)), some (.int (xa)), some (.int (nI 0))] [] σ P := by
  obtain ⟨uw, ps, ty, va, hX, u1, u2, t1, t2, hS, hx, hto, hF⟩ := id hk
  obtain ⟨s0, s1, s2, s3⟩ := id hS
  obtain ⟨⟨⟨a0, hma, hua⟩, hps, hty, hva⟩, hfs, hln, hob⟩ := id hx
  have hma : mt m = some a0 := hma
  have hps : ps t = p := hps
  have hty : ∀ j, j < _ → ty (t * 12 + j) = R j := hty
  have hva : ∀ j, j < _ → j ≠ 6 → va (t * 12 + j) = V j := hva
  have hRo := hx.rob
  obtain ⟨hM, g1, g2, g3, g4, g5, g6, g7, g8⟩ := id hm
  refine er_iload d_Ma_begin_61 rfl ?_
  refine er_aload_n d_Ma_begin_63 rfl ?_
  refine er_callV (As := []) d_Ma_begin_64 k_Ma_begin_73 hM rfl rfl rfl (Nat.le_of_ble_eq_true rfl) (by decide) (by decide) (me_params hl ⟨hM, g1, g2, g3, g4, g5, g6, g7, g8⟩ (fun _ q => by cases q) (fun _ q => by cases q)) ?_
  show jl_E l G m_Ma_begin (0, 0) 67 [some (.ref 13), some (.int (nI k)), some (.ref a), some (.int (xa)), some (.int (xb)), some (.int (xa)), some (.int (nI 0))] [.int (nI 0), .int (nI 0)] (σ) P
  refine er_icmp_ge 113 d_Ma_begin_67 (by decide) (fun _ => ?_) (fun z => absurd (by decide) z)
  exact er_vret d_Ma_begin_113 rfl (hT _ ⟨_, _, _, _, hX, u1, u2, t1, t2, ⟨s0, s1, s2, s3⟩, hx, hto, hF⟩) (by decide) (by decide)
theorem d_Ma_begin_70 : decode m_Ma_begin.2.1 70 = .ok (.aload_n 2, 1) := by decide +kernel
theorem d_Ma_begin_71 : decode m_Ma_begin.2.1 71 = .ok (.iload 6, 2) := by decide +kernel
theorem k_Ma_begin_77 : jl_cv m_Ma_begin m_Me_parameter 77 1 = true := by decide +kernel
theorem d_Ma_begin_73 : decode m_Ma_begin.2.1 73 = .ok (.invokevirtual 77, 3) := by decide +kernel
theorem d_Ma_begin_76 : decode m_Ma_begin.2.1 76 = .ok (.ifCond .ne 21, 3) := by decide +kernel
theorem d_Ma_begin_79 : decode m_Ma_begin.2.1 79 = .ok (.aload_n 0, 1) := by decide +kernel
theorem d_Ma_begin_80 : decode m_Ma_begin.2.1 80 = .ok (.iconst 1, 1) := by decide +kernel
theorem d_Ma_begin_81 : decode m_Ma_begin.2.1 81 = .ok (.iload 6, 2) := by decide +kernel
theorem d_Ma_begin_83 : decode m_Ma_begin.2.1 83 = .ok (.iadd, 1) := by decide +kernel
theorem d_Ma_begin_84 : decode m_Ma_begin.2.1 84 = .ok (.iconst 0, 1) := by decide +kernel
theorem d_Ma_begin_85 : decode m_Ma_begin.2.1 85 = .ok (.iload 5, 2) := by decide +kernel
theorem k_Ma_begin_69 : jl_cv m_Ma_begin m_Ma_setLocal 69 3 = true := by decide +kernel
theorem d_Ma_begin_87 : decode m_Ma_begin.2.1 87 = .ok (.invokevirtual 69, 3) := by decide +kernel
theorem d_Ma_begin_90 : decode m_Ma_begin.2.1 90 = .ok (.iload 4, 2) := by decide +kernel
theorem d_Ma_begin_92 : decode m_Ma_begin.2.1 92 = .ok (.istore 5, 2) := by decide +kernel
theorem d_Ma_begin_94 : decode m_Ma_begin.2.1 94 = .ok (.goto 13, 3) := by decide +kernel
theorem d_Ma_begin_107 : decode m_Ma_begin.2.1 107 = .ok (.iinc 6 1, 3) := by decide +kernel
theorem d_Ma_begin_110 : decode m_Ma_begin.2.1 110 = .ok (.goto (-49), 3) := by decide +kernel
theorem ma_bg_1i (hl : l.stackTraces = false) {P : jl_O → jl_S → Prop}  (hk : KB σ0 mt σ (7) t m p (R) (V) (fs) (H) (nI 9) (nI 0) (nI 0) aw) (hm : MeAt σ a (some 0) (none) rs op ag sz fr tt tg kd nc mp fh) (ha : 54 ≤ a) (ht : t < 12)  (hT : ∀ σ', KB σ0 mt σ' (7) t m p (va_up (R) 1 (some 0)) (va_up (V) 1 (xa)) (fs) (H) (nI 9) (nI 0) (nI 0) aw → P (.inl none) σ') : jl_E l G m_Ma_begin (0, 0) 61 [some (.ref 13), some (.int (nI k)), some (.ref a), some (.int (xa)), some (.int (xb)), some (.int (xa)), some (.int (nI 0))] [] σ P := by
  obtain ⟨uw, ps, ty, va, hX, u1, u2, t1, t2, hS, hx, hto, hF⟩ := id hk
  obtain ⟨s0, s1, s2, s3⟩ := id hS
  obtain ⟨⟨⟨a0, hma, hua⟩, hps, hty, hva⟩, hfs, hln, hob⟩ := id hx
  have hma : mt m = some a0 := hma
  have hps : ps t = p := hps
  have hty : ∀ j, j < _ → ty (t * 12 + j) = R j := hty
  have hva : ∀ j, j < _ → j ≠ 6 → va (t * 12 + j) = V j := hva
  have hRo := hx.rob
  obtain ⟨hM, g1, g2, g3, g4, g5, g6, g7, g8⟩ := id hm
  refine er_iload d_Ma_begin_61 rfl ?_
  refine er_aload_n d_Ma_begin_63 rfl ?_
  refine er_callV (As := []) d_Ma_begin_64 k_Ma_begin_73 hM rfl rfl rfl (Nat.le_of_ble_eq_true rfl) (by decide) (by decide) (me_params hl ⟨hM, g1, g2, g3, g4, g5, g6, g7, g8⟩ (ob_s (by omega)) (fun _ q => by cases q)) ?_
  show jl_E l G m_Ma_begin (0, 0) 67 [some (.ref 13), some (.int (nI k)), some (.ref a), some (.int (xa)), some (.int (xb)), some (.int (xa)), some (.int (nI 0))] [.int (nI 1), .int (nI 0)] (σ) P
  refine er_icmp_ge 113 d_Ma_begin_67 (by decide) (fun z => absurd z (by decide)) (fun _ => ?_)
  refine er_aload_n d_Ma_begin_70 rfl ?_
  refine er_iload d_Ma_begin_71 rfl ?_
  refine er_callV (As := [.int (nI 0)]) d_Ma_begin_73 k_Ma_begin_77 hM rfl rfl rfl (Nat.le_of_ble_eq_true rfl) (by decide) (by decide) (me_param (i := 0) hl ⟨hM, g1, g2, g3, g4, g5, g6, g7, g8⟩ (by decide)) ?_
  show jl_E l G m_Ma_begin (0, 0) 76 [some (.ref 13), some (.int (nI k)), some (.ref a), some (.int (xa)), some (.int (xb)), some (.int (xa)), some (.int (nI 0))] [.int (nI 0)] (σ) P
  refine er_if_ne 97 d_Ma_begin_76 (by decide) (fun z => absurd rfl z) (fun _ => ?_)
  refine er_aload_n d_Ma_begin_79 rfl ?_
  refine er_iconst ((nI (1))) d_Ma_begin_80 (by decide) ?_
  refine er_iload d_Ma_begin_81 rfl ?_
  refine er_iaddN d_Ma_begin_83 ?_
  refine er_iconst ((nI (0))) d_Ma_begin_84 (by decide) ?_
  refine er_iload d_Ma_begin_85 rfl ?_
  refine er_callV (As := [.int (nI ((1) + (0))), .int (nI 0), .int (xa)]) d_Ma_begin_87 k_Ma_begin_69 hX rfl rfl rfl (Nat.le_of_ble_eq_true rfl) (by decide) (by decide) (ma_local (i := 1) (y := (some (0))) (v := (xa)) hl hX t1 t2 ht (by omega)) ?_
  show jl_E l G m_Ma_begin (0, 0) 90 [some (.ref 13), some (.int (nI k)), some (.ref a), some (.int (xa)), some (.int (xb)), some (.int (xa)), some (.int (nI 0))] [] ((σ.set (20) (.inl (0, 144, .inl (fun j => en ((va_up ty (t * 12 + 1) (some (0))) j))))).set (21) (.inl (0, 144, .inl (upd va (t * 12 + 1) (xa))))) P
  refine er_iload d_Ma_begin_90 rfl ?_
  refine er_istore d_Ma_begin_92 (by decide) ?_
  show jl_E l G m_Ma_begin (0, 0) 94 [some (.ref 13), some (.int (nI k)), some (.ref a), some (.int (xa)), some (.int (xb)), some (.int (xb)), some (.int (nI 0))] [] ((σ.set (20) (.inl (0, 144, .inl (fun j => en ((va_up ty (t * 12 + 1) (some (0))) j))))).set (21) (.inl (0, 144, .inl (upd va (t * 12 + 1) (xa))))) P
  refine er_goto 107 d_Ma_begin_94 (by decide) ?_
  refine er_iinc ((nI (1))) d_Ma_begin_107 (by decide) rfl (jl_inc 0) ?_
  show jl_E l G m_Ma_begin (0, 0) 110 [some (.ref 13), some (.int (nI k)), some (.ref a), some (.int (xa)), some (.int (xb)), some (.int (xb)), some (.int (nI 1))] [] ((σ.set (20) (.inl (0, 144, .inl (fun j => en ((va_up ty (t * 12 + 1) (some (0))) j))))).set (21) (.inl (0, 144, .inl (upd va (t * 12 + 1) (xa))))) P
  refine er_goto 61 d_Ma_begin_110 (by decide) ?_
  refine er_iload d_Ma_begin_61 rfl ?_
  refine er_aload_n d_Ma_begin_63 rfl ?_
  refine er_callV (As := []) d_Ma_begin_64 k_Ma_begin_73 (jl_sn (by omega) (jl_sn (by omega) hM)) rfl rfl rfl (Nat.le_of_ble_eq_true rfl) (by decide) (by decide) (me_params hl ⟨(jl_sn (by omega) (jl_sn (by omega) hM)), (jl_sn (by omega) (jl_sn (by omega) g1)), (jl_sn (by omega) (jl_sn (by omega) g2)), (jl_sn (by omega) (jl_sn (by omega) g3)), (jl_sn (by omega) (jl_sn (by omega) g4)), (jl_sn (by omega) (jl_sn (by omega) g5)), (jl_sn (by omega) (jl_sn (by omega) g6)), (jl_sn (by omega) (jl_sn (by omega) g7)), (jl_sn (by omega) (jl_sn (by omega) g8))⟩ (ob_s (by omega)) (fun _ q => by cases q)) ?_
  show jl_E l G m_Ma_begin (0, 0) 67 [some (.ref 13), some (.int (nI k)), some (.ref a), some (.int (xa)), some (.int (xb)), some (.int (xb)), some (.int (nI 1))] [.int (nI 1), .int (nI 1)] ((σ.set (20) (.inl (0, 144, .inl (fun j => en ((va_up ty (t * 12 + 1) (some (0))) j))))).set (21) (.inl (0, 144, .inl (upd va (t * 12 + 1) (xa))))) P
  refine er_icmp_ge 113 d_Ma_begin_67 (by decide) (fun _ => ?_) (fun z => absurd (by decide) z)
  exact er_vret d_Ma_begin_113 rfl (hT _ ⟨_, _, _, _, (jl_sn (by decide) (jl_sn (by decide) hX)), (jl_sn (by decide) (jl_sn (by decide) u1)), (jl_sn (by decide) (jl_sn (by decide) u2)), (jl_sn (by decide) (jl_ss t1)), (jl_ss (jl_sn (by decide) t2)), ⟨(jl_sn (by decide) (jl_sn (by decide) s0)), (jl_sn (by decide) (jl_sn (by decide) s1)), (jl_sn (by decide) (jl_sn (by decide) s2)), (jl_sn (by decide) (jl_sn (by decide) s3))⟩, ((hx).loc (i := 1) (y := (some (0))) (v := (xa)) (by omega) (ob_s (by omega))), hto, ((hF.set (by omega)).set (by omega))⟩) (by decide) (by decide)
theorem d_Ma_begin_97 : decode m_Ma_begin.2.1 97 = .ok (.aload_n 0, 1) := by decide +kernel
theorem d_Ma_begin_98 : decode m_Ma_begin.2.1 98 = .ok (.iconst 1, 1) := by decide +kernel
theorem d_Ma_begin_99 : decode m_Ma_begin.2.1 99 = .ok (.iload 6, 2) := by decide +kernel
theorem d_Ma_begin_101 : decode m_Ma_begin.2.1 101 = .ok (.iadd, 1) := by decide +kernel
theorem d_Ma_begin_102 : decode m_Ma_begin.2.1 102 = .ok (.iconst 2, 1) := by decide +kernel
theorem d_Ma_begin_103 : decode m_Ma_begin.2.1 103 = .ok (.iconst (-1), 1) := by decide +kernel
theorem d_Ma_begin_104 : decode m_Ma_begin.2.1 104 = .ok (.invokevirtual 69, 3) := by decide +kernel
theorem ma_bg_1r (hl : l.stackTraces = false) {P : jl_O → jl_S → Prop}  (hk : KB σ0 mt σ (7) t m p (R) (V) (fs) (H) (nI 9) (nI 0) (nI 0) aw) (hm : MeAt σ a (some t1v) (none) rs op ag sz fr tt tg kd nc mp fh) (ha : 54 ≤ a) (ht : t < 12) (h1 : t1v ≠ 0) (h1b : t1v < 16) (hT : ∀ σ', KB σ0 mt σ' (7) t m p (va_up (R) 1 (some 2)) (va_up (V) 1 (-1)) (fs) (H) (nI 9) (nI 0) (nI 0) aw → P (.inl none) σ') : jl_E l G m_Ma_begin (0, 0) 61 [some (.ref 13), some (.int (nI k)), some (.ref a), some (.int (xa)), some (.int (xb)), some (.int (xa)), some (.int (nI 0))] [] σ P := by
  obtain ⟨uw, ps, ty, va, hX, u1, u2, t1, t2, hS, hx, hto, hF⟩ := id hk
  obtain ⟨s0, s1, s2, s3⟩ := id hS
  obtain ⟨⟨⟨a0, hma, hua⟩, hps, hty, hva⟩, hfs, hln, hob⟩ := id hx
  have hma : mt m = some a0 := hma
  have hps : ps t = p := hps
  have hty : ∀ j, j < _ → ty (t * 12 + j) = R j := hty
  have hva : ∀ j, j < _ → j ≠ 6 → va (t * 12 + j) = V j := hva
  have hRo := hx.rob
  obtain ⟨hM, g1, g2, g3, g4, g5, g6, g7, g8⟩ := id hm
  refine er_iload d_Ma_begin_61 rfl ?_
  refine er_aload_n d_Ma_begin_63 rfl ?_
  refine er_callV (As := []) d_Ma_begin_64 k_Ma_begin_73 hM rfl rfl rfl (Nat.le_of_ble_eq_true rfl) (by decide) (by decide) (me_params hl ⟨hM, g1, g2, g3, g4, g5, g6, g7, g8⟩ (ob_s (by omega)) (fun _ q => by cases q)) ?_
  show jl_E l G m_Ma_begin (0, 0) 67 [some (.ref 13), some (.int (nI k)), some (.ref a), some (.int (xa)), some (.int (xb)), some (.int (xa)), some (.int (nI 0))] [.int (nI 1), .int (nI 0)] (σ) P
  refine er_icmp_ge 113 d_Ma_begin_67 (by decide) (fun z => absurd z (by decide)) (fun _ => ?_)
  refine er_aload_n d_Ma_begin_70 rfl ?_
  refine er_iload d_Ma_begin_71 rfl ?_
  refine er_callV (As := [.int (nI 0)]) d_Ma_begin_73 k_Ma_begin_77 hM rfl rfl rfl (Nat.le_of_ble_eq_true rfl) (by decide) (by decide) (me_param (i := 0) hl ⟨hM, g1, g2, g3, g4, g5, g6, g7, g8⟩ (by decide)) ?_
  show jl_E l G m_Ma_begin (0, 0) 76 [some (.ref 13), some (.int (nI k)), some (.ref a), some (.int (xa)), some (.int (xb)), some (.int (xa)), some (.int (nI 0))] [.int (nI t1v)] (σ) P
  refine er_if_ne 97 d_Ma_begin_76 (by decide) (fun _ => ?_) (fun z => absurd z ((fun z => by have z2 : nI t1v = nI 0 := z.trans nI_0k.symm; rw [nI_eq (by omega) (by omega)] at z2; omega)))
  refine er_aload_n d_Ma_begin_97 rfl ?_
  refine er_iconst ((nI (1))) d_Ma_begin_98 (by decide) ?_
  refine er_iload d_Ma_begin_99 rfl ?_
  refine er_iaddN d_Ma_begin_101 ?_
  refine er_iconst ((nI (2))) d_Ma_begin_102 (by decide) ?_
  refine er_iconst ((-1)) d_Ma_begin_103 (by decide) ?_
  refine er_callV (As := [.int (nI ((1) + (0))), .int (nI 2), .int (-1)]) d_Ma_begin_104 k_Ma_begin_69 hX rfl rfl rfl (Nat.le_of_ble_eq_true rfl) (by decide) (by decide) (ma_local (i := 1) (y := (some (2))) (v := (-1)) hl hX t1 t2 ht (by omega)) ?_
  show jl_E l G m_Ma_begin (0, 0) 107 [some (.ref 13), some (.int (nI k)), some (.ref a), some (.int (xa)), some (.int (xb)), some (.int (xa)), some (.int (nI 0))] [] ((σ.set (20) (.inl (0, 144, .inl (fun j => en ((va_up ty (t * 12 + 1) (some (2))) j))))).set (21) (.inl (0, 144, .inl (upd va (t * 12 + 1) (-1))))) P
  refine er_iinc ((nI (1))) d_Ma_begin_107 (by decide) rfl (jl_inc 0) ?_
  show jl_E l G m_Ma_begin (0, 0) 110 [some (.ref 13), some (.int (nI k)), some (.ref a), some (.int (xa)), some (.int (xb)), some (.int (xa)), some (.int (nI 1))] [] ((σ.set (20) (.inl (0, 144, .inl (fun j => en ((va_up ty (t * 12 + 1) (some (2))) j))))).set (21) (.inl (0, 144, .inl (upd va (t * 12 + 1) (-1))))) P
  refine er_goto 61 d_Ma_begin_110 (by decide) ?_
  refine er_iload d_Ma_begin_61 rfl ?_
  refine er_aload_n d_Ma_begin_63 rfl ?_
  refine er_callV (As := []) d_Ma_begin_64 k_Ma_begin_73 (jl_sn (by omega) (jl_sn (by omega) hM)) rfl rfl rfl (Nat.le_of_ble_eq_true rfl) (by decide) (by decide) (me_params hl ⟨(jl_sn (by omega) (jl_sn (by omega) hM)), (jl_sn (by omega) (jl_sn (by omega) g1)), (jl_sn (by omega) (jl_sn (by omega) g2)), (jl_sn (by omega) (jl_sn (by omega) g3)), (jl_sn (by omega) (jl_sn (by omega) g4)), (jl_sn (by omega) (jl_sn (by omega) g5)), (jl_sn (by omega) (jl_sn (by omega) g6)), (jl_sn (by omega) (jl_sn (by omega) g7)), (jl_sn (by omega) (jl_sn (by omega) g8))⟩ (ob_s (by omega)) (fun _ q => by cases q)) ?_
  show jl_E l G m_Ma_begin (0, 0) 67 [some (.ref 13), some (.int (nI k)), some (.ref a), some (.int (xa)), some (.int (xb)), some (.int (xa)), some (.int (nI 1))] [.int (nI 1), .int (nI 1)] ((σ.set (20) (.inl (0, 144, .inl (fun j => en ((va_up ty (t * 12 + 1) (some (2))) j))))).set (21) (.inl (0, 144, .inl (upd va (t * 12 + 1) (-1))))) P
  refine er_icmp_ge 113 d_Ma_begin_67 (by decide) (fun _ => ?_) (fun z => absurd (by decide) z)
  exact er_vret d_Ma_begin_113 rfl (hT _ ⟨_, _, _, _, (jl_sn (by decide) (jl_sn (by decide) hX)), (jl_sn (by decide) (jl_sn (by decide) u1)), (jl_sn (by decide) (jl_sn (by decide) u2)), (jl_sn (by decide) (jl_ss t1)), (jl_ss (jl_sn (by decide) t2)), ⟨(jl_sn (by decide) (jl_sn (by decide) s0)), (jl_sn (by decide) (jl_sn (by decide) s1)), (jl_sn (by decide) (jl_sn (by decide) s2)), (jl_sn (by decide) (jl_sn (by decide) s3))⟩, ((hx).loc (i := 1) (y := (some (2))) (v := (-1)) (by omega) (ob_s (by omega))), hto, ((hF.set (by omega)).set (by omega))⟩) (by decide) (by decide)
theorem ma_bg_2ii (hl : l.stackTraces = false) {P : jl_O → jl_S → Prop}  (hk : KB σ0 mt σ (7) t m p (R) (V) (fs) (H) (nI 9) (nI 0) (nI 0) aw) (hm : MeAt σ a (some 0) (some 0) rs op ag sz fr tt tg kd nc mp fh) (ha : 54 ≤ a) (ht : t < 12)  (hT : ∀ σ', KB σ0 mt σ' (7) t m p (va_up (va_up (R) 1 (some 0)) 2 (some 0)) (va_up (va_up (V) 1 (xa)) 2 (xb)) (fs) (H) (nI 9) (nI 0) (nI 0) aw → P (.inl none) σ') : jl_E l G m_Ma_begin (0, 0) 61 [some (.ref 13), some (.int (nI k)), some (.ref a), some (.int (xa)), some (.int (xb)), some (.int (xa)), some (.int (nI 0))] [] σ P := by
  obtain ⟨uw, ps, ty, va, hX, u1, u2, t1, t2, hS, hx, hto, hF⟩ := id hk
  obtain ⟨s0, s1, s2, s3⟩ := id hS
  obtain ⟨⟨⟨a0, hma, hua⟩, hps, hty, hva⟩, hfs, hln, hob⟩ := id hx
  have hma : mt m = some a0 := hma
  have hps : ps t = p := hps
  have hty : ∀ j, j < _ → ty (t * 12 + j) = R j := hty
  have hva : ∀ j, j < _ → j ≠ 6 → va (t * 12 + j) = V j := hva
  have hRo := hx.rob
  obtain ⟨hM, g1, g2, g3, g4, g5, g6, g7, g8⟩ := id hm
  refine er_iload d_Ma_begin_61 rfl ?_
  refine er_aload_n d_Ma_begin_63 rfl ?_
  refine er_callV (As := []) d_Ma_begin_64 k_Ma_begin_73 hM rfl rfl rfl (Nat.le_of_ble_eq_true rfl) (by decide) (by decide) (me_params hl ⟨hM, g1, g2, g3, g4, g5, g6, g7, g8⟩ (ob_s (by omega)) (ob_s (by omega))) ?_
  show jl_E l G m_Ma_begin (0, 0) 67 [some (.ref 13), some (.int (nI k)), some (.ref a), some (.int (xa)), some (.int (xb)), some (.int (xa)), some (.int (nI 0))] [.int (nI 2), .int (nI 0)] (σ) P
  refine er_icmp_ge 113 d_Ma_begin_67 (by decide) (fun z => absurd z (by decide)) (fun _ => ?_)
  refine er_aload_n d_Ma_begin_70 rfl ?_
  refine er_iload d_Ma_begin_71 rfl ?_
  refine er_callV (As := [.int (nI 0)]) d_Ma_begin_73 k_Ma_begin_77 hM rfl rfl rfl (Nat.le_of_ble_eq_true rfl) (by decide) (by decide) (me_param (i := 0) hl ⟨hM, g1, g2, g3, g4, g5, g6, g7, g8⟩ (by decide)) ?_
  show jl_E l G m_Ma_begin (0, 0) 76 [some (.ref 13), some (.int (nI k)), some (.ref a), some (.int (xa)), some (.int (xb)), some (.int (xa)), some (.int (nI 0))] [.int (nI 0)] (σ) P
  refine er_if_ne 97 d_Ma_begin_76 (by decide) (fun z => absurd rfl z) (fun _ => ?_)
  refine er_aload_n d_Ma_begin_79 rfl ?_
  refine er_iconst ((nI (1))) d_Ma_begin_80 (by decide) ?_
  refine er_iload d_Ma_begin_81 rfl ?_
  refine er_iaddN d_Ma_begin_83 ?_
  refine er_iconst ((nI (0))) d_Ma_begin_84 (by decide) ?_
  refine er_iload d_Ma_begin_85 rfl ?_
  refine er_callV (As := [.int (nI ((1) + (0))), .int (nI 0), .int (xa)]) d_Ma_begin_87 k_Ma_begin_69 hX rfl rfl rfl (Nat.le_of_ble_eq_true rfl) (by decide) (by decide) (ma_local (i := 1) (y := (some (0))) (v := (xa)) hl hX t1 t2 ht (by omega)) ?_
  show jl_E l G m_Ma_begin (0, 0) 90 [some (.ref 13), some (.int (nI k)), some (.ref a), some (.int (xa)), some (.int (xb)), some (.int (xa)), some (.int (nI 0))] [] ((σ.set (20) (.inl (0, 144, .inl (fun j => en ((va_up ty (t * 12 + 1) (some (0))) j))))).set (21) (.inl (0, 144, .inl (upd va (t * 12 + 1) (xa))))) P
  refine er_iload d_Ma_begin_90 rfl ?_
  refine er_istore d_Ma_begin_92 (by decide) ?_
  show jl_E l G m_Ma_begin (0, 0) 94 [some (.ref 13), some (.int (nI k)), some (.ref a), some (.int (xa)), some (.int (xb)), some (.int (xb)), some (.int (nI 0))] [] ((σ.set (20) (.inl (0, 144, .inl (fun j => en ((va_up ty (t * 12 + 1) (some (0))) j))))).set (21) (.inl (0, 144, .inl (upd va (t * 12 + 1) (xa))))) P
  refine er_goto 107 d_Ma_begin_94 (by decide) ?_
  refine er_iinc ((nI (1))) d_Ma_begin_107 (by decide) rfl (jl_inc 0) ?_
  show jl_E l G m_Ma_begin (0, 0) 110 [some (.ref 13), some (.int (nI k)), some (.ref a), some (.int (xa)), some (.int (xb)), some (.int (xb)), some (.int (nI 1))] [] ((σ.set (20) (.inl (0, 144, .inl (fun j => en ((va_up ty (t * 12 + 1) (some (0))) j))))).set (21) (.inl (0, 144, .inl (upd va (t * 12 + 1) (xa))))) P
  refine er_goto 61 d_Ma_begin_110 (by decide) ?_
  refine er_iload d_Ma_begin_61 rfl ?_
  refine er_aload_n d_Ma_begin_63 rfl ?_
  refine er_callV (As := []) d_Ma_begin_64 k_Ma_begin_73 (jl_sn (by omega) (jl_sn (by omega) hM)) rfl rfl rfl (Nat.le_of_ble_eq_true rfl) (by decide) (by decide) (me_params hl ⟨(jl_sn (by omega) (jl_sn (by omega) hM)), (jl_sn (by omega) (jl_sn (by omega) g1)), (jl_sn (by omega) (jl_sn (by omega) g2)), (jl_sn (by omega) (jl_sn (by omega) g3)), (jl_sn (by omega) (jl_sn (by omega) g4)), (jl_sn (by omega) (jl_sn (by omega) g5)), (jl_sn (by omega) (jl_sn (by omega) g6)), (jl_sn (by omega) (jl_sn (by omega) g7)), (jl_sn (by omega) (jl_sn (by omega) g8))⟩ (ob_s (by omega)) (ob_s (by omega))) ?_
  show jl_E l G m_Ma_begin (0, 0) 67 [some (.ref 13), some (.int (nI k)), some (.ref a), some (.int (xa)), some (.int (xb)), some (.int (xb)), some (.int (nI 1))] [.int (nI 2), .int (nI 1)] ((σ.set (20) (.inl (0, 144, .inl (fun j => en ((va_up ty (t * 12 + 1) (some (0))) j))))).set (21) (.inl (0, 144, .inl (upd va (t * 12 + 1) (xa))))) P
  refine er_icmp_ge 113 d_Ma_begin_67 (by decide) (fun z => absurd z (by decide)) (fun _ => ?_)
  refine er_aload_n d_Ma_begin_70 rfl ?_
  refine er_iload d_Ma_begin_71 rfl ?_
  refine er_callV (As := [.int (nI 1)]) d_Ma_begin_73 k_Ma_begin_77 (jl_sn (by omega) (jl_sn (by omega) hM)) rfl rfl rfl (Nat.le_of_ble_eq_true rfl) (by decide) (by decide) (me_param (i := 1) hl ⟨(jl_sn (by omega) (jl_sn (by omega) hM)), (jl_sn (by omega) (jl_sn (by omega) g1)), (jl_sn (by omega) (jl_sn (by omega) g2)), (jl_sn (by omega) (jl_sn (by omega) g3)), (jl_sn (by omega) (jl_sn (by omega) g4)), (jl_sn (by omega) (jl_sn (by omega) g5)), (jl_sn (by omega) (jl_sn (by omega) g6)), (jl_sn (by omega) (jl_sn (by omega) g7)), (jl_sn (by omega) (jl_sn (by omega) g8))⟩ (by decide)) ?_
  show jl_E l G m_Ma_begin (0, 0) 76 [some (.ref 13), some (.int (nI k)), some (.ref a), some (.int (xa)), some (.int (xb)), some (.int (xb)), some (.int (nI 1))] [.int (nI 0)] ((σ.set (20) (.inl (0, 144, .inl (fun j => en ((va_up ty (t * 12 + 1) (some (0))) j))))).set (21) (.inl (0, 144, .inl (upd va (t * 12 + 1) (xa))))) P
  refine er_if_ne 97 d_Ma_begin_76 (by decide) (fun z => absurd rfl z) (fun _ => ?_)
  refine er_aload_n d_Ma_begin_79 rfl ?_
  refine er_iconst ((nI (1))) d_Ma_begin_80 (by decide) ?_
  refine er_iload d_Ma_begin_81 rfl ?_
  refine er_iaddN d_Ma_begin_83 ?_
  refine er_iconst ((nI (0))) d_Ma_begin_84 (by decide) ?_
  refine er_iload d_Ma_begin_85 rfl ?_
  refine er_callV (As := [.int (nI ((1) + (1))), .int (nI 0), .int (xb)]) d_Ma_begin_87 k_Ma_begin_69 (jl_sn (by decide) (jl_sn (by decide) hX)) rfl rfl rfl (Nat.le_of_ble_eq_true rfl) (by decide) (by decide) (ma_local (i := 2) (y := (some (0))) (v := (xb)) hl (jl_sn (by decide) (jl_sn (by decide) hX)) (jl_sn (by decide) (jl_ss t1)) (jl_ss (jl_sn (by decide) t2)) ht (by omega)) ?_
  show jl_E l G m_Ma_begin (0, 0) 90 [some (.ref 13), some (.int (nI k)), some (.ref a), some (.int (xa)), some (.int (xb)), some (.int (xb)), some (.int (nI 1))] [] ((((σ.set (20) (.inl (0, 144, .inl (fun j => en ((va_up ty (t * 12 + 1) (some (0))) j))))).set (21) (.inl (0, 144, .inl (upd va (t * 12 + 1) (xa))))).set (20) (.inl (0, 144, .inl (fun j => en ((va_up (va_up ty (t * 12 + 1) (some (0))) (t * 12 + 2) (some (0))) j))))).set (21) (.inl (0, 144, .inl (upd (upd va (t * 12 + 1) (xa)) (t * 12 + 2) (xb))))) P
  refine er_iload d_Ma_begin_90 rfl ?_
  refine er_istore d_Ma_begin_92 (by decide) ?_
  show jl_E l G m_Ma_begin (0, 0) 94 [some (.ref 13), some (.int (nI k)), some (.ref a), some (.int (xa)), some (.int (xb)), some (.int (xb)), some (.int (nI 1))] [] ((((σ.set (20) (.inl (0, 144, .inl (fun j => en ((va_up ty (t * 12 + 1) (some (0))) j))))).set (21) (.inl (0, 144, .inl (upd va (t * 12 + 1) (xa))))).set (20) (.inl (0, 144, .inl (fun j => en ((va_up (va_up ty (t * 12 + 1) (some (0))) (t * 12 + 2) (some (0))) j))))).set (21) (.inl (0, 144, .inl (upd (upd va (t * 12 + 1) (xa)) (t * 12 + 2) (xb))))) P
  refine er_goto 107 d_Ma_begin_94 (by decide) ?_
  refine er_iinc ((nI (2))) d_Ma_begin_107 (by decide) rfl (jl_inc 1) ?_
  show jl_E l G m_Ma_begin (0, 0) 110 [some (.ref 13), some (.int (nI k)), some (.ref a), some (.int (xa)), some (.int (xb)), some (.int (xb)), some (.int (nI 2))] [] ((((σ.set (20) (.inl (0, 144, .inl (fun j => en ((va_up ty (t * 12 + 1) (some (0))) j))))).set (21) (.inl (0, 144, .inl (upd va (t * 12 + 1) (xa))))).set (20) (.inl (0, 144, .inl (fun j => en ((va_up (va_up ty (t * 12 + 1) (some (0))) (t * 12 + 2) (some (0))) j))))).set (21) (.inl (0, 144, .inl (upd (upd va (t * 12 + 1) (xa)) (t * 12 + 2) (xb))))) P
  refine er_goto 61 d_Ma_begin_110 (by decide) ?_
  refine er_iload d_Ma_begin_61 rfl ?_
  refine er_aload_n d_Ma_begin_63 rfl ?_
  refine er_callV (As := []) d_Ma_begin_64 k_Ma_begin_73 (jl_sn (by omega) (jl_sn (by omega) (jl_sn (by omega) (jl_sn (by omega) hM)))) rfl rfl rfl (Nat.le_of_ble_eq_true rfl) (by decide) (by decide) (me_params hl ⟨(jl_sn (by omega) (jl_sn (by omega) (jl_sn (by omega) (jl_sn (by omega) hM)))), (jl_sn (by omega) (jl_sn (by omega) (jl_sn (by omega) (jl_sn (by omega) g1)))), (jl_sn (by omega) (jl_sn (by omega) (jl_sn (by omega) (jl_sn (by omega) g2)))), (jl_sn (by omega) (jl_sn (by omega) (jl_sn (by omega) (jl_sn (by omega) g3)))), (jl_sn (by omega) (jl_sn (by omega) (jl_sn (by omega) (jl_sn (by omega) g4)))), (jl_sn (by omega) (jl_sn (by omega) (jl_sn (by omega) (jl_sn (by omega) g5)))), (jl_sn (by omega) (jl_sn (by omega) (jl_sn (by omega) (jl_sn (by omega) g6)))), (jl_sn (by omega) (jl_sn (by omega) (jl_sn (by omega) (jl_sn (by omega) g7)))), (jl_sn (by omega) (jl_sn (by omega) (jl_sn (by omega) (jl_sn (by omega) g8))))⟩ (ob_s (by omega)) (ob_s (by omega))) ?_
  show jl_E l G m_Ma_begin (0, 0) 67 [some (.ref 13), some (.int (nI k)), some (.ref a), some (.int (xa)), some (.int (xb)), some (.int (xb)), some (.int (nI 2))] [.int (nI 2), .int (nI 2)] ((((σ.set (20) (.inl (0, 144, .inl (fun j => en ((va_up ty (t * 12 + 1) (some (0))) j))))).set (21) (.inl (0, 144, .inl (upd va (t * 12 + 1) (xa))))).set (20) (.inl (0, 144, .inl (fun j => en ((va_up (va_up ty (t * 12 + 1) (some (0))) (t * 12 + 2) (some (0))) j))))).set (21) (.inl (0, 144, .inl (upd (upd va (t * 12 + 1) (xa)) (t * 12 + 2) (xb))))) P
  refine er_icmp_ge 113 d_Ma_begin_67 (by decide) (fun _ => ?_) (fun z => absurd (by decide) z)
  exact er_vret d_Ma_begin_113 rfl (hT _ ⟨_, _, _, _, (jl_sn (by decide) (jl_sn (by decide) (jl_sn (by decide) (jl_sn (by decide) hX)))), (jl_sn (by decide) (jl_sn (by decide) (jl_sn (by decide) (jl_sn (by decide) u1)))), (jl_sn (by decide) (jl_sn (by decide) (jl_sn (by decide) (jl_sn (by decide) u2)))), (jl_sn (by decide) (jl_ss (jl_sn (by decide) (jl_ss t1)))), (jl_ss (jl_sn (by decide) (jl_ss (jl_sn (by decide) t2)))), ⟨(jl_sn (by decide) (jl_sn (by decide) (jl_sn (by decide) (jl_sn (by decide) s0)))), (jl_sn (by decide) (jl_sn (by decide) (jl_sn (by decide) (jl_sn (by decide) s1)))), (jl_sn (by decide) (jl_sn (by decide) (jl_sn (by decide) (jl_sn (by decide) s2)))), (jl_sn (by decide) (jl_sn (by decide) (jl_sn (by decide) (jl_sn (by decide) s3))))⟩, ((((hx).loc (i := 1) (y := (some (0))) (v := (xa)) (by omega) (ob_s (by omega)))).loc (i := 2) (y := (some (0))) (v := (xb)) (by omega) (ob_s (by omega))), hto, ((((hF.set (by omega)).set (by omega)).set (by omega)).set (by omega))⟩) (by decide) (by decide)
theorem ma_bg_2ir (hl : l.stackTraces = false) {P : jl_O → jl_S → Prop}  (hk : KB σ0 mt σ (7) t m p (R) (V) (fs) (H) (nI 9) (nI 0) (nI 0) aw) (hm : MeAt σ a (some 0) (some t2v) rs op ag sz fr tt tg kd nc mp fh) (ha : 54 ≤ a) (ht : t < 12) (h2 : t2v ≠ 0) (h2b : t2v < 16) (hT : ∀ σ', KB σ0 mt σ' (7) t m p (va_up (va_up (R) 1 (some 0)) 2 (some 2)) (va_up (va_up (V) 1 (xa)) 2 (-1)) (fs) (H) (nI 9) (nI 0) (nI 0) aw → P (.inl none) σ') : jl_E l G m_Ma_begin (0, 0) 61 [some (.ref 13), some (.int (nI k)), some (.ref a), some (.int (xa)), some (.int (xb)), some (.int (xa)), some (.int (nI 0))] [] σ P := by
  obtain ⟨uw, ps, ty, va, hX, u1, u2, t1, t2, hS, hx, hto, hF⟩ := id hk
  obtain ⟨s0, s1, s2, s3⟩ := id hS
  obtain ⟨⟨⟨a0, hma, hua⟩, hps, hty, hva⟩, hfs, hln, hob⟩ := id hx
  have hma : mt m = some a0 := hma
  have hps : ps t = p := hps
  have hty : ∀ j, j < _ → ty (t * 12 + j) = R j := hty
  have hva : ∀ j, j < _ → j ≠ 6 → va (t * 12 + j) = V j := hva
  have hRo := hx.rob
  obtain ⟨hM, g1, g2, g3, g4, g5, g6, g7, g8⟩ := id hm
  refine er_iload d_Ma_begin_61 rfl ?_
  refine er_aload_n d_Ma_begin_63 rfl ?_
  refine er_callV (As := []) d_Ma_begin_64 k_Ma_begin_73 hM rfl rfl rfl (Nat.le_of_ble_eq_true rfl) (by decide) (by decide) (me_params hl ⟨hM, g1, g2, g3, g4, g5, g6, g7, g8⟩ (ob_s (by omega)) (ob_s (by omega))) ?_
  show jl_E l G m_Ma_begin (0, 0) 67 [some (.ref 13), some (.int (nI k)), some (.ref a), some (.int (xa)), some (.int (xb)), some (.int (xa)), some (.int (nI 0))] [.int (nI 2), .int (nI 0)] (σ) P
  refine er_icmp_ge 113 d_Ma_begin_67 (by decide) (fun z => absurd z (by decide)) (fun _ => ?_)
  refine er_aload_n d_Ma_begin_70 rfl ?_
  refine er_iload d_Ma_begin_71 rfl ?_
  refine er_callV (As := [.int (nI 0)]) d_Ma_begin_73 k_Ma_begin_77 hM rfl rfl rfl (Nat.le_of_ble_eq_true rfl) (by decide) (by decide) (me_param (i := 0) hl ⟨hM, g1, g2, g3, g4, g5, g6, g7, g8⟩ (by decide)) ?_
  show jl_E l G m_Ma_begin (0, 0) 76 [some (.ref 13), some (.int (nI k)), some (.ref a), some (.int (xa)), some (.int (xb)), some (.int (xa)), some (.int (nI 0))] [.int (nI 0)] (σ) P
  refine er_if_ne 97 d_Ma_begin_76 (by decide) (fun z => absurd rfl z) (fun _ => ?_)
  refine er_aload_n d_Ma_begin_79 rfl ?_
  refine er_iconst ((nI (1))) d_Ma_begin_80 (by decide) ?_
  refine er_iload d_Ma_begin_81 rfl ?_
  refine er_iaddN d_Ma_begin_83 ?_
  refine er_iconst ((nI (0))) d_Ma_begin_84 (by decide) ?_
  refine er_iload d_Ma_begin_85 rfl ?_
  refine er_callV (As := [.int (nI ((1) + (0))), .int (nI 0), .int (xa)]) d_Ma_begin_87 k_Ma_begin_69 hX rfl rfl rfl (Nat.le_of_ble_eq_true rfl) (by decide) (by decide) (ma_local (i := 1) (y := (some (0))) (v := (xa)) hl hX t1 t2 ht (by omega)) ?_
  show jl_E l G m_Ma_begin (0, 0) 90 [some (.ref 13), some (.int (nI k)), some (.ref a), some (.int (xa)), some (.int (xb)), some (.int (xa)), some (.int (nI 0))] [] ((σ.set (20) (.inl (0, 144, .inl (fun j => en ((va_up ty (t * 12 + 1) (some (0))) j))))).set (21) (.inl (0, 144, .inl (upd va (t * 12 + 1) (xa))))) P
  refine er_iload d_Ma_begin_90 rfl ?_
  refine er_istore d_Ma_begin_92 (by decide) ?_
  show jl_E l G m_Ma_begin (0, 0) 94 [some (.ref 13), some (.int (nI k)), some (.ref a), some (.int (xa)), some (.int (xb)), some (.int (xb)), some (.int (nI 0))] [] ((σ.set (20) (.inl (0, 144, .inl (fun j => en ((va_up ty (t * 12 + 1) (some (0))) j))))).set (21) (.inl (0, 144, .inl (upd va (t * 12 + 1) (xa))))) P
  refine er_goto 107 d_Ma_begin_94 (by decide) ?_
  refine er_iinc ((nI (1))) d_Ma_begin_107 (by decide) rfl (jl_inc 0) ?_
  show jl_E l G m_Ma_begin (0, 0) 110 [some (.ref 13), some (.int (nI k)), some (.ref a), some (.int (xa)), some (.int (xb)), some (.int (xb)), some (.int (nI 1))] [] ((σ.set (20) (.inl (0, 144, .inl (fun j => en ((va_up ty (t * 12 + 1) (some (0))) j))))).set (21) (.inl (0, 144, .inl (upd va (t * 12 + 1) (xa))))) P
  refine er_goto 61 d_Ma_begin_110 (by decide) ?_
  refine er_iload d_Ma_begin_61 rfl ?_
  refine er_aload_n d_Ma_begin_63 rfl ?_
  refine er_callV (As := []) d_Ma_begin_64 k_Ma_begin_73 (jl_sn (by omega) (jl_sn (by omega) hM)) rfl rfl rfl (Nat.le_of_ble_eq_true rfl) (by decide) (by decide) (me_params hl ⟨(jl_sn (by omega) (jl_sn (by omega) hM)), (jl_sn (by omega) (jl_sn (by omega) g1)), (jl_sn (by omega) (jl_sn (by omega) g2)), (jl_sn (by omega) (jl_sn (by omega) g3)), (jl_sn (by omega) (jl_sn (by omega) g4)), (jl_sn (by omega) (jl_sn (by omega) g5)), (jl_sn (by omega) (jl_sn (by omega) g6)), (jl_sn (by omega) (jl_sn (by omega) g7)), (jl_sn (by omega) (jl_sn (by omega) g8))⟩ (ob_s (by omega)) (ob_s (by omega))) ?_
  show jl_E l G m_Ma_begin (0, 0) 67 [some (.ref 13), some (.int (nI k)), some (.ref a), some (.int (xa)), some (.int (xb)), some (.int (xb)), some (.int (nI 1))] [.int (nI 2), .int (nI 1)] ((σ.set (20) (.inl (0, 144, .inl (fun j => en ((va_up ty (t * 12 + 1) (some (0))) j))))).set (21) (.inl (0, 144, .inl (upd va (t * 12 + 1) (xa))))) P
  refine er_icmp_ge 113 d_Ma_begin_67 (by decide) (fun z => absurd z (by decide)) (fun _ => ?_)
  refine er_aload_n d_Ma_begin_70 rfl ?_
  refine er_iload d_Ma_begin_71 rfl ?_
  refine er_callV (As := [.int (nI 1)]) d_Ma_begin_73 k_Ma_begin_77 (jl_sn (by omega) (jl_sn (by omega) hM)) rfl rfl rfl (Nat.le_of_ble_eq_true rfl) (by decide) (by decide) (me_param (i := 1) hl ⟨(jl_sn (by omega) (jl_sn (by omega) hM)), (jl_sn (by omega) (jl_sn (by omega) g1)), (jl_sn (by omega) (jl_sn (by omega) g2)), (jl_sn (by omega) (jl_sn (by omega) g3)), (jl_sn (by omega) (jl_sn (by omega) g4)), (jl_sn (by omega) (jl_sn (by omega) g5)), (jl_sn (by omega) (jl_sn (by omega) g6)), (jl_sn (by omega) (jl_sn (by omega) g7)), (jl_sn (by omega) (jl_sn (by omega) g8))⟩ (by decide)) ?_
  show jl_E l G m_Ma_begin (0, 0) 76 [some (.ref 13), some (.int (nI k)), some (.ref a), some (.int (xa)), some (.int (xb)), some (.int (xb)), some (.int (nI 1))] [.int (nI t2v)] ((σ.set (20) (.inl (0, 144, .inl (fun j => en ((va_up ty (t * 12 + 1) (some (0))) j))))).set (21) (.inl (0, 144, .inl (upd va (t * 12 + 1) (xa))))) P
  refine er_if_ne 97 d_Ma_begin_76 (by decide) (fun _ => ?_) (fun z => absurd z ((fun z => by have z2 : nI t2v = nI 0 := z.trans nI_0k.symm; rw [nI_eq (by omega) (by omega)] at z2; omega)))
  refine er_aload_n d_Ma_begin_97 rfl ?_
  refine er_iconst ((nI (1))) d_Ma_begin_98 (by decide) ?_
  refine er_iload d_Ma_begin_99 rfl ?_
  refine er_iaddN d_Ma_begin_101 ?_
  refine er_iconst ((nI (2))) d_Ma_begin_102 (by decide) ?_
  refine er_iconst ((-1)) d_Ma_begin_103 (by decide) ?_
  refine er_callV (As := [.int (nI ((1) + (1))), .int (nI 2), .int (-1)]) d_Ma_begin_104 k_Ma_begin_69 (jl_sn (by decide) (jl_sn (by decide) hX)) rfl rfl rfl (Nat.le_of_ble_eq_true rfl) (by decide) (by decide) (ma_local (i := 2) (y := (some (2))) (v := (-1)) hl (jl_sn (by decide) (jl_sn (by decide) hX)) (jl_sn (by decide) (jl_ss t1)) (jl_ss (jl_sn (by decide) t2)) ht (by omega)) ?_
  show jl_E l G m_Ma_begin (0, 0) 107 [some (.ref 13), some (.int (nI k)), some (.ref a), some (.int (xa)), some (.int (xb)), some (.int (xb)), some (.int (nI 1))] [] ((((σ.set (20) (.inl (0, 144, .inl (fun j => en ((va_up ty (t * 12 + 1) (some (0))) j))))).set (21) (.inl (0, 144, .inl (upd va (t * 12 + 1) (xa))))).set (20) (.inl (0, 144, .inl (fun j => en ((va_up (va_up ty (t * 12 + 1) (some (0))) (t * 12 + 2) (some (2))) j))))).set (21) (.inl (0, 144, .inl (upd (upd va (t * 12 + 1) (xa)) (t * 12 + 2) (-1))))) P
  refine er_iinc ((nI (2))) d_Ma_begin_107 (by decide) rfl (jl_inc 1) ?_
  show jl_E l G m_Ma_begin (0, 0) 110 [some (.ref 13), some (.int (nI k)), some (.ref a), some (.int (xa)), some (.int (xb)), some (.int (xb)), some (.int (nI 2))] [] ((((σ.set (20) (.inl (0, 144, .inl (fun j => en ((va_up ty (t * 12 + 1) (some (0))) j))))).set (21) (.inl (0, 144, .inl (upd va (t * 12 + 1) (xa))))).set (20) (.inl (0, 144, .inl (fun j => en ((va_up (va_up ty (t * 12 + 1) (some (0))) (t * 12 + 2) (some (2))) j))))).set (21) (.inl (0, 144, .inl (upd (upd va (t * 12 + 1) (xa)) (t * 12 + 2) (-1))))) P
  refine er_goto 61 d_Ma_begin_110 (by decide) ?_
  refine er_iload d_Ma_begin_61 rfl ?_
  refine er_aload_n d_Ma_begin_63 rfl ?_
  refine er_callV (As := []) d_Ma_begin_64 k_Ma_begin_73 (jl_sn (by omega) (jl_sn (by omega) (jl_sn (by omega) (jl_sn (by omega) hM)))) rfl rfl rfl (Nat.le_of_ble_eq_true rfl) (by decide) (by decide) (me_params hl ⟨(jl_sn (by omega) (jl_sn (by omega) (jl_sn (by omega) (jl_sn (by omega) hM)))), (jl_sn (by omega) (jl_sn (by omega) (jl_sn (by omega) (jl_sn (by omega) g1)))), (jl_sn (by omega) (jl_sn (by omega) (jl_sn (by omega) (jl_sn (by omega) g2)))), (jl_sn (by omega) (jl_sn (by omega) (jl_sn (by omega) (jl_sn (by omega) g3)))), (jl_sn (by omega) (jl_sn (by omega) (jl_sn (by omega) (jl_sn (by omega) g4)))), (jl_sn (by omega) (jl_sn (by omega) (jl_sn (by omega) (jl_sn (by omega) g5)))), (jl_sn (by omega) (jl_sn (by omega) (jl_sn (by omega) (jl_sn (by omega) g6)))), (jl_sn (by omega) (jl_sn (by omega) (jl_sn (by omega) (jl_sn (by omega) g7)))), (jl_sn (by omega) (jl_sn (by omega) (jl_sn (by omega) (jl_sn (by omega) g8))))⟩ (ob_s (by omega)) (ob_s (by omega))) ?_
  show jl_E l G m_Ma_begin (0, 0) 67 [some (.ref 13), some (.int (nI k)), some (.ref a), some (.int (xa)), some (.int (xb)), some (.int (xb)), some (.int (nI 2))] [.int (nI 2), .int (nI 2)] ((((σ.set (20) (.inl (0, 144, .inl (fun j => en ((va_up ty (t * 12 + 1) (some (0))) j))))).set (21) (.inl (0, 144, .inl (upd va (t * 12 + 1) (xa))))).set (20) (.inl (0, 144, .inl (fun j => en ((va_up (va_up ty (t * 12 + 1) (some (0))) (t * 12 + 2) (some (2))) j))))).set (21) (.inl (0, 144, .inl (upd (upd va (t * 12 + 1) (xa)) (t * 12 + 2) (-1))))) P
  refine er_icmp_ge 113 d_Ma_begin_67 (by decide) (fun _ => ?_) (fun z => absurd (by decide) z)
  exact er_vret d_Ma_begin_113 rfl (hT _ ⟨_, _, _, _, (jl_sn (by decide) (jl_sn (by decide) (jl_sn (by decide) (jl_sn (by decide) hX)))), (jl_sn (by decide) (jl_sn (by decide) (jl_sn (by decide) (jl_sn (by decide) u1)))), (jl_sn (by decide) (jl_sn (by decide) (jl_sn (by decide) (jl_sn (by decide) u2)))), (jl_sn (by decide) (jl_ss (jl_sn (by decide) (jl_ss t1)))), (jl_ss (jl_sn (by decide) (jl_ss (jl_sn (by decide) t2)))), ⟨(jl_sn (by decide) (jl_sn (by decide) (jl_sn (by decide) (jl_sn (by decide) s0)))), (jl_sn (by decide) (jl_sn (by decide) (jl_sn (by decide) (jl_sn (by decide) s1)))), (jl_sn (by decide) (jl_sn (by decide) (jl_sn (by decide) (jl_sn (by decide) s2)))), (jl_sn (by decide) (jl_sn (by decide) (jl_sn (by decide) (jl_sn (by decide) s3))))⟩, ((((hx).loc (i := 1) (y := (some (0))) (v := (xa)) (by omega) (ob_s (by omega)))).loc (i := 2) (y := (some (2))) (v := (-1)) (by omega) (ob_s (by omega))), hto, ((((hF.set (by omega)).set (by omega)).set (by omega)).set (by omega))⟩) (by decide) (by decide)
theorem ma_bg_2ri (hl : l.stackTraces = false) {P : jl_O → jl_S → Prop}  (hk : KB σ0 mt σ (7) t m p (R) (V) (fs) (H) (nI 9) (nI 0) (nI 0) aw) (hm : MeAt σ a (some t1v) (some 0) rs op ag sz fr tt tg kd nc mp fh) (ha : 54 ≤ a) (ht : t < 12) (h1 : t1v ≠ 0) (h1b : t1v < 16) (hT : ∀ σ', KB σ0 mt σ' (7) t m p (va_up (va_up (R) 1 (some 2)) 2 (some 0)) (va_up (va_up (V) 1 (-1)) 2 (xa)) (fs) (H) (nI 9) (nI 0) (nI 0) aw → P (.inl none) σ') : jl_E l G m_Ma_begin (0, 0) 61 [some (.ref 13), some (.int (nI k)), some (.ref a), some (.int (xa)), some (.int (xb)), some (.int (xa)), some (.int (nI 0))] [] σ P := by
  obtain ⟨uw, ps, ty, va, hX, u1, u2, t1, t2, hS, hx, hto, hF⟩ := id hk
  obtain ⟨s0, s1, s2, s3⟩ := id hS
  obtain ⟨⟨⟨a0, hma, hua⟩, hps, hty, hva⟩, hfs, hln, hob⟩ := id hx
  have hma : mt m = some a0 := hma
  have hps : ps t = p := hps
  have hty : ∀ j, j < _ → ty (t * 12 + j) = R j := hty
  have hva : ∀ j, j < _ → j ≠ 6 → va (t * 12 + j) = V j := hva
  have hRo := hx.rob
  obtain ⟨hM, g1, g2, g3, g4, g5, g6, g7, g8⟩ := id hm
  refine er_iload d_Ma_begin_61 rfl ?_
  refine er_aload_n d_Ma_begin_63 rfl ?_
  refine er_callV (As := []) d_Ma_begin_64 k_Ma_begin_73 hM rfl rfl rfl (Nat.le_of_ble_eq_true rfl) (by decide) (by decide) (me_params hl ⟨hM, g1, g2, g3, g4, g5, g6, g7, g8⟩ (ob_s (by omega)) (ob_s (by omega))) ?_
  show jl_E l G m_Ma_begin (0, 0) 67 [some (.ref 13), some (.int (nI k)), some (.ref a), some (.int (xa)), some (.int (xb)), some (.int (xa)), some (.int (nI 0))] [.int (nI 2), .int (nI 0)] (σ) P
  refine er_icmp_ge 113 d_Ma_begin_67 (by decide) (fun z => absurd z (by decide)) (fun _ => ?_)
  refine er_aload_n d_Ma_begin_70 rfl ?_
  refine er_iload d_Ma_begin_71 rfl ?_
  refine er_callV (As := [.int (nI 0)]) d_Ma_begin_73 k_Ma_begin_77 hM rfl rfl rfl (Nat.le_of_ble_eq_true rfl) (by decide) (by decide) (me_param (i := 0) hl ⟨hM, g1, g2, g3, g4, g5, g6, g7, g8⟩ (by decide)) ?_
  show jl_E l G m_Ma_begin (0, 0) 76 [some (.ref 13), some (.int (nI k)), some (.ref a), some (.int (xa)), some (.int (xb)), some (.int (xa)), some (.int (nI 0))] [.int (nI t1v)] (σ) P
  refine er_if_ne 97 d_Ma_begin_76 (by decide) (fun _ => ?_) (fun z => absurd z ((fun z => by have z2 : nI t1v = nI 0 := z.trans nI_0k.symm; rw [nI_eq (by omega) (by omega)] at z2; omega)))
  refine er_aload_n d_Ma_begin_97 rfl ?_
  refine er_iconst ((nI (1))) d_Ma_begin_98 (by decide) ?_
  refine er_iload d_Ma_begin_99 rfl ?_
  refine er_iaddN d_Ma_begin_101 ?_
  refine er_iconst ((nI (2))) d_Ma_begin_102 (by decide) ?_
  refine er_iconst ((-1)) d_Ma_begin_103 (by decide) ?_
  refine er_callV (As := [.int (nI ((1) + (0))), .int (nI 2), .int (-1)]) d_Ma_begin_104 k_Ma_begin_69 hX rfl rfl rfl (Nat.le_of_ble_eq_true rfl) (by decide) (by decide) (ma_local (i := 1) (y := (some (2))) (v := (-1)) hl hX t1 t2 ht (by omega)) ?_
  show jl_E l G m_Ma_begin (0, 0) 107 [some (.ref 13), some (.int (nI k)), some (.ref a), some (.int (xa)), some (.int (xb)), some (.int (xa)), some (.int (nI 0))] [] ((σ.set (20) (.inl (0, 144, .inl (fun j => en ((va_up ty (t * 12 + 1) (some (2))) j))))).set (21) (.inl (0, 144, .inl (upd va (t * 12 + 1) (-1))))) P
  refine er_iinc ((nI (1))) d_Ma_begin_107 (by decide) rfl (jl_inc 0) ?_
  show jl_E l G m_Ma_begin (0, 0) 110 [some (.ref 13), some (.int (nI k)), some (.ref a), some (.int (xa)), some (.int (xb)), some (.int (xa)), some (.int (nI 1))] [] ((σ.set (20) (.inl (0, 144, .inl (fun j => en ((va_up ty (t * 12 + 1) (some (2))) j))))).set (21) (.inl (0, 144, .inl (upd va (t * 12 + 1) (-1))))) P
  refine er_goto 61 d_Ma_begin_110 (by decide) ?_
  refine er_iload d_Ma_begin_61 rfl ?_
  refine er_aload_n d_Ma_begin_63 rfl ?_
  refine er_callV (As := []) d_Ma_begin_64 k_Ma_begin_73 (jl_sn (by omega) (jl_sn (by omega) hM)) rfl rfl rfl (Nat.le_of_ble_eq_true rfl) (by decide) (by decide) (me_params hl ⟨(jl_sn (by omega) (jl_sn (by omega) hM)), (jl_sn (by omega) (jl_sn (by omega) g1)), (jl_sn (by omega) (jl_sn (by omega) g2)), (jl_sn (by omega) (jl_sn (by omega) g3)), (jl_sn (by omega) (jl_sn (by omega) g4)), (jl_sn (by omega) (jl_sn (by omega) g5)), (jl_sn (by omega) (jl_sn (by omega) g6)), (jl_sn (by omega) (jl_sn (by omega) g7)), (jl_sn (by omega) (jl_sn (by omega) g8))⟩ (ob_s (by omega)) (ob_s (by omega))) ?_
  show jl_E l G m_Ma_begin (0, 0) 67 [some (.ref 13), some (.int (nI k)), some (.ref a), some (.int (xa)), some (.int (xb)), some (.int (xa)), some (.int (nI 1))] [.int (nI 2), .int (nI 1)] ((σ.set (20) (.inl (0, 144, .inl (fun j => en ((va_up ty (t * 12 + 1) (some (2))) j))))).set (21) (.inl (0, 144, .inl (upd va (t * 12 + 1) (-1))))) P
  refine er_icmp_ge 113 d_Ma_begin_67 (by decide) (fun z => absurd z (by decide)) (fun _ => ?_)
  refine er_aload_n d_Ma_begin_70 rfl ?_
  refine er_iload d_Ma_begin_71 rfl ?_
  refine er_callV (As := [.int (nI 1)]) d_Ma_begin_73 k_Ma_begin_77 (jl_sn (by omega) (jl_sn (by omega) hM)) rfl rfl rfl (Nat.le_of_ble_eq_true rfl) (by decide) (by decide) (me_param (i := 1) hl ⟨(jl_sn (by omega) (jl_sn (by omega) hM)), (jl_sn (by omega) (jl_sn (by omega) g1)), (jl_sn (by omega) (jl_sn (by omega) g2)), (jl_sn (by omega) (jl_sn (by omega) g3)), (jl_sn (by omega) (jl_sn (by omega) g4)), (jl_sn (by omega) (jl_sn (by omega) g5)), (jl_sn (by omega) (jl_sn (by omega) g6)), (jl_sn (by omega) (jl_sn (by omega) g7)), (jl_sn (by omega) (jl_sn (by omega) g8))⟩ (by decide)) ?_
  show jl_E l G m_Ma_begin (0, 0) 76 [some (.ref 13), some (.int (nI k)), some (.ref a), some (.int (xa)), some (.int (xb)), some (.int (xa)), some (.int (nI 1))] [.int (nI 0)] ((σ.set (20) (.inl (0, 144, .inl (fun j => en ((va_up ty (t * 12 + 1) (some (2))) j))))).set (21) (.inl (0, 144, .inl (upd va (t * 12 + 1) (-1))))) P
  refine er_if_ne 97 d_Ma_begin_76 (by decide) (fun z => absurd rfl z) (fun _ => ?_)
  refine er_aload_n d_Ma_begin_79 rfl ?_
  refine er_iconst ((nI (1))) d_Ma_begin_80 (by decide) ?_
  refine er_iload d_Ma_begin_81 rfl ?_
  refine er_iaddN d_Ma_begin_83 ?_
  refine er_iconst ((nI (0))) d_Ma_begin_84 (by decide) ?_
  refine er_iload d_Ma_begin_85 rfl ?_
  refine er_callV (As := [.int (nI ((1) + (1))), .int (nI 0), .int (xa)]) d_Ma_begin_87 k_Ma_begin_69 (jl_sn (by decide) (jl_sn (by decide) hX)) rfl rfl rfl (Nat.le_of_ble_eq_true rfl) (by decide) (by decide) (ma_local (i := 2) (y := (some (0))) (v := (xa)) hl (jl_sn (by decide) (jl_sn (by decide) hX)) (jl_sn (by decide) (jl_ss t1)) (jl_ss (jl_sn (by decide) t2)) ht (by omega)) ?_
  show jl_E l G m_Ma_begin (0, 0) 90 [some (.ref 13), some (.int (nI k)), some (.ref a), some (.int (xa)), some (.int (xb)), some (.int (xa)), some (.int (nI 1))] [] ((((σ.set (20) (.inl (0, 144, .inl (fun j => en ((va_up ty (t * 12 + 1) (some (2))) j))))).set (21) (.inl (0, 144, .inl (upd va (t * 12 + 1) (-1))))).set (20) (.inl (0, 144, .inl (fun j => en ((va_up (va_up ty (t * 12 + 1) (some (2))) (t * 12 + 2) (some (0))) j))))).set (21) (.inl (0, 144, .inl (upd (upd va (t * 12 + 1) (-1)) (t * 12 + 2) (xa))))) P
  refine er_iload d_Ma_begin_90 rfl ?_
  refine er_istore d_Ma_begin_92 (by decide) ?_
  show jl_E l G m_Ma_begin (0, 0) 94 [some (.ref 13), some (.int (nI k)), some (.ref a), some (.int (xa)), some (.int (xb)), some (.int (xb)), some (.int (nI 1))] [] ((((σ.set (20) (.inl (0, 144, .inl (fun j => en ((va_up ty (t * 12 + 1) (some (2))) j))))).set (21) (.inl (0, 144, .inl (upd va (t * 12 + 1) (-1))))).set (20) (.inl (0, 144, .inl (fun j => en ((va_up (va_up ty (t * 12 + 1) (some (2))) (t * 12 + 2) (some (0))) j))))).set (21) (.inl (0, 144, .inl (upd (upd va (t * 12 + 1) (-1)) (t * 12 + 2) (xa))))) P
  refine er_goto 107 d_Ma_begin_94 (by decide) ?_
  refine er_iinc ((nI (2))) d_Ma_begin_107 (by decide) rfl (jl_inc 1) ?_
  show jl_E l G m_Ma_begin (0, 0) 110 [some (.ref 13), some (.int (nI k)), some (.ref a), some (.int (xa)), some (.int (xb)), some (.int (xb)), some (.int (nI 2))] [] ((((σ.set (20) (.inl (0, 144, .inl (fun j => en ((va_up ty (t * 12 + 1) (some (2))) j))))).set (21) (.inl (0, 144, .inl (upd va (t * 12 + 1) (-1))))).set (20) (.inl (0, 144, .inl (fun j => en ((va_up (va_up ty (t * 12 + 1) (some (2))) (t * 12 + 2) (some (0))) j))))).set (21) (.inl (0, 144, .inl (upd (upd va (t * 12 + 1) (-1)) (t * 12 + 2) (xa))))) P
  refine er_goto 61 d_Ma_begin_110 (by decide) ?_
  refine er_iload d_Ma_begin_61 rfl ?_
  refine er_aload_n d_Ma_begin_63 rfl ?_
  refine er_callV (As := []) d_Ma_begin_64 k_Ma_begin_73 (jl_sn (by omega) (jl_sn (by omega) (jl_sn (by omega) (jl_sn (by omega) hM)))) rfl rfl rfl (Nat.le_of_ble_eq_true rfl) (by decide) (by decide) (me_params hl ⟨(jl_sn (by omega) (jl_sn (by omega) (jl_sn (by omega) (jl_sn (by omega) hM)))), (jl_sn (by omega) (jl_sn (by omega) (jl_sn (by omega) (jl_sn (by omega) g1)))), (jl_sn (by omega) (jl_sn (by omega) (jl_sn (by omega) (jl_sn (by omega) g2)))), (jl_sn (by omega) (jl_sn (by omega) (jl_sn (by omega) (jl_sn (by omega) g3)))), (jl_sn (by omega) (jl_sn (by omega) (jl_sn (by omega) (jl_sn (by omega) g4)))), (jl_sn (by omega) (jl_sn (by omega) (jl_sn (by omega) (jl_sn (by omega) g5)))), (jl_sn (by omega) (jl_sn (by omega) (jl_sn (by omega) (jl_sn (by omega) g6)))), (jl_sn (by omega) (jl_sn (by omega) (jl_sn (by omega) (jl_sn (by omega) g7)))), (jl_sn (by omega) (jl_sn (by omega) (jl_sn (by omega) (jl_sn (by omega) g8))))⟩ (ob_s (by omega)) (ob_s (by omega))) ?_
  show jl_E l G m_Ma_begin (0, 0) 67 [some (.ref 13), some (.int (nI k)), some (.ref a), some (.int (xa)), some (.int (xb)), some (.int (xb)), some (.int (nI 2))] [.int (nI 2), .int (nI 2)] ((((σ.set (20) (.inl (0, 144, .inl (fun j => en ((va_up ty (t * 12 + 1) (some (2))) j))))).set (21) (.inl (0, 144, .inl (upd va (t * 12 + 1) (-1))))).set (20) (.inl (0, 144, .inl (fun j => en ((va_up (va_up ty (t * 12 + 1) (some (2))) (t * 12 + 2) (some (0))) j))))).set (21) (.inl (0, 144, .inl (upd (upd va (t * 12 + 1) (-1)) (t * 12 + 2) (xa))))) P
  refine er_icmp_ge 113 d_Ma_begin_67 (by decide) (fun _ => ?_) (fun z => absurd (by decide) z)
  exact er_vret d_Ma_begin_113 rfl (hT _ ⟨_, _, _, _, (jl_sn (by decide) (jl_sn (by decide) (jl_sn (by decide) (jl_sn (by decide) hX)))), (jl_sn (by decide) (jl_sn (by decide) (jl_sn (by decide) (jl_sn (by decide) u1)))), (jl_sn (by decide) (jl_sn (by decide) (jl_sn (by decide) (jl_sn (by decide) u2)))), (jl_sn (by decide) (jl_ss (jl_sn (by decide) (jl_ss t1)))), (jl_ss (jl_sn (by decide) (jl_ss (jl_sn (by decide) t2)))), ⟨(jl_sn (by decide) (jl_sn (by decide) (jl_sn (by decide) (jl_sn (by decide) s0)))), (jl_sn (by decide) (jl_sn (by decide) (jl_sn (by decide) (jl_sn (by decide) s1)))), (jl_sn (by decide) (jl_sn (by decide) (jl_sn (by decide) (jl_sn (by decide) s2)))), (jl_sn (by decide) (jl_sn (by decide) (jl_sn (by decide) (jl_sn (by decide) s3))))⟩, ((((hx).loc (i := 1) (y := (some (2))) (v := (-1)) (by omega) (ob_s (by omega)))).loc (i := 2) (y := (some (0))) (v := (xa)) (by omega) (ob_s (by omega))), hto, ((((hF.set (by omega)).set (by omega)).set (by omega)).set (by omega))⟩) (by decide) (by decide)
theorem ma_bg_2rr (hl : l.stackTraces = false) {P : jl_O → jl_S → Prop}  (hk : KB σ0 mt σ (7) t m p (R) (V) (fs) (H) (nI 9) (nI 0) (nI 0) aw) (hm : MeAt σ a (some t1v) (some t2v) rs op ag sz fr tt tg kd nc mp fh) (ha : 54 ≤ a) (ht : t < 12) (h1 : t1v ≠ 0) (h1b : t1v < 16) (h2 : t2v ≠ 0) (h2b : t2v < 16) (hT : ∀ σ', KB σ0 mt σ' (7) t m p (va_up (va_up (R) 1 (some 2)) 2 (some 2)) (va_up (va_up (V) 1 (-1)) 2 (-1)) (fs) (H) (nI 9) (nI 0) (nI 0) aw → P (.inl none) σ') : jl_E l G m_Ma_begin (0, 0) 61 [some (.ref 13), some (.int (nI k)), some (.ref a), some (.int (xa)), some (.int (xb)), some (.int (xa)), some (.int (nI 0))] [] σ P := by
  obtain ⟨uw, ps, ty, va, hX, u1, u2, t1, t2, hS, hx, hto, hF⟩ := id hk
  obtain ⟨s0, s1, s2, s3⟩ := id hS
  obtain ⟨⟨⟨a0, hma, hua⟩, hps, hty, hva⟩, hfs, hln, hob⟩ := id hx
  have hma : mt m = some a0 := hma
  have hps : ps t = p := hps
  have hty : ∀ j, j < _ → ty (t * 12 + j) = R j := hty
  have hva : ∀ j, j < _ → j ≠ 6 → va (t * 12 + j) = V j := hva
  have hRo := hx.rob
  obtain ⟨hM, g1, g2, g3, g4, g5, g6, g7, g8⟩ := id hm
  refine er_iload d_Ma_begin_61 rfl ?_
  refine er_aload_n d_Ma_begin_63 rfl ?_
  refine er_callV (As := []) d_Ma_begin_64 k_Ma_begin_73 hM rfl rfl rfl (Nat.le_of_ble_eq_true rfl) (by decide) (by decide) (me_params hl ⟨hM, g1, g2, g3, g4, g5, g6, g7, g8⟩ (ob_s (by omega)) (ob_s (by omega))) ?_
  show jl_E l G m_Ma_begin (0, 0) 67 [some (.ref 13), some (.int (nI k)), some (.ref a), some (.int (xa)), some (.int (xb)), some (.int (xa)), some (.int (nI 0))] [.int (nI 2), .int (nI 0)] (σ) P
  refine er_icmp_ge 113 d_Ma_begin_67 (by decide) (fun z => absurd z (by decide)) (fun _ => ?_)
  refine er_aload_n d_Ma_begin_70 rfl ?_
  refine er_iload d_Ma_begin_71 rfl ?_
  refine er_callV (As := [.int (nI 0)]) d_Ma_begin_73 k_Ma_begin_77 hM rfl rfl rfl (Nat.le_of_ble_eq_true rfl) (by decide) (by decide) (me_param (i := 0) hl ⟨hM, g1, g2, g3, g4, g5, g6, g7, g8⟩ (by decide)) ?_
  show jl_E l G m_Ma_begin (0, 0) 76 [some (.ref 13), some (.int (nI k)), some (.ref a), some (.int (xa)), some (.int (xb)), some (.int (xa)), some (.int (nI 0))] [.int (nI t1v)] (σ) P
  refine er_if_ne 97 d_Ma_begin_76 (by decide) (fun _ => ?_) (fun z => absurd z ((fun z => by have z2 : nI t1v = nI 0 := z.trans nI_0k.symm; rw [nI_eq (by omega) (by omega)] at z2; omega)))
  refine er_aload_n d_Ma_begin_97 rfl ?_
  refine er_iconst ((nI (1))) d_Ma_begin_98 (by decide) ?_
  refine er_iload d_Ma_begin_99 rfl ?_
  refine er_iaddN d_Ma_begin_101 ?_
  refine er_iconst ((nI (2))) d_Ma_begin_102 (by decide) ?_
  refine er_iconst ((-1)) d_Ma_begin_103 (by decide) ?_
  refine er_callV (As := [.int (nI ((1) + (0))), .int (nI 2), .int (-1)]) d_Ma_begin_104 k_Ma_begin_69 hX rfl rfl rfl (Nat.le_of_ble_eq_true rfl) (by decide) (by decide) (ma_local (i := 1) (y := (some (2))) (v := (-1)) hl hX t1 t2 ht (by omega)) ?_
  show jl_E l G m_Ma_begin (0, 0) 107 [some (.ref 13), some (.int (nI k)), some (.ref a), some (.int (xa)), some (.int (xb)), some (.int (xa)), some (.int (nI 0))] [] ((σ.set (20) (.inl (0, 144, .inl (fun j => en ((va_up ty (t * 12 + 1) (some (2))) j))))).set (21) (.inl (0, 144, .inl (upd va (t * 12 + 1) (-1))))) P
  refine er_iinc ((nI (1))) d_Ma_begin_107 (by decide) rfl (jl_inc 0) ?_
  show jl_E l G m_Ma_begin (0, 0) 110 [some (.ref 13), some (.int (nI k)), some (.ref a), some (.int (xa)), some (.int (xb)), some (.int (xa)), some (.int (nI 1))] [] ((σ.set (20) (.inl (0, 144, .inl (fun j => en ((va_up ty (t * 12 + 1) (some (2))) j))))).set (21) (.inl (0, 144, .inl (upd va (t * 12 + 1) (-1))))) P
  refine er_goto 61 d_Ma_begin_110 (by decide) ?_
  refine er_iload d_Ma_begin_61 rfl ?_
  refine er_aload_n d_Ma_begin_63 rfl ?_
  refine er_callV (As := []) d_Ma_begin_64 k_Ma_begin_73 (jl_sn (by omega) (jl_sn (by omega) hM)) rfl rfl rfl (Nat.le_of_ble_eq_true rfl) (by decide) (by decide) (me_params hl ⟨(jl_sn (by omega) (jl_sn (by omega) hM)), (jl_sn (by omega) (jl_sn (by omega) g1)), (jl_sn (by omega) (jl_sn (by omega) g2)), (jl_sn (by omega) (jl_sn (by omega) g3)), (jl_sn (by omega) (jl_sn (by omega) g4)), (jl_sn (by omega) (jl_sn (by omega) g5)), (jl_sn (by omega) (jl_sn (by omega) g6)), (jl_sn (by omega) (jl_sn (by omega) g7)), (jl_sn (by omega) (jl_sn (by omega) g8))⟩ (ob_s (by omega)) (ob_s (by omega))) ?_
  show jl_E l G m_Ma_begin (0, 0) 67 [some (.ref 13), some (.int (nI k)), some (.ref a), some (.int (xa)), some (.int (xb)), some (.int (xa)), some (.int (nI 1))] [.int (nI 2), .int (nI 1)] ((σ.set (20) (.inl (0, 144, .inl (fun j => en ((va_up ty (t * 12 + 1) (some (2))) j))))).set (21) (.inl (0, 144, .inl (upd va (t * 12 + 1) (-1))))) P
  refine er_icmp_ge 113 d_Ma_begin_67 (by decide) (fun z => absurd z (by decide)) (fun _ => ?_)
  refine er_aload_n d_Ma_begin_70 rfl ?_
  refine er_iload d_Ma_begin_71 rfl ?_
  refine er_callV (As := [.int (nI 1)]) d_Ma_begin_73 k_Ma_begin_77 (jl_sn (by omega) (jl_sn (by omega) hM)) rfl rfl rfl (Nat.le_of_ble_eq_true rfl) (by decide) (by decide) (me_param (i := 1) hl ⟨(jl_sn (by omega) (jl_sn (by omega) hM)), (jl_sn (by omega) (jl_sn (by omega) g1)), (jl_sn (by omega) (jl_sn (by omega) g2)), (jl_sn (by omega) (jl_sn (by omega) g3)), (jl_sn (by omega) (jl_sn (by omega) g4)), (jl_sn (by omega) (jl_sn (by omega) g5)), (jl_sn (by omega) (jl_sn (by omega) g6)), (jl_sn (by omega) (jl_sn (by omega) g7)), (jl_sn (by omega) (jl_sn (by omega) g8))⟩ (by decide)) ?_
  show jl_E l G m_Ma_begin (0, 0) 76 [some (.ref 13), some (.int (nI k)), some (.ref a), some (.int (xa)), some (.int (xb)), some (.int (xa)), some (.int (nI 1))] [.int (nI t2v)] ((σ.set (20) (.inl (0, 144, .inl (fun j => en ((va_up ty (t * 12 + 1) (some (2))) j))))).set (21) (.inl (0, 144, .inl (upd va (t * 12 + 1) (-1))))) P
  refine er_if_ne 97 d_Ma_begin_76 (by decide) (fun _ => ?_) (fun z => absurd z ((fun z => by have z2 : nI t2v = nI 0 := z.trans nI_0k.symm; rw [nI_eq (by omega) (by omega)] at z2; omega)))
  refine er_aload_n d_Ma_begin_97 rfl ?_
  refine er_iconst ((nI (1))) d_Ma_begin_98 (by decide) ?_
  refine er_iload d_Ma_begin_99 rfl ?_
  refine er_iaddN d_Ma_begin_101 ?_
  refine er_iconst ((nI (2))) d_Ma_begin_102 (by decide) ?_
  refine er_iconst ((-1)) d_Ma_begin_103 (by decide) ?_
  refine er_callV (As := [.int (nI ((1) + (1))), .int (nI 2), .int (-1)]) d_Ma_begin_104 k_Ma_begin_69 (jl_sn (by decide) (jl_sn (by decide) hX)) rfl rfl rfl (Nat.le_of_ble_eq_true rfl) (by decide) (by decide) (ma_local (i := 2) (y := (some (2))) (v := (-1)) hl (jl_sn (by decide) (jl_sn (by decide) hX)) (jl_sn (by decide) (jl_ss t1)) (jl_ss (jl_sn (by decide) t2)) ht (by omega)) ?_
  show jl_E l G m_Ma_begin (0, 0) 107 [some (.ref 13), some (.int (nI k)), some (.ref a), some (.int (xa)), some (.int (xb)), some (.int (xa)), some (.int (nI 1))] [] ((((σ.set (20) (.inl (0, 144, .inl (fun j => en ((va_up ty (t * 12 + 1) (some (2))) j))))).set (21) (.inl (0, 144, .inl (upd va (t * 12 + 1) (-1))))).set (20) (.inl (0, 144, .inl (fun j => en ((va_up (va_up ty (t * 12 + 1) (some (2))) (t * 12 + 2) (some (2))) j))))).set (21) (.inl (0, 144, .inl (upd (upd va (t * 12 + 1) (-1)) (t * 12 + 2) (-1))))) P
  refine er_iinc ((nI (2))) d_Ma_begin_107 (by decide) rfl (jl_inc 1) ?_
  show jl_E l G m_Ma_begin (0, 0) 110 [some (.ref 13), some (.int (nI k)), some (.ref a), some (.int (xa)), some (.int (xb)), some (.int (xa)), some (.int (nI 2))] [] ((((σ.set (20) (.inl (0, 144, .inl (fun j => en ((va_up ty (t * 12 + 1) (some (2))) j))))).set (21) (.inl (0, 144, .inl (upd va (t * 12 + 1) (-1))))).set (20) (.inl (0, 144, .inl (fun j => en ((va_up (va_up ty (t * 12 + 1) (some (2))) (t * 12 + 2) (some (2))) j))))).set (21) (.inl (0, 144, .inl (upd (upd va (t * 12 + 1) (-1)) (t * 12 + 2) (-1))))) P
  refine er_goto 61 d_Ma_begin_110 (by decide) ?_
  refine er_iload d_Ma_begin_61 rfl ?_
  refine er_aload_n d_Ma_begin_63 rfl ?_
  refine er_callV (As := []) d_Ma_begin_64 k_Ma_begin_73 (jl_sn (by omega) (jl_sn (by omega) (jl_sn (by omega) (jl_sn (by omega) hM)))) rfl rfl rfl (Nat.le_of_ble_eq_true rfl) (by decide) (by decide) (me_params hl ⟨(jl_sn (by omega) (jl_sn (by omega) (jl_sn (by omega) (jl_sn (by omega) hM)))), (jl_sn (by omega) (jl_sn (by omega) (jl_sn (by omega) (jl_sn (by omega) g1)))), (jl_sn (by omega) (jl_sn (by omega) (jl_sn (by omega) (jl_sn (by omega) g2)))), (jl_sn (by omega) (jl_sn (by omega) (jl_sn (by omega) (jl_sn (by omega) g3)))), (jl_sn (by omega) (jl_sn (by omega) (jl_sn (by omega) (jl_sn (by omega) g4)))), (jl_sn (by omega) (jl_sn (by omega) (jl_sn (by omega) (jl_sn (by omega) g5)))), (jl_sn (by omega) (jl_sn (by omega) (jl_sn (by omega) (jl_sn (by omega) g6)))), (jl_sn (by omega) (jl_sn (by omega) (jl_sn (by omega) (jl_sn (by omega) g7)))), (jl_sn (by omega) (jl_sn (by omega) (jl_sn (by omega) (jl_sn (by omega) g8))))⟩ (ob_s (by omega)) (ob_s (by omega))) ?_
  show jl_E l G m_Ma_begin (0, 0) 67 [some (.ref 13), some (.int (nI k)), some (.ref a), some (.int (xa)), some (.int (xb)), some (.int (xa)), some (.int (nI 2))] [.int (nI 2), .int (nI 2)] ((((σ.set (20) (.inl (0, 144, .inl (fun j => en ((va_up ty (t * 12 + 1) (some (2))) j))))).set (21) (.inl (0, 144, .inl (upd va (t * 12 + 1) (-1))))).set (20) (.inl (0, 144, .inl (fun j => en ((va_up (va_up ty (t * 12 + 1) (some (2))) (t * 12 + 2) (some (2))) j))))).set (21) (.inl (0, 144, .inl (upd (upd va (t * 12 + 1) (-1)) (t * 12 + 2) (-1))))) P
  refine er_icmp_ge 113 d_Ma_begin_67 (by decide) (fun _ => ?_) (fun z => absurd (by decide) z)
  exact er_vret d_Ma_begin_113 rfl (hT _ ⟨_, _, _, _, (jl_sn (by decide) (jl_sn (by decide) (jl_sn (by decide) (jl_sn (by decide) hX)))), (jl_sn (by decide) (jl_sn (by decide) (jl_sn (by decide) (jl_sn (by decide) u1)))), (jl_sn (by decide) (jl_sn (by decide) (jl_sn (by decide) (jl_sn (by decide) u2)))), (jl_sn (by decide) (jl_ss (jl_sn (by decide) (jl_ss t1)))), (jl_ss (jl_sn (by decide) (jl_ss (jl_sn (by decide) t2)))), ⟨(jl_sn (by decide) (jl_sn (by decide) (jl_sn (by decide) (jl_sn (by decide) s0)))), (jl_sn (by decide) (jl_sn (by decide) (jl_sn (by decide) (jl_sn (by decide) s1)))), (jl_sn (by decide) (jl_sn (by decide) (jl_sn (by decide) (jl_sn (by decide) s2)))), (jl_sn (by decide) (jl_sn (by decide) (jl_sn (by decide) (jl_sn (by decide) s3))))⟩, ((((hx).loc (i := 1) (y := (some (2))) (v := (-1)) (by omega) (ob_s (by omega)))).loc (i := 2) (y := (some (2))) (v := (-1)) (by omega) (ob_s (by omega))), hto, ((((hF.set (by omega)).set (by omega)).set (by omega)).set (by omega))⟩) (by decide) (by decide)
theorem d_Ma_begin_0 : decode m_Ma_begin.2.1 0 = .ok (.aload_n 0, 1) := by decide +kernel
theorem f_Ma_begin_12 : jl_fd m_Ma_begin 12 1 2 = true := by decide +kernel
theorem d_Ma_begin_1 : decode m_Ma_begin.2.1 1 = .ok (.getfield 12, 3) := by decide +kernel
theorem d_Ma_begin_4 : decode m_Ma_begin.2.1 4 = .ok (.iconst 0, 1) := by decide +kernel
theorem p_Ma_begin_58 : jl_fp m_Ma_begin 58 3 3 = true := by decide +kernel
theorem d_Ma_begin_5 : decode m_Ma_begin.2.1 5 = .ok (.putfield 58, 3) := by decide +kernel
theorem d_Ma_begin_8 : decode m_Ma_begin.2.1 8 = .ok (.aload_n 0, 1) := by decide +kernel
theorem d_Ma_begin_9 : decode m_Ma_begin.2.1 9 = .ok (.bipush 9, 2) := by decide +kernel
theorem p_Ma_begin_38 : jl_fp m_Ma_begin 38 1 8 = true := by decide +kernel
theorem d_Ma_begin_11 : decode m_Ma_begin.2.1 11 = .ok (.putfield 38, 3) := by decide +kernel
theorem d_Ma_begin_14 : decode m_Ma_begin.2.1 14 = .ok (.aload_n 0, 1) := by decide +kernel
theorem d_Ma_begin_15 : decode m_Ma_begin.2.1 15 = .ok (.iconst 0, 1) := by decide +kernel
theorem p_Ma_begin_41 : jl_fp m_Ma_begin 41 1 9 = true := by decide +kernel
theorem d_Ma_begin_16 : decode m_Ma_begin.2.1 16 = .ok (.putfield 41, 3) := by decide +kernel
theorem d_Ma_begin_19 : decode m_Ma_begin.2.1 19 = .ok (.aload_n 0, 1) := by decide +kernel
theorem d_Ma_begin_20 : decode m_Ma_begin.2.1 20 = .ok (.iconst 0, 1) := by decide +kernel
theorem p_Ma_begin_44 : jl_fp m_Ma_begin 44 1 10 = true := by decide +kernel
theorem d_Ma_begin_21 : decode m_Ma_begin.2.1 21 = .ok (.putfield 44, 3) := by decide +kernel
theorem d_Ma_begin_24 : decode m_Ma_begin.2.1 24 = .ok (.aload_n 0, 1) := by decide +kernel
theorem d_Ma_begin_25 : decode m_Ma_begin.2.1 25 = .ok (.iconst (-1), 1) := by decide +kernel
theorem p_Ma_begin_34 : jl_fp m_Ma_begin 34 1 7 = true := by decide +kernel
theorem d_Ma_begin_26 : decode m_Ma_begin.2.1 26 = .ok (.putfield 34, 3) := by decide +kernel
theorem d_Ma_begin_29 : decode m_Ma_begin.2.1 29 = .ok (.aload_n 0, 1) := by decide +kernel
theorem d_Ma_begin_30 : decode m_Ma_begin.2.1 30 = .ok (.aload_n 2, 1) := by decide +kernel
theorem k_Ma_begin_61 : jl_cv m_Ma_begin m_Ma_open 61 1 = true := by decide +kernel
theorem d_Ma_begin_31 : decode m_Ma_begin.2.1 31 = .ok (.invokevirtual 61, 3) := by decide +kernel
theorem d_Ma_begin_34 : decode m_Ma_begin.2.1 34 = .ok (.aload_n 0, 1) := by decide +kernel
theorem d_Ma_begin_35 : decode m_Ma_begin.2.1 35 = .ok (.iconst 0, 1) := by decide +kernel
theorem d_Ma_begin_36 : decode m_Ma_begin.2.1 36 = .ok (.bipush 10, 2) := by decide +kernel
theorem d_Ma_begin_38 : decode m_Ma_begin.2.1 38 = .ok (.iload_n 1, 1) := by decide +kernel
theorem d_Ma_begin_39 : decode m_Ma_begin.2.1 39 = .ok (.iadd, 1) := by decide +kernel
theorem d_Ma_begin_40 : decode m_Ma_begin.2.1 40 = .ok (.aload_n 0, 1) := by decide +kernel
theorem d_Ma_begin_41 : decode m_Ma_begin.2.1 41 = .ok (.getfield 12, 3) := by decide +kernel
theorem d_Ma_begin_44 : decode m_Ma_begin.2.1 44 = .ok (.aload_n 0, 1) := by decide +kernel
theorem f_Ma_begin_50 : jl_fd m_Ma_begin 50 1 0 = true := by decide +kernel
theorem d_Ma_begin_45 : decode m_Ma_begin.2.1 45 = .ok (.getfield 50, 3) := by decide +kernel
theorem d_Ma_begin_48 : decode m_Ma_begin.2.1 48 = .ok (.iload_n 1, 1) := by decide +kernel
theorem k_Ma_begin_65 : jl_cv m_Ma_begin m_St_makeObject 65 2 = true := by decide +kernel
theorem d_Ma_begin_49 : decode m_Ma_begin.2.1 49 = .ok (.invokevirtual 65, 3) := by decide +kernel
theorem d_Ma_begin_52 : decode m_Ma_begin.2.1 52 = .ok (.invokevirtual 69, 3) := by decide +kernel
theorem d_Ma_begin_55 : decode m_Ma_begin.2.1 55 = .ok (.iload_n 3, 1) := by decide +kernel
theorem d_Ma_begin_56 : decode m_Ma_begin.2.1 56 = .ok (.istore 5, 2) := by decide +kernel
theorem d_Ma_begin_58 : decode m_Ma_begin.2.1 58 = .ok (.iconst 0, 1) := by decide +kernel
theorem d_Ma_begin_59 : decode m_Ma_begin.2.1 59 = .ok (.istore 6, 2) := by decide +kernel
theorem ma_bg_A (hl : l.stackTraces = false) {P : jl_O → jl_S → Prop}  (hz : KZ σ0 σ H su dt dq aw) (hwx : WX σ0 tb pr ow fi ft mt sg D MP FH) (hmt : MtOk mt) (hok : WoOk tb pr ow fi) (hma : mt m = some a) (hft : ∀ k f, tyv (some (fty pr fi ft k f))) (hk6 : k < 6) (hf18 : fi k + ow k ≤ 18) (hB : ∀ σ', KB σ0 mt σ' 7 0 m 0 (va_up (cwi (fun _ => none) 0 0) 0 (some (10 + k))) (va_up (cwj (fun _ => 0) 0 0) 0 (nI 0)) [] (mkO pr ow fi ft ⟨0, H.sz, H.ty, H.va, H.so⟩ k) (nI 9) (nI 0) (nI 0) aw → jl_E l G m_Ma_begin (0, 0) 61 [some (.ref 13), some (.int (nI k)), some (.ref a), some (.int (xa)), some (.int (xb)), some (.int (xa)), some (.int (nI 0))] [] σ' P) : jl_mE l G m_Ma_begin [.ref 13, .int (nI k), .ref a, .int (xa), .int (xb)] σ P := by
  obtain ⟨tp, uw, ps, ty, va, hX, u1, u2, t1, t2, hS, hob, hto, hF⟩ := id hz
  obtain ⟨s0, s1, s2, s3⟩ := id hS
  have hwx0 := hwx.fr hF hmt
  obtain ⟨hW, w2, w3, w4, w5, w6, w7⟩ := id hwx0.1
  have hmD := hwx0.2.2.2 m a hma
  obtain ⟨hM, g1, g2, g3, g4, g5, g6, g7, g8⟩ := id hmD
  have ha := (hmt m a hma).1
  refine jl_ofE (as := [.ref 13, .int (nI k), .ref a, .int (xa), .int (xb)]) rfl (by decide) hl (jl_cc rfl (jl_cc rfl (jl_cc rfl (jl_cc rfl (jl_cc rfl jl_ca))))) (Nat.le_of_ble_eq_true rfl) ?_
  show jl_E l G m_Ma_begin (0, 0) 0 [some (.ref 13), some (.int (nI k)), some (.ref a), some (.int (xa)), some (.int (xb)), none, none] [] (σ) P
  refine er_aload_n d_Ma_begin_0 rfl ?_
  refine er_getf d_Ma_begin_1 f_Ma_begin_12 hX rfl ?_
  refine er_iconst ((nI (0))) d_Ma_begin_4 (by decide) ?_
  refine er_putf d_Ma_begin_5 p_Ma_begin_58 s0 (Nat.le_of_ble_eq_true rfl) jl_fit_int ?_
  show jl_E l G m_Ma_begin (0, 0) 8 [some (.ref 13), some (.int (nI k)), some (.ref a), some (.int (xa)), some (.int (xb)), none, none] [] (σ.set (14) (.inr (3, [.ref 15, .ref 16, .ref 17, .int (nI 0)]))) P
  refine er_aload_n d_Ma_begin_8 rfl ?_
  refine er_bipush ((nI (9))) d_Ma_begin_9 (by decide) ?_
  refine er_putf d_Ma_begin_11 p_Ma_begin_38 (jl_sn (by decide) hX) (Nat.le_of_ble_eq_true rfl) jl_fit_int ?_
  show jl_E l G m_Ma_begin (0, 0) 14 [some (.ref 13), some (.int (nI k)), some (.ref a), some (.int (xa)), some (.int (xb)), none, none] [] ((σ.set (14) (.inr (3, [.ref 15, .ref 16, .ref 17, .int (nI 0)]))).set (13) (.inr (1, [.ref 1, .ref 8, .ref 14, .ref 18, .ref 19, .ref 20, .ref 21, .int (tp), .int (nI 9), .int (dt), .int (dq), .int (aw)]))) P
  refine er_aload_n d_Ma_begin_14 rfl ?_
  refine er_iconst ((nI (0))) d_Ma_begin_15 (by decide) ?_
  refine er_putf d_Ma_begin_16 p_Ma_begin_41 (jl_ss (jl_sn (by decide) hX)) (Nat.le_of_ble_eq_true rfl) jl_fit_int ?_
  show jl_E l G m_Ma_begin (0, 0) 19 [some (.ref 13), some (.int (nI k)), some (.ref a), some (.int (xa)), some (.int (xb)), none, none] [] (((σ.set (14) (.inr (3, [.ref 15, .ref 16, .ref 17, .int (nI 0)]))).set (13) (.inr (1, [.ref 1, .ref 8, .ref 14, .ref 18, .ref 19, .ref 20, .ref 21, .int (tp), .int (nI 9), .int (dt), .int (dq), .int (aw)]))).set (13) (.inr (1, [.ref 1, .ref 8, .ref 14, .ref 18, .ref 19, .ref 20, .ref 21, .int (tp), .int (nI 9), .int (nI 0), .int (dq), .int (aw)]))) P
  refine er_aload_n d_Ma_begin_19 rfl ?_
  refine er_iconst ((nI (0))) d_Ma_begin_20 (by decide) ?_
  refine er_putf d_Ma_begin_21 p_Ma_begin_44 (jl_ss (jl_ss (jl_sn (by decide) hX))) (Nat.le_of_ble_eq_true rfl) jl_fit_int ?_
  show jl_E l G m_Ma_begin (0, 0) 24 [some (.ref 13), some (.int (nI k)), some (.ref a), some (.int (xa)), some (.int (xb)), none, none] [] ((((σ.set (14) (.inr (3, [.ref 15, .ref 16, .ref 17, .int (nI 0)]))).set (13) (.inr (1, [.ref 1, .ref 8, .ref 14, .ref 18, .ref 19, .ref 20, .ref 21, .int (tp), .int (nI 9), .int (dt), .int (dq), .int (aw)]))).set (13) (.inr (1, [.ref 1, .ref 8, .ref 14, .ref 18, .ref 19, .ref 20, .ref 21, .int (tp), .int (nI 9), .int (nI 0), .int (dq), .int (aw)]))).set (13) (.inr (1, [.ref 1, .ref 8, .ref 14, .ref 18, .ref 19, .ref 20, .ref 21, .int (tp), .int (nI 9), .int (nI 0), .int (nI 0), .int (aw)]))) P
  refine er_aload_n d_Ma_begin_24 rfl ?_
  refine er_iconst ((-1)) d_Ma_begin_25 (by decide) ?_
  refine er_putf d_Ma_begin_26 p_Ma_begin_34 (jl_ss (jl_ss (jl_ss (jl_sn (by decide) hX)))) (Nat.le_of_ble_eq_true rfl) jl_fit_int ?_
  show jl_E l G m_Ma_begin (0, 0) 29 [some (.ref 13), some (.int (nI k)), some (.ref a), some (.int (xa)), some (.int (xb)), none, none] [] (((((σ.set (14) (.inr (3, [.ref 15, .ref 16, .ref 17, .int (nI 0)]))).set (13) (.inr (1, [.ref 1, .ref 8, .ref 14, .ref 18, .ref 19, .ref 20, .ref 21, .int (tp), .int (nI 9), .int (dt), .int (dq), .int (aw)]))).set (13) (.inr (1, [.ref 1, .ref 8, .ref 14, .ref 18, .ref 19, .ref 20, .ref 21, .int (tp), .int (nI 9), .int (nI 0), .int (dq), .int (aw)]))).set (13) (.inr (1, [.ref 1, .ref 8, .ref 14, .ref 18, .ref 19, .ref 20, .ref 21, .int (tp), .int (nI 9), .int (nI 0), .int (nI 0), .int (aw)]))).set (13) (.inr (1, [.ref 1, .ref 8, .ref 14, .ref 18, .ref 19, .ref 20, .ref 21, .int (-1), .int (nI 9), .int (nI 0), .int (nI 0), .int (aw)]))) P
  refine er_aload_n d_Ma_begin_29 rfl ?_
  refine er_aload_n d_Ma_begin_30 rfl ?_
  refine er_callVE (As := [.ref a]) d_Ma_begin_31 k_Ma_begin_61 (jl_ss (jl_ss (jl_ss (jl_ss (jl_sn (by decide) hX))))) rfl rfl rfl (Nat.le_of_ble_eq_true rfl) (by decide) (by decide) (ma_open (e := 0) (tp := -1) (a := a) hl (jl_ss (jl_ss (jl_ss (jl_ss (jl_sn (by decide) hX))))) (jl_sn (by decide) (jl_sn (by decide) (jl_sn (by decide) (jl_sn (by decide) (jl_sn (by decide) u1))))) (jl_sn (by decide) (jl_sn (by decide) (jl_sn (by decide) (jl_sn (by decide) (jl_sn (by decide) u2))))) (jl_sn (by decide) (jl_sn (by decide) (jl_sn (by decide) (jl_sn (by decide) (jl_sn (by decide) t1))))) (jl_sn (by decide) (jl_sn (by decide) (jl_sn (by decide) (jl_sn (by decide) (jl_sn (by decide) t2))))) ((hwx.fr (((((hF.set (by omega)).set (by omega)).set (by omega)).set (by omega)).set (by omega)) hmt).2.2.2 m a hma) (by decide +kernel) (by decide) ha (fun σ hX1 u11 u21 t11 t21 hL1 hf1 => ⟨_, rfl, ?_⟩))
  have hF1 : FrK σ0 σ := ⟨hL1.trans (((((hF.set (by omega)).set (by omega)).set (by omega)).set (by omega)).set (by omega)).1, fun i hi => (hf1 i (by omega) (by omega) (by omega) (by omega) (by omega)).trans ((((((hF.set (by omega)).set (by omega)).set (by omega)).set (by omega)).set (by omega)).2 i hi)⟩
  have s0 := (hf1 14 (by decide) (by decide) (by decide) (by decide) (by decide)).trans (jl_sn (by decide) (jl_sn (by decide) (jl_sn (by decide) (jl_sn (by decide) (jl_ss s0)))))
  have s1 := (hf1 15 (by decide) (by decide) (by decide) (by decide) (by decide)).trans (jl_sn (by decide) (jl_sn (by decide) (jl_sn (by decide) (jl_sn (by decide) (jl_sn (by decide) s1)))))
  have s2 := (hf1 16 (by decide) (by decide) (by decide) (by decide) (by decide)).trans (jl_sn (by decide) (jl_sn (by decide) (jl_sn (by decide) (jl_sn (by decide) (jl_sn (by decide) s2)))))
  have s3 := (hf1 17 (by decide) (by decide) (by decide) (by decide) (by decide)).trans (jl_sn (by decide) (jl_sn (by decide) (jl_sn (by decide) (jl_sn (by decide) (jl_sn (by decide) s3)))))
  have hx1 := FX.opn (mt := mt) (uw := uw) (ps := ps) (ty := ty) (va := va) (R := fun _ => none) (V := fun _ => 0) (b := 0) (e := 0) (m := m) (a := a) (F := []) trivial rfl hob hma
  have hwx1 := hwx.fr hF1 hmt
  obtain ⟨hW, w2, w3, w4, w5, w6, w7⟩ := id hwx1.1
  obtain ⟨hM, g1, g2, g3, g4, g5, g6, g7, g8⟩ := id (hwx1.2.2.2 m a hma)
  show jl_E l G m_Ma_begin (0, 0) 34 [some (.ref 13), some (.int (nI k)), some (.ref a), some (.int (xa)), some (.int (xb)), none, none] [] (σ) P
  refine er_aload_n d_Ma_begin_34 rfl ?_
  refine er_iconst ((nI (0))) d_Ma_begin_35 (by decide) ?_
  refine er_bipush ((nI (10))) d_Ma_begin_36 (by decide) ?_
  refine er_iload_n d_Ma_begin_38 rfl ?_
  refine er_iaddN d_Ma_begin_39 ?_
  refine er_aload_n d_Ma_begin_40 rfl ?_
  refine er_getf d_Ma_begin_41 f_Ma_begin_12 hX1 rfl ?_
  refine er_aload_n d_Ma_begin_44 rfl ?_
  refine er_getf d_Ma_begin_45 f_Ma_begin_50 hX1 rfl ?_
  refine er_iload_n d_Ma_begin_48 rfl ?_
  refine er_callVE (As := [.ref 1, .int (nI k)]) d_Ma_begin_49 k_Ma_begin_65 s0 rfl rfl rfl (Nat.le_of_ble_eq_true rfl) (by decide) (by decide) (st_obj (sm := 0) hl ⟨s0, s1, s2, s3⟩ hwx1.1 hok hk6 (by decide) (fun k f => (hft k f _ rfl).1) hf18 (fun sy1 sv1 σ hy1 hw1 hS1 hf2 => ⟨_, rfl, ?_⟩))
  have e1 := hw1.e
  subst e1
  have e2 := hy1.e
  subst e2
  have hX1 := (hf2.2 13 (by omega)).trans hX1
  have u11 := (hf2.2 18 (by omega)).trans u11
  have u21 := (hf2.2 19 (by omega)).trans u21
  have t11 := (hf2.2 20 (by omega)).trans t11
  have t21 := (hf2.2 21 (by omega)).trans t21
  have hF1 := hF1.sto hf2
  obtain ⟨s0, s1, s2, s3⟩ := id hS1
  show jl_E l G m_Ma_begin (0, 0) 52 [some (.ref 13), some (.int (nI k)), some (.ref a), some (.int (xa)), some (.int (xb)), none, none] [.int (nI 0), .int (nI ((10) + (k))), .int (nI 0), .ref 13] (σ) P
  refine er_callV (As := [.int (nI 0), .int (nI ((10) + (k))), .int (nI 0)]) d_Ma_begin_52 k_Ma_begin_69 hX1 rfl rfl rfl (Nat.le_of_ble_eq_true rfl) (by decide) (by decide) (ma_local (t := 0) (i := 0) (y := some (10 + k)) (v := nI 0) hl hX1 t11 t21 (by decide) (by decide)) ?_
  show jl_E l G m_Ma_begin (0, 0) 55 [some (.ref 13), some (.int (nI k)), some (.ref a), some (.int (xa)), some (.int (xb)), none, none] [] ((σ.set (20) (.inl (0, 144, .inl (fun j => en ((va_up (va_up (wr ty (0 * 12) 6 (fun _ => none)) (0 * 12 + 6) (some 0)) (0 * 12 + 0) (some (10 + k))) j))))).set (21) (.inl (0, 144, .inl (upd (wr va (0 * 12) 6 (fun _ => -1)) (0 * 12 + 0) (nI 0))))) P
  refine er_iload_n d_Ma_begin_55 rfl ?_
  refine er_istore d_Ma_begin_56 (by decide) ?_
  show jl_E l G m_Ma_begin (0, 0) 58 [some (.ref 13), some (.int (nI k)), some (.ref a), some (.int (xa)), some (.int (xb)), some (.int (xa)), none] [] ((σ.set (20) (.inl (0, 144, .inl (fun j => en ((va_up (va_up (wr ty (0 * 12) 6 (fun _ => none)) (0 * 12 + 6) (some 0)) (0 * 12 + 0) (some (10 + k))) j))))).set (21) (.inl (0, 144, .inl (upd (wr va (0 * 12) 6 (fun _ => -1)) (0 * 12 + 0) (nI 0))))) P
  refine er_iconst ((nI (0))) d_Ma_begin_58 (by decide) ?_
  refine er_istore d_Ma_begin_59 (by decide) ?_
  show jl_E l G m_Ma_begin (0, 0) 61 [some (.ref 13), some (.int (nI k)), some (.ref a), some (.int (xa)), some (.int (xb)), some (.int (xa)), some (.int (nI 0))] [] ((σ.set (20) (.inl (0, 144, .inl (fun j => en ((va_up (va_up (wr ty (0 * 12) 6 (fun _ => none)) (0 * 12 + 6) (some 0)) (0 * 12 + 0) (some (10 + k))) j))))).set (21) (.inl (0, 144, .inl (upd (wr va (0 * 12) 6 (fun _ => -1)) (0 * 12 + 0) (nI 0))))) P
  exact hB _ ⟨_, _, _, _, (jl_sn (by decide) (jl_sn (by decide) hX1)), (jl_sn (by decide) (jl_sn (by decide) u11)), (jl_sn (by decide) (jl_sn (by decide) u21)), (jl_sn (by decide) (jl_ss t11)), (jl_ss (jl_sn (by decide) t21)), ⟨(jl_sn (by decide) (jl_sn (by decide) s0)), (jl_sn (by decide) (jl_sn (by decide) s1)), (jl_sn (by decide) (jl_sn (by decide) s2)), (jl_sn (by decide) (jl_sn (by decide) s3))⟩, (hx1.loc (i := 0) (y := some (10 + k)) (v := nI 0) (by decide) (ob_s (by omega))), mkO_ob (H := ⟨0, H.sz, H.ty, H.va, H.so⟩) hto, ((hF1.set (by omega)).set (by omega))⟩
end JMyd
