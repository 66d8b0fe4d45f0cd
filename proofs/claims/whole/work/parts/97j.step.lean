/-! the class Machine: step (wip/gen/p97j.py) -/
section JMj
variable {l : Launch} {G : jl_G} {σ : jl_S}
variable {tb : Nat → Bool} {pr : Nat → Option Nat} {ow fi ft : Nat → Nat} {mt : Nat → Option Nat}
variable {a : Nat} {q1 q2 : Option Nat} {rs : Nat} {op : Nat → Nat} {ag : Nat → Int32} {sz : Nat} {fr tt tg kd : Nat → Nat} {nc : Nat} {mp : Nat → Int32} {fh : Nat → Bool}
variable {σ0 : jl_S} {N t m p b : Nat} {R : Rw} {V : Nat → Int32} {fs : List Fm} {H : Hp} {su dt dq aw x : Int32}
variable {sg : Int32 → Option Sg} {D : Nat → MDt} {MP : Nat → Nat → Int32} {FH : Nat → Nat → Bool} {uw : Nat → Option Nat} {ps : Nat → Nat} {ty : Rw} {va : Nat → Int32} {e : Nat} {tp : Int32} {F : List Fm}
variable {c m2 k n a2 : Nat} {g : Fm}
theorem ins_sg {o n : Nat} (h : ins pr ow fi ft o x R V b H = .sg n) : 1 ≤ n ∧ n ≤ 4 := by
  unfold ins at h
  repeat' (split at h)
  all_goals (cases h <;> exact ⟨by decide, by decide⟩)
theorem d_Ma_step_0 : decode m_Ma_step.2.1 0 = .ok (.aload_n 0, 1) := by decide +kernel
theorem f_Ma_step_24 : jl_fd m_Ma_step 24 1 4 = true := by decide +kernel
theorem d_Ma_step_1 : decode m_Ma_step.2.1 1 = .ok (.getfield 24, 3) := by decide +kernel
theorem d_Ma_step_4 : decode m_Ma_step.2.1 4 = .ok (.aload_n 0, 1) := by decide +kernel
theorem f_Ma_step_34 : jl_fd m_Ma_step 34 1 7 = true := by decide +kernel
theorem d_Ma_step_5 : decode m_Ma_step.2.1 5 = .ok (.getfield 34, 3) := by decide +kernel
theorem d_Ma_step_8 : decode m_Ma_step.2.1 8 = .ok (.iaload, 1) := by decide +kernel
theorem d_Ma_step_9 : decode m_Ma_step.2.1 9 = .ok (.istore_n 1, 1) := by decide +kernel
theorem d_Ma_step_10 : decode m_Ma_step.2.1 10 = .ok (.aload_n 0, 1) := by decide +kernel
theorem f_Ma_step_20 : jl_fd m_Ma_step 20 1 3 = true := by decide +kernel
theorem d_Ma_step_11 : decode m_Ma_step.2.1 11 = .ok (.getfield 20, 3) := by decide +kernel
theorem d_Ma_step_14 : decode m_Ma_step.2.1 14 = .ok (.aload_n 0, 1) := by decide +kernel
theorem d_Ma_step_15 : decode m_Ma_step.2.1 15 = .ok (.getfield 34, 3) := by decide +kernel
theorem d_Ma_step_18 : decode m_Ma_step.2.1 18 = .ok (.aaload, 1) := by decide +kernel
theorem f_Ma_step_94 : jl_fd m_Ma_step 94 2 3 = true := by decide +kernel
theorem d_Ma_step_19 : decode m_Ma_step.2.1 19 = .ok (.getfield 94, 3) := by decide +kernel
theorem d_Ma_step_22 : decode m_Ma_step.2.1 22 = .ok (.iload_n 1, 1) := by decide +kernel
theorem d_Ma_step_23 : decode m_Ma_step.2.1 23 = .ok (.iaload, 1) := by decide +kernel
theorem d_Ma_step_24 : decode m_Ma_step.2.1 24 = .ok (.istore_n 2, 1) := by decide +kernel
theorem d_Ma_step_25 : decode m_Ma_step.2.1 25 = .ok (.aload_n 0, 1) := by decide +kernel
theorem d_Ma_step_26 : decode m_Ma_step.2.1 26 = .ok (.getfield 20, 3) := by decide +kernel
theorem d_Ma_step_29 : decode m_Ma_step.2.1 29 = .ok (.aload_n 0, 1) := by decide +kernel
theorem d_Ma_step_30 : decode m_Ma_step.2.1 30 = .ok (.getfield 34, 3) := by decide +kernel
theorem d_Ma_step_33 : decode m_Ma_step.2.1 33 = .ok (.aaload, 1) := by decide +kernel
theorem f_Ma_step_97 : jl_fd m_Ma_step 97 2 4 = true := by decide +kernel
theorem d_Ma_step_34 : decode m_Ma_step.2.1 34 = .ok (.getfield 97, 3) := by decide +kernel
theorem d_Ma_step_37 : decode m_Ma_step.2.1 37 = .ok (.iload_n 1, 1) := by decide +kernel
theorem d_Ma_step_38 : decode m_Ma_step.2.1 38 = .ok (.iaload, 1) := by decide +kernel
theorem d_Ma_step_39 : decode m_Ma_step.2.1 39 = .ok (.istore_n 3, 1) := by decide +kernel
theorem d_Ma_step_40 : decode m_Ma_step.2.1 40 = .ok (.iload_n 2, 1) := by decide +kernel
theorem d_Ma_step_41 : decode m_Ma_step.2.1 41 = .ok (.tableswitch 112 7 18 #[63, 63, 63, 112, 112, 112, 112, 90, 112, 63, 98, 105], 63) := by decide +kernel
theorem d_Ma_step_104 : decode m_Ma_step.2.1 104 = .ok (.aload_n 0, 1) := by decide +kernel
theorem d_Ma_step_105 : decode m_Ma_step.2.1 105 = .ok (.getfield 24, 3) := by decide +kernel
theorem d_Ma_step_108 : decode m_Ma_step.2.1 108 = .ok (.aload_n 0, 1) := by decide +kernel
theorem d_Ma_step_109 : decode m_Ma_step.2.1 109 = .ok (.getfield 34, 3) := by decide +kernel
theorem d_Ma_step_112 : decode m_Ma_step.2.1 112 = .ok (.aload_n 0, 1) := by decide +kernel
theorem d_Ma_step_113 : decode m_Ma_step.2.1 113 = .ok (.iload_n 2, 1) := by decide +kernel
theorem k_Ma_step_100 : jl_cv m_Ma_step m_Ma_isJumpTaken 100 1 = true := by decide +kernel
theorem d_Ma_step_114 : decode m_Ma_step.2.1 114 = .ok (.invokevirtual 100, 3) := by decide +kernel
theorem d_Ma_step_117 : decode m_Ma_step.2.1 117 = .ok (.ifCond .eq 7, 3) := by decide +kernel
theorem d_Ma_step_124 : decode m_Ma_step.2.1 124 = .ok (.iload_n 1, 1) := by decide +kernel
theorem d_Ma_step_125 : decode m_Ma_step.2.1 125 = .ok (.iconst 1, 1) := by decide +kernel
theorem d_Ma_step_126 : decode m_Ma_step.2.1 126 = .ok (.iadd, 1) := by decide +kernel
theorem d_Ma_step_127 : decode m_Ma_step.2.1 127 = .ok (.iastore, 1) := by decide +kernel
theorem d_Ma_step_128 : decode m_Ma_step.2.1 128 = .ok (.goto 61, 3) := by decide +kernel
theorem d_Ma_step_189 : decode m_Ma_step.2.1 189 = .ok (.return_, 1) := by decide +kernel
theorem d_Ma_step_120 : decode m_Ma_step.2.1 120 = .ok (.iload_n 3, 1) := by decide +kernel
theorem d_Ma_step_121 : decode m_Ma_step.2.1 121 = .ok (.goto 6, 3) := by decide +kernel
theorem ma_st_7 (hl : l.stackTraces = false) {P : jl_O → jl_S → Prop}  (hk : KB σ0 mt σ (7 + b) t m p (R) (V) (fs) (H) su dt dq aw) (hwx : WX σ0 tb pr ow fi ft mt sg D MP FH) (hmt : MtOk mt) (hok : WoOk tb pr ow fi) (ht : t < 12) (hp : p < 24) (hop : dop (D m) p = 7) (hag : dag (D m) p = (nI (n))) (hh : R 6 = some (b)) (hb : b ≤ 5) (hT : ∀ σ', KB σ0 mt σ' (7 + b) t m (if jtk 7 R V b = true then n else p + 1) (va_up R 6 (some b)) V fs H su dt dq aw → P (.inl none) σ') : jl_mE l G m_Ma_step [.ref 13] σ P := by
  obtain ⟨uw, ps, ty, va, hX, u1, u2, t1, t2, hS, hx, hto, hF⟩ := id hk
  obtain ⟨s0, s1, s2, s3⟩ := id hS
  obtain ⟨⟨⟨a, hma, hua⟩, hps1, hty, hva⟩, hfs, hln, hob⟩ := id hx
  have hma : mt m = some a := hma
  have hps1 : ps t = p := hps1
  have hty : ∀ j, j < _ → ty (t * 12 + j) = R j := hty
  have hva : ∀ j, j < _ → j ≠ 6 → va (t * 12 + j) = V j := hva
  have hRo := hx.rob
  obtain ⟨hM, g1, g2, g3, g4, g5, g6, g7, g8⟩ : MeD σ a (D m) (MP m) (FH m) := (hwx.fr hF hmt).2.2.2 m a hma
  refine jl_ofE (as := [.ref 13]) rfl (by decide) hl (jl_cc rfl jl_ca) (Nat.le_of_ble_eq_true rfl) ?_
  show jl_E l G m_Ma_step (0, 0) 0 [some (.ref 13), none, none, none, none] [] (σ) P
  refine er_aload_n d_Ma_step_0 rfl ?_
  refine er_getf d_Ma_step_1 f_Ma_step_24 hX rfl ?_
  refine er_aload_n d_Ma_step_4 rfl ?_
  refine er_getf d_Ma_step_5 f_Ma_step_34 hX rfl ?_
  refine er_ialdQ (v := (nI (p))) d_Ma_step_8 u2 (by omega) (by omega) (congrArg nI hps1) ?_
  refine er_istore_n d_Ma_step_9 (by decide) ?_
  show jl_E l G m_Ma_step (0, 0) 10 [some (.ref 13), some (.int (nI p)), none, none, none] [] (σ) P
  refine er_aload_n d_Ma_step_10 rfl ?_
  refine er_getf d_Ma_step_11 f_Ma_step_20 hX rfl ?_
  refine er_aload_n d_Ma_step_14 rfl ?_
  refine er_getf d_Ma_step_15 f_Ma_step_34 hX rfl ?_
  refine er_aaldQ (v := some (a)) d_Ma_step_18 u1 (by omega) (by omega) (hua) ?_
  show jl_E l G m_Ma_step (0, 0) 19 [some (.ref 13), some (.int (nI p)), none, none, none] [.ref a] (σ) P
  refine er_getf d_Ma_step_19 f_Ma_step_94 hM rfl ?_
  refine er_iload_n d_Ma_step_22 rfl ?_
  refine er_ialdQ (v := (nI (7))) d_Ma_step_23 g1 (by omega) (by omega) (congrArg nI hop) ?_
  refine er_istore_n d_Ma_step_24 (by decide) ?_
  show jl_E l G m_Ma_step (0, 0) 25 [some (.ref 13), some (.int (nI p)), some (.int (nI 7)), none, none] [] (σ) P
  refine er_aload_n d_Ma_step_25 rfl ?_
  refine er_getf d_Ma_step_26 f_Ma_step_20 hX rfl ?_
  refine er_aload_n d_Ma_step_29 rfl ?_
  refine er_getf d_Ma_step_30 f_Ma_step_34 hX rfl ?_
  refine er_aaldQ (v := some (a)) d_Ma_step_33 u1 (by omega) (by omega) (hua) ?_
  show jl_E l G m_Ma_step (0, 0) 34 [some (.ref 13), some (.int (nI p)), some (.int (nI 7)), none, none] [.ref a] (σ) P
  refine er_getf d_Ma_step_34 f_Ma_step_97 hM rfl ?_
  refine er_iload_n d_Ma_step_37 rfl ?_
  refine er_ialdQ (v := (nI (n))) d_Ma_step_38 g2 (by omega) (by omega) (hag) ?_
  refine er_istore_n d_Ma_step_39 (by decide) ?_
  show jl_E l G m_Ma_step (0, 0) 40 [some (.ref 13), some (.int (nI p)), some (.int (nI 7)), some (.int (nI n)), none] [] (σ) P
  refine er_iload_n d_Ma_step_40 rfl ?_
  refine er_tableIn (off := 63) 104 d_Ma_step_41 (by decide +kernel) (by decide +kernel) (by decide +kernel) (by decide) ?_
  refine er_aload_n d_Ma_step_104 rfl ?_
  refine er_getf d_Ma_step_105 f_Ma_step_24 hX rfl ?_
  refine er_aload_n d_Ma_step_108 rfl ?_
  refine er_getf d_Ma_step_109 f_Ma_step_34 hX rfl ?_
  refine er_aload_n d_Ma_step_112 rfl ?_
  refine er_iload_n d_Ma_step_113 rfl ?_
  refine er_callVE (As := [.int (nI 7)]) d_Ma_step_114 k_Ma_step_100 hX rfl rfl rfl (Nat.le_of_ble_eq_true rfl) (by decide) (by decide) (ma_jt_7 hl hk ht hh hb (fun σ hk => ⟨_, rfl, ?_⟩))
  obtain ⟨uw, ps, ty, va, hX, u1, u2, t1, t2, hS, hx, hto, hF⟩ := id hk
  obtain ⟨s0, s1, s2, s3⟩ := id hS
  obtain ⟨⟨⟨a, hma, hua⟩, hps1, hty, hva⟩, hfs, hln, hob⟩ := id hx
  show jl_E l G m_Ma_step (0, 0) 117 [some (.ref 13), some (.int (nI p)), some (.int (nI 7)), some (.int (nI n)), none] [.int (bi (jtk 7 R V b)), .int (nI t), .ref 19] (σ) P
  refine er_if_eq 124 d_Ma_step_117 (by decide) (fun c1 => ?_) (fun c1 => ?_)
  · refine er_iload_n d_Ma_step_124 rfl ?_
    refine er_iconst ((nI (1))) d_Ma_step_125 (by decide) ?_
    refine er_iaddN d_Ma_step_126 ?_
    refine er_iastN d_Ma_step_127 u2 (by omega) (by omega) ?_
    rw [show upd (fun j => nI (ps j)) (t) ((nI ((p) + (1)))) = (fun j => nI ((va_up ps (t) ((p) + (1))) j)) from nI_up ps (t) ((p) + (1))]
    show jl_E l G m_Ma_step (0, 0) 128 [some (.ref 13), some (.int (nI p)), some (.int (nI 7)), some (.int (nI n)), none] [] (σ.set (19) (.inl (0, 12, .inl (fun j => nI ((va_up ps (t) ((p) + (1))) j))))) P
    refine er_goto 189 d_Ma_step_128 (by decide) ?_
    exact er_vret d_Ma_step_189 rfl (hT _ (by rw [if_neg (by rw [bi_0.mp c1]; decide)]; exact ⟨_, _, _, _, (jl_sn (by decide) hX), (jl_sn (by decide) u1), (jl_ss u2), (jl_sn (by decide) t1), (jl_sn (by decide) t2), ⟨(jl_sn (by decide) s0), (jl_sn (by decide) s1), (jl_sn (by decide) s2), (jl_sn (by decide) s3)⟩, (hx.pc), hto, (hF.set (by omega))⟩)) (by decide) (by decide)
  · refine er_iload_n d_Ma_step_120 rfl ?_
    refine er_goto 127 d_Ma_step_121 (by decide) ?_
    refine er_iastN d_Ma_step_127 u2 (by omega) (by omega) ?_
    rw [show upd (fun j => nI (ps j)) (t) ((nI (n))) = (fun j => nI ((va_up ps (t) (n)) j)) from nI_up ps (t) (n)]
    show jl_E l G m_Ma_step (0, 0) 128 [some (.ref 13), some (.int (nI p)), some (.int (nI 7)), some (.int (nI n)), none] [] (σ.set (19) (.inl (0, 12, .inl (fun j => nI ((va_up ps (t) (n)) j))))) P
    refine er_goto 189 d_Ma_step_128 (by decide) ?_
    exact er_vret d_Ma_step_189 rfl (hT _ (by rw [if_pos (bi_nf c1)]; exact ⟨_, _, _, _, (jl_sn (by decide) hX), (jl_sn (by decide) u1), (jl_ss u2), (jl_sn (by decide) t1), (jl_sn (by decide) t2), ⟨(jl_sn (by decide) s0), (jl_sn (by decide) s1), (jl_sn (by decide) s2), (jl_sn (by decide) s3)⟩, (hx.pc), hto, (hF.set (by omega))⟩)) (by decide) (by decide)
theorem ma_st_8 (hl : l.stackTraces = false) {P : jl_O → jl_S → Prop}  (hk : KB σ0 mt σ (7 + (b + 1)) t m p (R) (V) (fs) (H) su dt dq aw) (hwx : WX σ0 tb pr ow fi ft mt sg D MP FH) (hmt : MtOk mt) (hok : WoOk tb pr ow fi) (ht : t < 12) (hp : p < 24) (hop : dop (D m) p = 8) (hag : dag (D m) p = (nI (n))) (hh : R 6 = some (b + 1)) (hb : b + 1 ≤ 5) (hT : ∀ σ', KB σ0 mt σ' (7 + b) t m (if jtk 8 R V b = true then n else p + 1) (va_up R 6 (some b)) V fs H su dt dq aw → P (.inl none) σ') : jl_mE l G m_Ma_step [.ref 13] σ P := by
  obtain ⟨uw, ps, ty, va, hX, u1, u2, t1, t2, hS, hx, hto, hF⟩ := id hk
  obtain ⟨s0, s1, s2, s3⟩ := id hS
  obtain ⟨⟨⟨a, hma, hua⟩, hps1, hty, hva⟩, hfs, hln, hob⟩ := id hx
  have hma : mt m = some a := hma
  have hps1 : ps t = p := hps1
  have hty : ∀ j, j < _ → ty (t * 12 + j) = R j := hty
  have hva : ∀ j, j < _ → j ≠ 6 → va (t * 12 + j) = V j := hva
  have hRo := hx.rob
  obtain ⟨hM, g1, g2, g3, g4, g5, g6, g7, g8⟩ : MeD σ a (D m) (MP m) (FH m) := (hwx.fr hF hmt).2.2.2 m a hma
  refine jl_ofE (as := [.ref 13]) rfl (by decide) hl (jl_cc rfl jl_ca) (Nat.le_of_ble_eq_true rfl) ?_
  show jl_E l G m_Ma_step (0, 0) 0 [some (.ref 13), none, none, none, none] [] (σ) P
  refine er_aload_n d_Ma_step_0 rfl ?_
  refine er_getf d_Ma_step_1 f_Ma_step_24 hX rfl ?_
  refine er_aload_n d_Ma_step_4 rfl ?_
  refine er_getf d_Ma_step_5 f_Ma_step_34 hX rfl ?_
  refine er_ialdQ (v := (nI (p))) d_Ma_step_8 u2 (by omega) (by omega) (congrArg nI hps1) ?_
  refine er_istore_n d_Ma_step_9 (by decide) ?_
  show jl_E l G m_Ma_step (0, 0) 10 [some (.ref 13), some (.int (nI p)), none, none, none] [] (σ) P
  refine er_aload_n d_Ma_step_10 rfl ?_
  refine er_getf d_Ma_step_11 f_Ma_step_20 hX rfl ?_
  refine er_aload_n d_Ma_step_14 rfl ?_
  refine er_getf d_Ma_step_15 f_Ma_step_34 hX rfl ?_
  refine er_aaldQ (v := some (a)) d_Ma_step_18 u1 (by omega) (by omega) (hua) ?_
  show jl_E l G m_Ma_step (0, 0) 19 [some (.ref 13), some (.int (nI p)), none, none, none] [.ref a] (σ) P
  refine er_getf d_Ma_step_19 f_Ma_step_94 hM rfl ?_
  refine er_iload_n d_Ma_step_22 rfl ?_
  refine er_ialdQ (v := (nI (8))) d_Ma_step_23 g1 (by omega) (by omega) (congrArg nI hop) ?_
  refine er_istore_n d_Ma_step_24 (by decide) ?_
  show jl_E l G m_Ma_step (0, 0) 25 [some (.ref 13), some (.int (nI p)), some (.int (nI 8)), none, none] [] (σ) P
  refine er_aload_n d_Ma_step_25 rfl ?_
  refine er_getf d_Ma_step_26 f_Ma_step_20 hX rfl ?_
  refine er_aload_n d_Ma_step_29 rfl ?_
  refine er_getf d_Ma_step_30 f_Ma_step_34 hX rfl ?_
  refine er_aaldQ (v := some (a)) d_Ma_step_33 u1 (by omega) (by omega) (hua) ?_
  show jl_E l G m_Ma_step (0, 0) 34 [some (.ref 13), some (.int (nI p)), some (.int (nI 8)), none, none] [.ref a] (σ) P
  refine er_getf d_Ma_step_34 f_Ma_step_97 hM rfl ?_
  refine er_iload_n d_Ma_step_37 rfl ?_
  refine er_ialdQ (v := (nI (n))) d_Ma_step_38 g2 (by omega) (by omega) (hag) ?_
  refine er_istore_n d_Ma_step_39 (by decide) ?_
  show jl_E l G m_Ma_step (0, 0) 40 [some (.ref 13), some (.int (nI p)), some (.int (nI 8)), some (.int (nI n)), none] [] (σ) P
  refine er_iload_n d_Ma_step_40 rfl ?_
  refine er_tableIn (off := 63) 104 d_Ma_step_41 (by decide +kernel) (by decide +kernel) (by decide +kernel) (by decide) ?_
  refine er_aload_n d_Ma_step_104 rfl ?_
  refine er_getf d_Ma_step_105 f_Ma_step_24 hX rfl ?_
  refine er_aload_n d_Ma_step_108 rfl ?_
  refine er_getf d_Ma_step_109 f_Ma_step_34 hX rfl ?_
  refine er_aload_n d_Ma_step_112 rfl ?_
  refine er_iload_n d_Ma_step_113 rfl ?_
  refine er_callVE (As := [.int (nI 8)]) d_Ma_step_114 k_Ma_step_100 hX rfl rfl rfl (Nat.le_of_ble_eq_true rfl) (by decide) (by decide) (ma_jt_8 hl hk ht hh hb (fun σ hk => ⟨_, rfl, ?_⟩))
  obtain ⟨uw, ps, ty, va, hX, u1, u2, t1, t2, hS, hx, hto, hF⟩ := id hk
  obtain ⟨s0, s1, s2, s3⟩ := id hS
  obtain ⟨⟨⟨a, hma, hua⟩, hps1, hty, hva⟩, hfs, hln, hob⟩ := id hx
  show jl_E l G m_Ma_step (0, 0) 117 [some (.ref 13), some (.int (nI p)), some (.int (nI 8)), some (.int (nI n)), none] [.int (bi (jtk 8 R V b)), .int (nI t), .ref 19] (σ) P
  refine er_if_eq 124 d_Ma_step_117 (by decide) (fun c1 => ?_) (fun c1 => ?_)
  · refine er_iload_n d_Ma_step_124 rfl ?_
    refine er_iconst ((nI (1))) d_Ma_step_125 (by decide) ?_
    refine er_iaddN d_Ma_step_126 ?_
    refine er_iastN d_Ma_step_127 u2 (by omega) (by omega) ?_
    rw [show upd (fun j => nI (ps j)) (t) ((nI ((p) + (1)))) = (fun j => nI ((va_up ps (t) ((p) + (1))) j)) from nI_up ps (t) ((p) + (1))]
    show jl_E l G m_Ma_step (0, 0) 128 [some (.ref 13), some (.int (nI p)), some (.int (nI 8)), some (.int (nI n)), none] [] (σ.set (19) (.inl (0, 12, .inl (fun j => nI ((va_up ps (t) ((p) + (1))) j))))) P
    refine er_goto 189 d_Ma_step_128 (by decide) ?_
    exact er_vret d_Ma_step_189 rfl (hT _ (by rw [if_neg (by rw [bi_0.mp c1]; decide)]; exact ⟨_, _, _, _, (jl_sn (by decide) hX), (jl_sn (by decide) u1), (jl_ss u2), (jl_sn (by decide) t1), (jl_sn (by decide) t2), ⟨(jl_sn (by decide) s0), (jl_sn (by decide) s1), (jl_sn (by decide) s2), (jl_sn (by decide) s3)⟩, (hx.pc), hto, (hF.set (by omega))⟩)) (by decide) (by decide)
  · refine er_iload_n d_Ma_step_120 rfl ?_
    refine er_goto 127 d_Ma_step_121 (by decide) ?_
    refine er_iastN d_Ma_step_127 u2 (by omega) (by omega) ?_
    rw [show upd (fun j => nI (ps j)) (t) ((nI (n))) = (fun j => nI ((va_up ps (t) (n)) j)) from nI_up ps (t) (n)]
    show jl_E l G m_Ma_step (0, 0) 128 [some (.ref 13), some (.int (nI p)), some (.int (nI 8)), some (.int (nI n)), none] [] (σ.set (19) (.inl (0, 12, .inl (fun j => nI ((va_up ps (t) (n)) j))))) P
    refine er_goto 189 d_Ma_step_128 (by decide) ?_
    exact er_vret d_Ma_step_189 rfl (hT _ (by rw [if_pos (bi_nf c1)]; exact ⟨_, _, _, _, (jl_sn (by decide) hX), (jl_sn (by decide) u1), (jl_ss u2), (jl_sn (by decide) t1), (jl_sn (by decide) t2), ⟨(jl_sn (by decide) s0), (jl_sn (by decide) s1), (jl_sn (by decide) s2), (jl_sn (by decide) s3)⟩, (hx.pc), hto, (hF.set (by omega))⟩)) (by decide) (by decide)
theorem ma_st_9 (hl : l.stackTraces = false) {P : jl_O → jl_S → Prop}  (hk : KB σ0 mt σ (7 + (b + 2)) t m p (R) (V) (fs) (H) su dt dq aw) (hwx : WX σ0 tb pr ow fi ft mt sg D MP FH) (hmt : MtOk mt) (hok : WoOk tb pr ow fi) (ht : t < 12) (hp : p < 24) (hop : dop (D m) p = 9) (hag : dag (D m) p = (nI (n))) (hh : R 6 = some (b + 2)) (hb : b + 2 ≤ 5) (hT : ∀ σ', KB σ0 mt σ' (7 + b) t m (if jtk 9 R V b = true then n else p + 1) (va_up R 6 (some b)) V fs H su dt dq aw → P (.inl none) σ') : jl_mE l G m_Ma_step [.ref 13] σ P := by
  obtain ⟨uw, ps, ty, va, hX, u1, u2, t1, t2, hS, hx, hto, hF⟩ := id hk
  obtain ⟨s0, s1, s2, s3⟩ := id hS
  obtain ⟨⟨⟨a, hma, hua⟩, hps1, hty, hva⟩, hfs, hln, hob⟩ := id hx
  have hma : mt m = some a := hma
  have hps1 : ps t = p := hps1
  have hty : ∀ j, j < _ → ty (t * 12 + j) = R j := hty
  have hva : ∀ j, j < _ → j ≠ 6 → va (t * 12 + j) = V j := hva
  have hRo := hx.rob
  obtain ⟨hM, g1, g2, g3, g4, g5, g6, g7, g8⟩ : MeD σ a (D m) (MP m) (FH m) := (hwx.fr hF hmt).2.2.2 m a hma
  refine jl_ofE (as := [.ref 13]) rfl (by decide) hl (jl_cc rfl jl_ca) (Nat.le_of_ble_eq_true rfl) ?_
  show jl_E l G m_Ma_step (0, 0) 0 [some (.ref 13), none, none, none, none] [] (σ) P
  refine er_aload_n d_Ma_step_0 rfl ?_
  refine er_getf d_Ma_step_1 f_Ma_step_24 hX rfl ?_
  refine er_aload_n d_Ma_step_4 rfl ?_
  refine er_getf d_Ma_step_5 f_Ma_step_34 hX rfl ?_
  refine er_ialdQ (v := (nI (p))) d_Ma_step_8 u2 (by omega) (by omega) (congrArg nI hps1) ?_
  refine er_istore_n d_Ma_step_9 (by decide) ?_
  show jl_E l G m_Ma_step (0, 0) 10 [some (.ref 13), some (.int (nI p)), none, none, none] [] (σ) P
  refine er_aload_n d_Ma_step_10 rfl ?_
  refine er_getf d_Ma_step_11 f_Ma_step_20 hX rfl ?_
  refine er_aload_n d_Ma_step_14 rfl ?_
  refine er_getf d_Ma_step_15 f_Ma_step_34 hX rfl ?_
  refine er_aaldQ (v := some (a)) d_Ma_step_18 u1 (by omega) (by omega) (hua) ?_
  show jl_E l G m_Ma_step (0, 0) 19 [some (.ref 13), some (.int (nI p)), none, none, none] [.ref a] (σ) P
  refine er_getf d_Ma_step_19 f_Ma_step_94 hM rfl ?_
  refine er_iload_n d_Ma_step_22 rfl ?_
  refine er_ialdQ (v := (nI (9))) d_Ma_step_23 g1 (by omega) (by omega) (congrArg nI hop) ?_
  refine er_istore_n d_Ma_step_24 (by decide) ?_
  show jl_E l G m_Ma_step (0, 0) 25 [some (.ref 13), some (.int (nI p)), some (.int (nI 9)), none, none] [] (σ) P
  refine er_aload_n d_Ma_step_25 rfl ?_
  refine er_getf d_Ma_step_26 f_Ma_step_20 hX rfl ?_
  refine er_aload_n d_Ma_step_29 rfl ?_
  refine er_getf d_Ma_step_30 f_Ma_step_34 hX rfl ?_
  refine er_aaldQ (v := some (a)) d_Ma_step_33 u1 (by omega) (by omega) (hua) ?_
  show jl_E l G m_Ma_step (0, 0) 34 [some (.ref 13), some (.int (nI p)), some (.int (nI 9)), none, none] [.ref a] (σ) P
  refine er_getf d_Ma_step_34 f_Ma_step_97 hM rfl ?_
  refine er_iload_n d_Ma_step_37 rfl ?_
  refine er_ialdQ (v := (nI (n))) d_Ma_step_38 g2 (by omega) (by omega) (hag) ?_
  refine er_istore_n d_Ma_step_39 (by decide) ?_
  show jl_E l G m_Ma_step (0, 0) 40 [some (.ref 13), some (.int (nI p)), some (.int (nI 9)), some (.int (nI n)), none] [] (σ) P
  refine er_iload_n d_Ma_step_40 rfl ?_
  refine er_tableIn (off := 63) 104 d_Ma_step_41 (by decide +kernel) (by decide +kernel) (by decide +kernel) (by decide) ?_
  refine er_aload_n d_Ma_step_104 rfl ?_
  refine er_getf d_Ma_step_105 f_Ma_step_24 hX rfl ?_
  refine er_aload_n d_Ma_step_108 rfl ?_
  refine er_getf d_Ma_step_109 f_Ma_step_34 hX rfl ?_
  refine er_aload_n d_Ma_step_112 rfl ?_
  refine er_iload_n d_Ma_step_113 rfl ?_
  refine er_callVE (As := [.int (nI 9)]) d_Ma_step_114 k_Ma_step_100 hX rfl rfl rfl (Nat.le_of_ble_eq_true rfl) (by decide) (by decide) (ma_jt_9 hl hk ht hh hb (fun σ hk => ⟨_, rfl, ?_⟩))
  obtain ⟨uw, ps, ty, va, hX, u1, u2, t1, t2, hS, hx, hto, hF⟩ := id hk
  obtain ⟨s0, s1, s2, s3⟩ := id hS
  obtain ⟨⟨⟨a, hma, hua⟩, hps1, hty, hva⟩, hfs, hln, hob⟩ := id hx
  show jl_E l G m_Ma_step (0, 0) 117 [some (.ref 13), some (.int (nI p)), some (.int (nI 9)), some (.int (nI n)), none] [.int (bi (jtk 9 R V b)), .int (nI t), .ref 19] (σ) P
  refine er_if_eq 124 d_Ma_step_117 (by decide) (fun c1 => ?_) (fun c1 => ?_)
  · refine er_iload_n d_Ma_step_124 rfl ?_
    refine er_iconst ((nI (1))) d_Ma_step_125 (by decide) ?_
    refine er_iaddN d_Ma_step_126 ?_
    refine er_iastN d_Ma_step_127 u2 (by omega) (by omega) ?_
    rw [show upd (fun j => nI (ps j)) (t) ((nI ((p) + (1)))) = (fun j => nI ((va_up ps (t) ((p) + (1))) j)) from nI_up ps (t) ((p) + (1))]
    show jl_E l G m_Ma_step (0, 0) 128 [some (.ref 13), some (.int (nI p)), some (.int (nI 9)), some (.int (nI n)), none] [] (σ.set (19) (.inl (0, 12, .inl (fun j => nI ((va_up ps (t) ((p) + (1))) j))))) P
    refine er_goto 189 d_Ma_step_128 (by decide) ?_
    exact er_vret d_Ma_step_189 rfl (hT _ (by rw [if_neg (by rw [bi_0.mp c1]; decide)]; exact ⟨_, _, _, _, (jl_sn (by decide) hX), (jl_sn (by decide) u1), (jl_ss u2), (jl_sn (by decide) t1), (jl_sn (by decide) t2), ⟨(jl_sn (by decide) s0), (jl_sn (by decide) s1), (jl_sn (by decide) s2), (jl_sn (by decide) s3)⟩, (hx.pc), hto, (hF.set (by omega))⟩)) (by decide) (by decide)
  · refine er_iload_n d_Ma_step_120 rfl ?_
    refine er_goto 127 d_Ma_step_121 (by decide) ?_
    refine er_iastN d_Ma_step_127 u2 (by omega) (by omega) ?_
    rw [show upd (fun j => nI (ps j)) (t) ((nI (n))) = (fun j => nI ((va_up ps (t) (n)) j)) from nI_up ps (t) (n)]
    show jl_E l G m_Ma_step (0, 0) 128 [some (.ref 13), some (.int (nI p)), some (.int (nI 9)), some (.int (nI n)), none] [] (σ.set (19) (.inl (0, 12, .inl (fun j => nI ((va_up ps (t) (n)) j))))) P
    refine er_goto 189 d_Ma_step_128 (by decide) ?_
    exact er_vret d_Ma_step_189 rfl (hT _ (by rw [if_pos (bi_nf c1)]; exact ⟨_, _, _, _, (jl_sn (by decide) hX), (jl_sn (by decide) u1), (jl_ss u2), (jl_sn (by decide) t1), (jl_sn (by decide) t2), ⟨(jl_sn (by decide) s0), (jl_sn (by decide) s1), (jl_sn (by decide) s2), (jl_sn (by decide) s3)⟩, (hx.pc), hto, (hF.set (by omega))⟩)) (by decide) (by decide)
theorem ma_st_16 (hl : l.stackTraces = false) {P : jl_O → jl_S → Prop}  (hk : KB σ0 mt σ (7 + (b + 1)) t m p (R) (V) (fs) (H) su dt dq aw) (hwx : WX σ0 tb pr ow fi ft mt sg D MP FH) (hmt : MtOk mt) (hok : WoOk tb pr ow fi) (ht : t < 12) (hp : p < 24) (hop : dop (D m) p = 16) (hag : dag (D m) p = (nI (n))) (hh : R 6 = some (b + 1)) (hb : b + 1 ≤ 5) (hT : ∀ σ', KB σ0 mt σ' (7 + b) t m (if jtk 16 R V b = true then n else p + 1) (va_up R 6 (some b)) V fs H su dt dq aw → P (.inl none) σ') : jl_mE l G m_Ma_step [.ref 13] σ P := by
  obtain ⟨uw, ps, ty, va, hX, u1, u2, t1, t2, hS, hx, hto, hF⟩ := id hk
  obtain ⟨s0, s1, s2, s3⟩ := id hS
  obtain ⟨⟨⟨a, hma, hua⟩, hps1, hty, hva⟩, hfs, hln, hob⟩ := id hx
  have hma : mt m = some a := hma
  have hps1 : ps t = p := hps1
  have hty : ∀ j, j < _ → ty (t * 12 + j) = R j := hty
  have hva : ∀ j, j < _ → j ≠ 6 → va (t * 12 + j) = V j := hva
  have hRo := hx.rob
  obtain ⟨hM, g1, g2, g3, g4, g5, g6, g7, g8⟩ : MeD σ a (D m) (MP m) (FH m) := (hwx.fr hF hmt).2.2.2 m a hma
  refine jl_ofE (as := [.ref 13]) rfl (by decide) hl (jl_cc rfl jl_ca) (Nat.le_of_ble_eq_true rfl) ?_
  show jl_E l G m_Ma_step (0, 0) 0 [some (.ref 13), none, none, none, none] [] (σ) P
  refine er_aload_n d_Ma_step_0 rfl ?_
  refine er_getf d_Ma_step_1 f_Ma_step_24 hX rfl ?_
  refine er_aload_n d_Ma_step_4 rfl ?_
  refine er_getf d_Ma_step_5 f_Ma_step_34 hX rfl ?_
  refine er_ialdQ (v := (nI (p))) d_Ma_step_8 u2 (by omega) (by omega) (congrArg nI hps1) ?_
  refine er_istore_n d_Ma_step_9 (by decide) ?_
  show jl_E l G m_Ma_step (0, 0) 10 [some (.ref 13), some (.int (nI p)), none, none, none] [] (σ) P
  refine er_aload_n d_Ma_step_10 rfl ?_
  refine er_getf d_Ma_step_11 f_Ma_step_20 hX rfl ?_
  refine er_aload_n d_Ma_step_14 rfl ?_
  refine er_getf d_Ma_step_15 f_Ma_step_34 hX rfl ?_
  refine er_aaldQ (v := some (a)) d_Ma_step_18 u1 (by omega) (by omega) (hua) ?_
  show jl_E l G m_Ma_step (0, 0) 19 [some (.ref 13), some (.int (nI p)), none, none, none] [.ref a] (σ) P
  refine er_getf d_Ma_step_19 f_Ma_step_94 hM rfl ?_
  refine er_iload_n d_Ma_step_22 rfl ?_
  refine er_ialdQ (v := (nI (16))) d_Ma_step_23 g1 (by omega) (by omega) (congrArg nI hop) ?_
  refine er_istore_n d_Ma_step_24 (by decide) ?_
  show jl_E l G m_Ma_step (0, 0) 25 [some (.ref 13), some (.int (nI p)), some (.int (nI 16)), none, none] [] (σ) P
  refine er_aload_n d_Ma_step_25 rfl ?_
  refine er_getf d_Ma_step_26 f_Ma_step_20 hX rfl ?_
  refine er_aload_n d_Ma_step_29 rfl ?_
  refine er_getf d_Ma_step_30 f_Ma_step_34 hX rfl ?_
  refine er_aaldQ (v := some (a)) d_Ma_step_33 u1 (by omega) (by omega) (hua) ?_
  show jl_E l G m_Ma_step (0, 0) 34 [some (.ref 13), some (.int (nI p)), some (.int (nI 16)), none, none] [.ref a] (σ) P
  refine er_getf d_Ma_step_34 f_Ma_step_97 hM rfl ?_
  refine er_iload_n d_Ma_step_37 rfl ?_
  refine er_ialdQ (v := (nI (n))) d_Ma_step_38 g2 (by omega) (by omega) (hag) ?_
  refine er_istore_n d_Ma_step_39 (by decide) ?_
  show jl_E l G m_Ma_step (0, 0) 40 [some (.ref 13), some (.int (nI p)), some (.int (nI 16)), some (.int (nI n)), none] [] (σ) P
  refine er_iload_n d_Ma_step_40 rfl ?_
  refine er_tableIn (off := 63) 104 d_Ma_step_41 (by decide +kernel) (by decide +kernel) (by decide +kernel) (by decide) ?_
  refine er_aload_n d_Ma_step_104 rfl ?_
  refine er_getf d_Ma_step_105 f_Ma_step_24 hX rfl ?_
  refine er_aload_n d_Ma_step_108 rfl ?_
  refine er_getf d_Ma_step_109 f_Ma_step_34 hX rfl ?_
  refine er_aload_n d_Ma_step_112 rfl ?_
  refine er_iload_n d_Ma_step_113 rfl ?_
  refine er_callVE (As := [.int (nI 16)]) d_Ma_step_114 k_Ma_step_100 hX rfl rfl rfl (Nat.le_of_ble_eq_true rfl) (by decide) (by decide) (ma_jt_16 hl hk ht hh hb (fun σ hk => ⟨_, rfl, ?_⟩))
  obtain ⟨uw, ps, ty, va, hX, u1, u2, t1, t2, hS, hx, hto, hF⟩ := id hk
  obtain ⟨s0, s1, s2, s3⟩ := id hS
  obtain ⟨⟨⟨a, hma, hua⟩, hps1, hty, hva⟩, hfs, hln, hob⟩ := id hx
  show jl_E l G m_Ma_step (0, 0) 117 [some (.ref 13), some (.int (nI p)), some (.int (nI 16)), some (.int (nI n)), none] [.int (bi (jtk 16 R V b)), .int (nI t), .ref 19] (σ) P
  refine er_if_eq 124 d_Ma_step_117 (by decide) (fun c1 => ?_) (fun c1 => ?_)
  · refine er_iload_n d_Ma_step_124 rfl ?_
    refine er_iconst ((nI (1))) d_Ma_step_125 (by decide) ?_
    refine er_iaddN d_Ma_step_126 ?_
    refine er_iastN d_Ma_step_127 u2 (by omega) (by omega) ?_
    rw [show upd (fun j => nI (ps j)) (t) ((nI ((p) + (1)))) = (fun j => nI ((va_up ps (t) ((p) + (1))) j)) from nI_up ps (t) ((p) + (1))]
    show jl_E l G m_Ma_step (0, 0) 128 [some (.ref 13), some (.int (nI p)), some (.int (nI 16)), some (.int (nI n)), none] [] (σ.set (19) (.inl (0, 12, .inl (fun j => nI ((va_up ps (t) ((p) + (1))) j))))) P
    refine er_goto 189 d_Ma_step_128 (by decide) ?_
    exact er_vret d_Ma_step_189 rfl (hT _ (by rw [if_neg (by rw [bi_0.mp c1]; decide)]; exact ⟨_, _, _, _, (jl_sn (by decide) hX), (jl_sn (by decide) u1), (jl_ss u2), (jl_sn (by decide) t1), (jl_sn (by decide) t2), ⟨(jl_sn (by decide) s0), (jl_sn (by decide) s1), (jl_sn (by decide) s2), (jl_sn (by decide) s3)⟩, (hx.pc), hto, (hF.set (by omega))⟩)) (by decide) (by decide)
  · refine er_iload_n d_Ma_step_120 rfl ?_
    refine er_goto 127 d_Ma_step_121 (by decide) ?_
    refine er_iastN d_Ma_step_127 u2 (by omega) (by omega) ?_
    rw [show upd (fun j => nI (ps j)) (t) ((nI (n))) = (fun j => nI ((va_up ps (t) (n)) j)) from nI_up ps (t) (n)]
    show jl_E l G m_Ma_step (0, 0) 128 [some (.ref 13), some (.int (nI p)), some (.int (nI 16)), some (.int (nI n)), none] [] (σ.set (19) (.inl (0, 12, .inl (fun j => nI ((va_up ps (t) (n)) j))))) P
    refine er_goto 189 d_Ma_step_128 (by decide) ?_
    exact er_vret d_Ma_step_189 rfl (hT _ (by rw [if_pos (bi_nf c1)]; exact ⟨_, _, _, _, (jl_sn (by decide) hX), (jl_sn (by decide) u1), (jl_ss u2), (jl_sn (by decide) t1), (jl_sn (by decide) t2), ⟨(jl_sn (by decide) s0), (jl_sn (by decide) s1), (jl_sn (by decide) s2), (jl_sn (by decide) s3)⟩, (hx.pc), hto, (hF.set (by omega))⟩)) (by decide) (by decide)
theorem d_Ma_step_131 : decode m_Ma_step.2.1 131 = .ok (.aload_n 0, 1) := by decide +kernel
theorem d_Ma_step_132 : decode m_Ma_step.2.1 132 = .ok (.iload_n 3, 1) := by decide +kernel
theorem k_Ma_step_104 : jl_cv m_Ma_step m_Ma_callMethod 104 1 = true := by decide +kernel
theorem d_Ma_step_133 : decode m_Ma_step.2.1 133 = .ok (.invokevirtual 104, 3) := by decide +kernel
theorem d_Ma_step_136 : decode m_Ma_step.2.1 136 = .ok (.goto 53, 3) := by decide +kernel
theorem ma_st_14n (hl : l.stackTraces = false) {P : jl_O → jl_S → Prop}  (hk : KB σ0 mt σ (7 + (b + 1 + c)) t m p (R) (V) (fs) (H) su dt dq aw) (hwx : WX σ0 tb pr ow fi ft mt sg D MP FH) (hmt : MtOk mt) (hok : WoOk tb pr ow fi) (ht : t < 12) (hp : p < 24) (hop : dop (D m) p = 14) (hag : dag (D m) p = (nI (n))) (hD : ∀ m, mt m ≠ none → MdOk (D m)) (hpf : ∀ k ∈ fs, k.p < 24) (hh : R 6 = some (b + 1 + c)) (hb : b + 1 + c ≤ 5) (hc2 : c ≤ 2) (hn : n < 2 ^ 31) (hts : tks sg 14 (nI n) = 1 + c) (hy : R (7 + b) = some 2) (hG : ∀ f' fs' σ', rse pr D (none) (-1) (⟨m, p, R, V⟩ :: fs) = some (f' :: fs') → KB σ0 mt σ' (7 + hgt f'.R) fs'.length f'.m f'.p f'.R f'.V fs' H su dt dq aw → P (.inl none) σ') (hE : rse pr D (none) (-1) (⟨m, p, R, V⟩ :: fs) = none → ∀ σ', KZ σ0 σ' H (nI 2) (nI 0) dq aw → P (.inl none) σ') : jl_mE l G m_Ma_step [.ref 13] σ P := by
  obtain ⟨uw, ps, ty, va, hX, u1, u2, t1, t2, hS, hx, hto, hF⟩ := id hk
  obtain ⟨s0, s1, s2, s3⟩ := id hS
  obtain ⟨⟨⟨a, hma, hua⟩, hps1, hty, hva⟩, hfs, hln, hob⟩ := id hx
  have hma : mt m = some a := hma
  have hps1 : ps t = p := hps1
  have hty : ∀ j, j < _ → ty (t * 12 + j) = R j := hty
  have hva : ∀ j, j < _ → j ≠ 6 → va (t * 12 + j) = V j := hva
  have hRo := hx.rob
  obtain ⟨hM, g1, g2, g3, g4, g5, g6, g7, g8⟩ : MeD σ a (D m) (MP m) (FH m) := (hwx.fr hF hmt).2.2.2 m a hma
  refine jl_ofE (as := [.ref 13]) rfl (by decide) hl (jl_cc rfl jl_ca) (Nat.le_of_ble_eq_true rfl) ?_
  show jl_E l G m_Ma_step (0, 0) 0 [some (.ref 13), none, none, none, none] [] (σ) P
  refine er_aload_n d_Ma_step_0 rfl ?_
  refine er_getf d_Ma_step_1 f_Ma_step_24 hX rfl ?_
  refine er_aload_n d_Ma_step_4 rfl ?_
  refine er_getf d_Ma_step_5 f_Ma_step_34 hX rfl ?_
  refine er_ialdQ (v := (nI (p))) d_Ma_step_8 u2 (by omega) (by omega) (congrArg nI hps1) ?_
  refine er_istore_n d_Ma_step_9 (by decide) ?_
  show jl_E l G m_Ma_step (0, 0) 10 [some (.ref 13), some (.int (nI p)), none, none, none] [] (σ) P
  refine er_aload_n d_Ma_step_10 rfl ?_
  refine er_getf d_Ma_step_11 f_Ma_step_20 hX rfl ?_
  refine er_aload_n d_Ma_step_14 rfl ?_
  refine er_getf d_Ma_step_15 f_Ma_step_34 hX rfl ?_
  refine er_aaldQ (v := some (a)) d_Ma_step_18 u1 (by omega) (by omega) (hua) ?_
  show jl_E l G m_Ma_step (0, 0) 19 [some (.ref 13), some (.int (nI p)), none, none, none] [.ref a] (σ) P
  refine er_getf d_Ma_step_19 f_Ma_step_94 hM rfl ?_
  refine er_iload_n d_Ma_step_22 rfl ?_
  refine er_ialdQ (v := (nI (14))) d_Ma_step_23 g1 (by omega) (by omega) (congrArg nI hop) ?_
  refine er_istore_n d_Ma_step_24 (by decide) ?_
  show jl_E l G m_Ma_step (0, 0) 25 [some (.ref 13), some (.int (nI p)), some (.int (nI 14)), none, none] [] (σ) P
  refine er_aload_n d_Ma_step_25 rfl ?_
  refine er_getf d_Ma_step_26 f_Ma_step_20 hX rfl ?_
  refine er_aload_n d_Ma_step_29 rfl ?_
  refine er_getf d_Ma_step_30 f_Ma_step_34 hX rfl ?_
  refine er_aaldQ (v := some (a)) d_Ma_step_33 u1 (by omega) (by omega) (hua) ?_
  show jl_E l G m_Ma_step (0, 0) 34 [some (.ref 13), some (.int (nI p)), some (.int (nI 14)), none, none] [.ref a] (σ) P
  refine er_getf d_Ma_step_34 f_Ma_step_97 hM rfl ?_
  refine er_iload_n d_Ma_step_37 rfl ?_
  refine er_ialdQ (v := (nI (n))) d_Ma_step_38 g2 (by omega) (by omega) (hag) ?_
  refine er_istore_n d_Ma_step_39 (by decide) ?_
  show jl_E l G m_Ma_step (0, 0) 40 [some (.ref 13), some (.int (nI p)), some (.int (nI 14)), some (.int (nI n)), none] [] (σ) P
  refine er_iload_n d_Ma_step_40 rfl ?_
  refine er_tableIn (off := 90) 131 d_Ma_step_41 (by decide +kernel) (by decide +kernel) (by decide +kernel) (by decide) ?_
  refine er_aload_n d_Ma_step_131 rfl ?_
  refine er_iload_n d_Ma_step_132 rfl ?_
  refine er_callVE (As := [.int (nI n)]) d_Ma_step_133 k_Ma_step_104 hX rfl rfl rfl (Nat.le_of_ble_eq_true rfl) (by decide) (by decide) (ma_call_n hl hk hwx hmt hok ht hh hb hc2 hn hts hD hp hpf hy (fun f1 fs1 σ e1 h1 => ⟨_, rfl, ?_⟩) (fun e1 σ h1 => ⟨_, rfl, ?_⟩))
  · skip
    show jl_E l G m_Ma_step (0, 0) 136 [some (.ref 13), some (.int (nI p)), some (.int (nI 14)), some (.int (nI n)), none] [] (σ) P
    refine er_goto 189 d_Ma_step_136 (by decide) ?_
    exact er_vret d_Ma_step_189 rfl (hG f1 fs1 _ e1 h1) (by decide) (by decide)
  · skip
    show jl_E l G m_Ma_step (0, 0) 136 [some (.ref 13), some (.int (nI p)), some (.int (nI 14)), some (.int (nI n)), none] [] (σ) P
    refine er_goto 189 d_Ma_step_136 (by decide) ?_
    exact er_vret d_Ma_step_189 rfl (hE e1 _ h1) (by decide) (by decide)
theorem ma_st_14o (hl : l.stackTraces = false) {P : jl_O → jl_S → Prop}  (hk : KB σ0 mt σ (7 + (b + 1 + c)) t m p (R) (V) (fs) (H) su dt dq aw) (hwx : WX σ0 tb pr ow fi ft mt sg D MP FH) (hmt : MtOk mt) (hok : WoOk tb pr ow fi) (ht : t < 12) (hp : p < 24) (hop : dop (D m) p = 14) (hag : dag (D m) p = (nI (n))) (hD : ∀ m, mt m ≠ none → MdOk (D m)) (hpf : ∀ k ∈ fs, k.p < 24) (hh : R 6 = some (b + 1 + c)) (hb : b + 1 + c ≤ 5) (hc2 : c ≤ 2) (hn : n < 2 ^ 31) (hts : tks sg 14 (nI n) = 1 + c) (hk6 : k < 6) (hy : R (7 + b) = some (10 + k)) (hm2 : mt m2 = some a2) (hfd : found tb pr mt (nI k) (nI ((n) % (4))) = some a2) (hT : t + 1 < 12 → ∀ σ', KB σ0 mt σ' 7 (t + 1) m2 0 (cwR R b c) (cwW V b c) (⟨m, p, va_up R 6 (some b), V⟩ :: fs) H su dt dq aw → P (.inl none) σ') (hF6 : 11 ≤ t → ∀ σ', KZ σ0 σ' H (nI 6) (nI 0) dq aw → P (.inl none) σ') : jl_mE l G m_Ma_step [.ref 13] σ P := by
  obtain ⟨uw, ps, ty, va, hX, u1, u2, t1, t2, hS, hx, hto, hF⟩ := id hk
  obtain ⟨s0, s1, s2, s3⟩ := id hS
  obtain ⟨⟨⟨a, hma, hua⟩, hps1, hty, hva⟩, hfs, hln, hob⟩ := id hx
  have hma : mt m = some a := hma
  have hps1 : ps t = p := hps1
  have hty : ∀ j, j < _ → ty (t * 12 + j) = R j := hty
  have hva : ∀ j, j < _ → j ≠ 6 → va (t * 12 + j) = V j := hva
  have hRo := hx.rob
  obtain ⟨hM, g1, g2, g3, g4, g5, g6, g7, g8⟩ : MeD σ a (D m) (MP m) (FH m) := (hwx.fr hF hmt).2.2.2 m a hma
  refine jl_ofE (as := [.ref 13]) rfl (by decide) hl (jl_cc rfl jl_ca) (Nat.le_of_ble_eq_true rfl) ?_
  show jl_E l G m_Ma_step (0, 0) 0 [some (.ref 13), none, none, none, none] [] (σ) P
  refine er_aload_n d_Ma_step_0 rfl ?_
  refine er_getf d_Ma_step_1 f_Ma_step_24 hX rfl ?_
  refine er_aload_n d_Ma_step_4 rfl ?_
  refine er_getf d_Ma_step_5 f_Ma_step_34 hX rfl ?_
  refine er_ialdQ (v := (nI (p))) d_Ma_step_8 u2 (by omega) (by omega) (congrArg nI hps1) ?_
  refine er_istore_n d_Ma_step_9 (by decide) ?_
  show jl_E l G m_Ma_step (0, 0) 10 [some (.ref 13), some (.int (nI p)), none, none, none] [] (σ) P
  refine er_aload_n d_Ma_step_10 rfl ?_
  refine er_getf d_Ma_step_11 f_Ma_step_20 hX rfl ?_
  refine er_aload_n d_Ma_step_14 rfl ?_
  refine er_getf d_Ma_step_15 f_Ma_step_34 hX rfl ?_
  refine er_aaldQ (v := some (a)) d_Ma_step_18 u1 (by omega) (by omega) (hua) ?_
  show jl_E l G m_Ma_step (0, 0) 19 [some (.ref 13), some (.int (nI p)), none, none, none] [.ref a] (σ) P
  refine er_getf d_Ma_step_19 f_Ma_step_94 hM rfl ?_
  refine er_iload_n d_Ma_step_22 rfl ?_
  refine er_ialdQ (v := (nI (14))) d_Ma_step_23 g1 (by omega) (by omega) (congrArg nI hop) ?_
  refine er_istore_n d_Ma_step_24 (by decide) ?_
  show jl_E l G m_Ma_step (0, 0) 25 [some (.ref 13), some (.int (nI p)), some (.int (nI 14)), none, none] [] (σ) P
  refine er_aload_n d_Ma_step_25 rfl ?_
  refine er_getf d_Ma_step_26 f_Ma_step_20 hX rfl ?_
  refine er_aload_n d_Ma_step_29 rfl ?_
  refine er_getf d_Ma_step_30 f_Ma_step_34 hX rfl ?_
  refine er_aaldQ (v := some (a)) d_Ma_step_33 u1 (by omega) (by omega) (hua) ?_
  show jl_E l G m_Ma_step (0, 0) 34 [some (.ref 13), some (.int (nI p)), some (.int (nI 14)), none, none] [.ref a] (σ) P
  refine er_getf d_Ma_step_34 f_Ma_step_97 hM rfl ?_
  refine er_iload_n d_Ma_step_37 rfl ?_
  refine er_ialdQ (v := (nI (n))) d_Ma_step_38 g2 (by omega) (by omega) (hag) ?_
  refine er_istore_n d_Ma_step_39 (by decide) ?_
  show jl_E l G m_Ma_step (0, 0) 40 [some (.ref 13), some (.int (nI p)), some (.int (nI 14)), some (.int (nI n)), none] [] (σ) P
  refine er_iload_n d_Ma_step_40 rfl ?_
  refine er_tableIn (off := 90) 131 d_Ma_step_41 (by decide +kernel) (by decide +kernel) (by decide +kernel) (by decide) ?_
  refine er_aload_n d_Ma_step_131 rfl ?_
  refine er_iload_n d_Ma_step_132 rfl ?_
  refine er_callVE (As := [.int (nI n)]) d_Ma_step_133 k_Ma_step_104 hX rfl rfl rfl (Nat.le_of_ble_eq_true rfl) (by decide) (by decide) (ma_call_o hl hk hwx hmt hok ht hh hb hc2 hn hts hD hp hpf hk6 hy hm2 hfd (fun e1 σ h1 => ⟨_, rfl, ?_⟩) (fun e1 σ h1 => ⟨_, rfl, ?_⟩))
  · skip
    show jl_E l G m_Ma_step (0, 0) 136 [some (.ref 13), some (.int (nI p)), some (.int (nI 14)), some (.int (nI n)), none] [] (σ) P
    refine er_goto 189 d_Ma_step_136 (by decide) ?_
    exact er_vret d_Ma_step_189 rfl (hT e1 _ h1) (by decide) (by decide)
  · skip
    show jl_E l G m_Ma_step (0, 0) 136 [some (.ref 13), some (.int (nI p)), some (.int (nI 14)), some (.int (nI n)), none] [] (σ) P
    refine er_goto 189 d_Ma_step_136 (by decide) ?_
    exact er_vret d_Ma_step_189 rfl (hF6 e1 _ h1) (by decide) (by decide)
theorem d_Ma_step_139 : decode m_Ma_step.2.1 139 = .ok (.aload_n 0, 1) := by decide +kernel
theorem k_Ma_step_108 : jl_cv m_Ma_step m_Ma_throwTaken 108 0 = true := by decide +kernel
theorem d_Ma_step_140 : decode m_Ma_step.2.1 140 = .ok (.invokevirtual 108, 3) := by decide +kernel
theorem d_Ma_step_143 : decode m_Ma_step.2.1 143 = .ok (.goto 46, 3) := by decide +kernel
theorem ma_st_17n (hl : l.stackTraces = false) {P : jl_O → jl_S → Prop}  (hk : KB σ0 mt σ (7 + (b + 1)) t m p (R) (V) (fs) (H) su dt dq aw) (hwx : WX σ0 tb pr ow fi ft mt sg D MP FH) (hmt : MtOk mt) (hok : WoOk tb pr ow fi) (ht : t < 12) (hp : p < 24) (hop : dop (D m) p = 17) (hag : dag (D m) p = (x)) (hD : ∀ m, mt m ≠ none → MdOk (D m)) (hpf : ∀ k ∈ fs, k.p < 24) (hh : R 6 = some (b + 1)) (hb : b + 1 ≤ 5) (hy : R (7 + b) = some 2) (hG : ∀ f' fs' σ', rse pr D (none) (-1) (⟨m, p, R, V⟩ :: fs) = some (f' :: fs') → KB σ0 mt σ' (7 + hgt f'.R) fs'.length f'.m f'.p f'.R f'.V fs' H su dt dq aw → P (.inl none) σ') (hE : rse pr D (none) (-1) (⟨m, p, R, V⟩ :: fs) = none → ∀ σ', KZ σ0 σ' H (nI 2) (nI 0) dq aw → P (.inl none) σ') : jl_mE l G m_Ma_step [.ref 13] σ P := by
  obtain ⟨uw, ps, ty, va, hX, u1, u2, t1, t2, hS, hx, hto, hF⟩ := id hk
  obtain ⟨s0, s1, s2, s3⟩ := id hS
  obtain ⟨⟨⟨a, hma, hua⟩, hps1, hty, hva⟩, hfs, hln, hob⟩ := id hx
  have hma : mt m = some a := hma
  have hps1 : ps t = p := hps1
  have hty : ∀ j, j < _ → ty (t * 12 + j) = R j := hty
  have hva : ∀ j, j < _ → j ≠ 6 → va (t * 12 + j) = V j := hva
  have hRo := hx.rob
  obtain ⟨hM, g1, g2, g3, g4, g5, g6, g7, g8⟩ : MeD σ a (D m) (MP m) (FH m) := (hwx.fr hF hmt).2.2.2 m a hma
  refine jl_ofE (as := [.ref 13]) rfl (by decide) hl (jl_cc rfl jl_ca) (Nat.le_of_ble_eq_true rfl) ?_
  show jl_E l G m_Ma_step (0, 0) 0 [some (.ref 13), none, none, none, none] [] (σ) P
  refine er_aload_n d_Ma_step_0 rfl ?_
  refine er_getf d_Ma_step_1 f_Ma_step_24 hX rfl ?_
  refine er_aload_n d_Ma_step_4 rfl ?_
  refine er_getf d_Ma_step_5 f_Ma_step_34 hX rfl ?_
  refine er_ialdQ (v := (nI (p))) d_Ma_step_8 u2 (by omega) (by omega) (congrArg nI hps1) ?_
  refine er_istore_n d_Ma_step_9 (by decide) ?_
  show jl_E l G m_Ma_step (0, 0) 10 [some (.ref 13), some (.int (nI p)), none, none, none] [] (σ) P
  refine er_aload_n d_Ma_step_10 rfl ?_
  refine er_getf d_Ma_step_11 f_Ma_step_20 hX rfl ?_
  refine er_aload_n d_Ma_step_14 rfl ?_
  refine er_getf d_Ma_step_15 f_Ma_step_34 hX rfl ?_
  refine er_aaldQ (v := some (a)) d_Ma_step_18 u1 (by omega) (by omega) (hua) ?_
  show jl_E l G m_Ma_step (0, 0) 19 [some (.ref 13), some (.int (nI p)), none, none, none] [.ref a] (σ) P
  refine er_getf d_Ma_step_19 f_Ma_step_94 hM rfl ?_
  refine er_iload_n d_Ma_step_22 rfl ?_
  refine er_ialdQ (v := (nI (17))) d_Ma_step_23 g1 (by omega) (by omega) (congrArg nI hop) ?_
  refine er_istore_n d_Ma_step_24 (by decide) ?_
  show jl_E l G m_Ma_step (0, 0) 25 [some (.ref 13), some (.int (nI p)), some (.int (nI 17)), none, none] [] (σ) P
  refine er_aload_n d_Ma_step_25 rfl ?_
  refine er_getf d_Ma_step_26 f_Ma_step_20 hX rfl ?_
  refine er_aload_n d_Ma_step_29 rfl ?_
  refine er_getf d_Ma_step_30 f_Ma_step_34 hX rfl ?_
  refine er_aaldQ (v := some (a)) d_Ma_step_33 u1 (by omega) (by omega) (hua) ?_
  show jl_E l G m_Ma_step (0, 0) 34 [some (.ref 13), some (.int (nI p)), some (.int (nI 17)), none, none] [.ref a] (σ) P
  refine er_getf d_Ma_step_34 f_Ma_step_97 hM rfl ?_
  refine er_iload_n d_Ma_step_37 rfl ?_
  refine er_ialdQ (v := (x)) d_Ma_step_38 g2 (by omega) (by omega) (hag) ?_
  refine er_istore_n d_Ma_step_39 (by decide) ?_
  show jl_E l G m_Ma_step (0, 0) 40 [some (.ref 13), some (.int (nI p)), some (.int (nI 17)), some (.int (x)), none] [] (σ) P
  refine er_iload_n d_Ma_step_40 rfl ?_
  refine er_tableIn (off := 98) 139 d_Ma_step_41 (by decide +kernel) (by decide +kernel) (by decide +kernel) (by decide) ?_
  refine er_aload_n d_Ma_step_139 rfl ?_
  refine er_callVE (As := []) d_Ma_step_140 k_Ma_step_108 hX rfl rfl rfl (Nat.le_of_ble_eq_true rfl) (by decide) (by decide) (ma_throw_n hl hk ht hh hb hwx hmt hok hD hp hpf hy (fun f1 fs1 σ e1 h1 => ⟨_, rfl, ?_⟩) (fun e1 σ h1 => ⟨_, rfl, ?_⟩))
  · skip
    show jl_E l G m_Ma_step (0, 0) 143 [some (.ref 13), some (.int (nI p)), some (.int (nI 17)), some (.int (x)), none] [] (σ) P
    refine er_goto 189 d_Ma_step_143 (by decide) ?_
    exact er_vret d_Ma_step_189 rfl (hG f1 fs1 _ e1 h1) (by decide) (by decide)
  · skip
    show jl_E l G m_Ma_step (0, 0) 143 [some (.ref 13), some (.int (nI p)), some (.int (nI 17)), some (.int (x)), none] [] (σ) P
    refine er_goto 189 d_Ma_step_143 (by decide) ?_
    exact er_vret d_Ma_step_189 rfl (hE e1 _ h1) (by decide) (by decide)
theorem ma_st_17o (hl : l.stackTraces = false) {P : jl_O → jl_S → Prop}  (hk : KB σ0 mt σ (7 + (b + 1)) t m p (R) (V) (fs) (H) su dt dq aw) (hwx : WX σ0 tb pr ow fi ft mt sg D MP FH) (hmt : MtOk mt) (hok : WoOk tb pr ow fi) (ht : t < 12) (hp : p < 24) (hop : dop (D m) p = 17) (hag : dag (D m) p = (x)) (hD : ∀ m, mt m ≠ none → MdOk (D m)) (hpf : ∀ k ∈ fs, k.p < 24) (hh : R 6 = some (b + 1)) (hb : b + 1 ≤ 5) (hy : ¬ R (7 + b) = some 2) (hG : ∀ f' fs' σ', rse pr D (R (7 + b)) (V (7 + b)) (⟨m, p, R, V⟩ :: fs) = some (f' :: fs') → KB σ0 mt σ' (7 + hgt f'.R) fs'.length f'.m f'.p f'.R f'.V fs' H su dt dq aw → P (.inl none) σ') (hE : rse pr D (R (7 + b)) (V (7 + b)) (⟨m, p, R, V⟩ :: fs) = none → ∀ σ', KZ σ0 σ' H (nI 7) (en (R (7 + b)) - nI 10) dq aw → P (.inl none) σ') : jl_mE l G m_Ma_step [.ref 13] σ P := by
  obtain ⟨uw, ps, ty, va, hX, u1, u2, t1, t2, hS, hx, hto, hF⟩ := id hk
  obtain ⟨s0, s1, s2, s3⟩ := id hS
  obtain ⟨⟨⟨a, hma, hua⟩, hps1, hty, hva⟩, hfs, hln, hob⟩ := id hx
  have hma : mt m = some a := hma
  have hps1 : ps t = p := hps1
  have hty : ∀ j, j < _ → ty (t * 12 + j) = R j := hty
  have hva : ∀ j, j < _ → j ≠ 6 → va (t * 12 + j) = V j := hva
  have hRo := hx.rob
  obtain ⟨hM, g1, g2, g3, g4, g5, g6, g7, g8⟩ : MeD σ a (D m) (MP m) (FH m) := (hwx.fr hF hmt).2.2.2 m a hma
  refine jl_ofE (as := [.ref 13]) rfl (by decide) hl (jl_cc rfl jl_ca) (Nat.le_of_ble_eq_true rfl) ?_
  show jl_E l G m_Ma_step (0, 0) 0 [some (.ref 13), none, none, none, none] [] (σ) P
  refine er_aload_n d_Ma_step_0 rfl ?_
  refine er_getf d_Ma_step_1 f_Ma_step_24 hX rfl ?_
  refine er_aload_n d_Ma_step_4 rfl ?_
  refine er_getf d_Ma_step_5 f_Ma_step_34 hX rfl ?_
  refine er_ialdQ (v := (nI (p))) d_Ma_step_8 u2 (by omega) (by omega) (congrArg nI hps1) ?_
  refine er_istore_n d_Ma_step_9 (by decide) ?_
  show jl_E l G m_Ma_step (0, 0) 10 [some (.ref 13), some (.int (nI p)), none, none, none] [] (σ) P
  refine er_aload_n d_Ma_step_10 rfl ?_
  refine er_getf d_Ma_step_11 f_Ma_step_20 hX rfl ?_
  refine er_aload_n d_Ma_step_14 rfl ?_
  refine er_getf d_Ma_step_15 f_Ma_step_34 hX rfl ?_
  refine er_aaldQ (v := some (a)) d_Ma_step_18 u1 (by omega) (by omega) (hua) ?_
  show jl_E l G m_Ma_step (0, 0) 19 [some (.ref 13), some (.int (nI p)), none, none, none] [.ref a] (σ) P
  refine er_getf d_Ma_step_19 f_Ma_step_94 hM rfl ?_
  refine er_iload_n d_Ma_step_22 rfl ?_
  refine er_ialdQ (v := (nI (17))) d_Ma_step_23 g1 (by omega) (by omega) (congrArg nI hop) ?_
  refine er_istore_n d_Ma_step_24 (by decide) ?_
  show jl_E l G m_Ma_step (0, 0) 25 [some (.ref 13), some (.int (nI p)), some (.int (nI 17)), none, none] [] (σ) P
  refine er_aload_n d_Ma_step_25 rfl ?_
  refine er_getf d_Ma_step_26 f_Ma_step_20 hX rfl ?_
  refine er_aload_n d_Ma_step_29 rfl ?_
  refine er_getf d_Ma_step_30 f_Ma_step_34 hX rfl ?_
  refine er_aaldQ (v := some (a)) d_Ma_step_33 u1 (by omega) (by omega) (hua) ?_
  show jl_E l G m_Ma_step (0, 0) 34 [some (.ref 13), some (.int (nI p)), some (.int (nI 17)), none, none] [.ref a] (σ) P
  refine er_getf d_Ma_step_34 f_Ma_step_97 hM rfl ?_
  refine er_iload_n d_Ma_step_37 rfl ?_
  refine er_ialdQ (v := (x)) d_Ma_step_38 g2 (by omega) (by omega) (hag) ?_
  refine er_istore_n d_Ma_step_39 (by decide) ?_
  show jl_E l G m_Ma_step (0, 0) 40 [some (.ref 13), some (.int (nI p)), some (.int (nI 17)), some (.int (x)), none] [] (σ) P
  refine er_iload_n d_Ma_step_40 rfl ?_
  refine er_tableIn (off := 98) 139 d_Ma_step_41 (by decide +kernel) (by decide +kernel) (by decide +kernel) (by decide) ?_
  refine er_aload_n d_Ma_step_139 rfl ?_
  refine er_callVE (As := []) d_Ma_step_140 k_Ma_step_108 hX rfl rfl rfl (Nat.le_of_ble_eq_true rfl) (by decide) (by decide) (ma_throw_o hl hk ht hh hb hwx hmt hok hD hp hpf hy (fun f1 fs1 σ e1 h1 => ⟨_, rfl, ?_⟩) (fun e1 σ h1 => ⟨_, rfl, ?_⟩))
  · skip
    show jl_E l G m_Ma_step (0, 0) 143 [some (.ref 13), some (.int (nI p)), some (.int (nI 17)), some (.int (x)), none] [] (σ) P
    refine er_goto 189 d_Ma_step_143 (by decide) ?_
    exact er_vret d_Ma_step_189 rfl (hG f1 fs1 _ e1 h1) (by decide) (by decide)
  · skip
    show jl_E l G m_Ma_step (0, 0) 143 [some (.ref 13), some (.int (nI p)), some (.int (nI 17)), some (.int (x)), none] [] (σ) P
    refine er_goto 189 d_Ma_step_143 (by decide) ?_
    exact er_vret d_Ma_step_189 rfl (hE e1 _ h1) (by decide) (by decide)
theorem d_Ma_step_146 : decode m_Ma_step.2.1 146 = .ok (.aload_n 0, 1) := by decide +kernel
theorem k_Ma_step_111 : jl_cv m_Ma_step m_Ma_leave 111 0 = true := by decide +kernel
theorem d_Ma_step_147 : decode m_Ma_step.2.1 147 = .ok (.invokevirtual 111, 3) := by decide +kernel
theorem d_Ma_step_150 : decode m_Ma_step.2.1 150 = .ok (.goto 39, 3) := by decide +kernel
theorem ma_st_18z (hl : l.stackTraces = false) {P : jl_O → jl_S → Prop}  (hk : KB σ0 mt σ (7 + (b + 1)) t m p (R) (V) (fs) (H) su dt dq aw) (hwx : WX σ0 tb pr ow fi ft mt sg D MP FH) (hmt : MtOk mt) (hok : WoOk tb pr ow fi) (ht : t < 12) (hp : p < 24) (hop : dop (D m) p = 18) (hag : dag (D m) p = (x)) (hh : R 6 = some (b + 1)) (hb : b + 1 ≤ 5) (h0 : t = 0) (hT : ∀ σ', KZ σ0 σ' H (nI 0) (nI 0) dq (V (7 + b)) → P (.inl none) σ') : jl_mE l G m_Ma_step [.ref 13] σ P := by
  obtain ⟨uw, ps, ty, va, hX, u1, u2, t1, t2, hS, hx, hto, hF⟩ := id hk
  obtain ⟨s0, s1, s2, s3⟩ := id hS
  obtain ⟨⟨⟨a, hma, hua⟩, hps1, hty, hva⟩, hfs, hln, hob⟩ := id hx
  have hma : mt m = some a := hma
  have hps1 : ps t = p := hps1
  have hty : ∀ j, j < _ → ty (t * 12 + j) = R j := hty
  have hva : ∀ j, j < _ → j ≠ 6 → va (t * 12 + j) = V j := hva
  have hRo := hx.rob
  obtain ⟨hM, g1, g2, g3, g4, g5, g6, g7, g8⟩ : MeD σ a (D m) (MP m) (FH m) := (hwx.fr hF hmt).2.2.2 m a hma
  refine jl_ofE (as := [.ref 13]) rfl (by decide) hl (jl_cc rfl jl_ca) (Nat.le_of_ble_eq_true rfl) ?_
  show jl_E l G m_Ma_step (0, 0) 0 [some (.ref 13), none, none, none, none] [] (σ) P
  refine er_aload_n d_Ma_step_0 rfl ?_
  refine er_getf d_Ma_step_1 f_Ma_step_24 hX rfl ?_
  refine er_aload_n d_Ma_step_4 rfl ?_
  refine er_getf d_Ma_step_5 f_Ma_step_34 hX rfl ?_
  refine er_ialdQ (v := (nI (p))) d_Ma_step_8 u2 (by omega) (by omega) (congrArg nI hps1) ?_
  refine er_istore_n d_Ma_step_9 (by decide) ?_
  show jl_E l G m_Ma_step (0, 0) 10 [some (.ref 13), some (.int (nI p)), none, none, none] [] (σ) P
  refine er_aload_n d_Ma_step_10 rfl ?_
  refine er_getf d_Ma_step_11 f_Ma_step_20 hX rfl ?_
  refine er_aload_n d_Ma_step_14 rfl ?_
  refine er_getf d_Ma_step_15 f_Ma_step_34 hX rfl ?_
  refine er_aaldQ (v := some (a)) d_Ma_step_18 u1 (by omega) (by omega) (hua) ?_
  show jl_E l G m_Ma_step (0, 0) 19 [some (.ref 13), some (.int (nI p)), none, none, none] [.ref a] (σ) P
  refine er_getf d_Ma_step_19 f_Ma_step_94 hM rfl ?_
  refine er_iload_n d_Ma_step_22 rfl ?_
  refine er_ialdQ (v := (nI (18))) d_Ma_step_23 g1 (by omega) (by omega) (congrArg nI hop) ?_
  refine er_istore_n d_Ma_step_24 (by decide) ?_
  show jl_E l G m_Ma_step (0, 0) 25 [some (.ref 13), some (.int (nI p)), some (.int (nI 18)), none, none] [] (σ) P
  refine er_aload_n d_Ma_step_25 rfl ?_
  refine er_getf d_Ma_step_26 f_Ma_step_20 hX rfl ?_
  refine er_aload_n d_Ma_step_29 rfl ?_
  refine er_getf d_Ma_step_30 f_Ma_step_34 hX rfl ?_
  refine er_aaldQ (v := some (a)) d_Ma_step_33 u1 (by omega) (by omega) (hua) ?_
  show jl_E l G m_Ma_step (0, 0) 34 [some (.ref 13), some (.int (nI p)), some (.int (nI 18)), none, none] [.ref a] (σ) P
  refine er_getf d_Ma_step_34 f_Ma_step_97 hM rfl ?_
  refine er_iload_n d_Ma_step_37 rfl ?_
  refine er_ialdQ (v := (x)) d_Ma_step_38 g2 (by omega) (by omega) (hag) ?_
  refine er_istore_n d_Ma_step_39 (by decide) ?_
  show jl_E l G m_Ma_step (0, 0) 40 [some (.ref 13), some (.int (nI p)), some (.int (nI 18)), some (.int (x)), none] [] (σ) P
  refine er_iload_n d_Ma_step_40 rfl ?_
  refine er_tableIn (off := 105) 146 d_Ma_step_41 (by decide +kernel) (by decide +kernel) (by decide +kernel) (by decide) ?_
  refine er_aload_n d_Ma_step_146 rfl ?_
  refine er_callVE (As := []) d_Ma_step_147 k_Ma_step_111 hX rfl rfl rfl (Nat.le_of_ble_eq_true rfl) (by decide) (by decide) (ma_leave_0 hl hk ht hh hb h0 (fun σ h1 => ⟨_, rfl, ?_⟩))
  show jl_E l G m_Ma_step (0, 0) 150 [some (.ref 13), some (.int (nI p)), some (.int (nI 18)), some (.int (x)), none] [] (σ) P
  refine er_goto 189 d_Ma_step_150 (by decide) ?_
  exact er_vret d_Ma_step_189 rfl (hT _ h1) (by decide) (by decide)
theorem ma_st_18s (hl : l.stackTraces = false) {P : jl_O → jl_S → Prop}  (hk : KB σ0 mt σ (7 + (b + 1)) t m p (R) (V) (g :: fs) (H) su dt dq aw) (hwx : WX σ0 tb pr ow fi ft mt sg D MP FH) (hmt : MtOk mt) (hok : WoOk tb pr ow fi) (ht : t < 12) (hp : p < 24) (hop : dop (D m) p = 18) (hag : dag (D m) p = (x)) (hh : R 6 = some (b + 1)) (hb : b + 1 ≤ 5) (hg6 : g.R 6 = some (hgt g.R)) (hg4 : hgt g.R ≤ 4) (hT : ∀ σ', KB σ0 mt σ' (8 + hgt g.R) fs.length g.m (g.p + 1) (psh g.R (hgt g.R) (R (7 + b))) (va_up g.V (7 + hgt g.R) (V (7 + b))) fs H su dt dq aw → P (.inl none) σ') : jl_mE l G m_Ma_step [.ref 13] σ P := by
  obtain ⟨uw, ps, ty, va, hX, u1, u2, t1, t2, hS, hx, hto, hF⟩ := id hk
  obtain ⟨s0, s1, s2, s3⟩ := id hS
  obtain ⟨⟨⟨a, hma, hua⟩, hps1, hty, hva⟩, hfs, hln, hob⟩ := id hx
  have hma : mt m = some a := hma
  have hps1 : ps t = p := hps1
  have hty : ∀ j, j < _ → ty (t * 12 + j) = R j := hty
  have hva : ∀ j, j < _ → j ≠ 6 → va (t * 12 + j) = V j := hva
  have hRo := hx.rob
  obtain ⟨hM, g1, g2, g3, g4, g5, g6, g7, g8⟩ : MeD σ a (D m) (MP m) (FH m) := (hwx.fr hF hmt).2.2.2 m a hma
  refine jl_ofE (as := [.ref 13]) rfl (by decide) hl (jl_cc rfl jl_ca) (Nat.le_of_ble_eq_true rfl) ?_
  show jl_E l G m_Ma_step (0, 0) 0 [some (.ref 13), none, none, none, none] [] (σ) P
  refine er_aload_n d_Ma_step_0 rfl ?_
  refine er_getf d_Ma_step_1 f_Ma_step_24 hX rfl ?_
  refine er_aload_n d_Ma_step_4 rfl ?_
  refine er_getf d_Ma_step_5 f_Ma_step_34 hX rfl ?_
  refine er_ialdQ (v := (nI (p))) d_Ma_step_8 u2 (by omega) (by omega) (congrArg nI hps1) ?_
  refine er_istore_n d_Ma_step_9 (by decide) ?_
  show jl_E l G m_Ma_step (0, 0) 10 [some (.ref 13), some (.int (nI p)), none, none, none] [] (σ) P
  refine er_aload_n d_Ma_step_10 rfl ?_
  refine er_getf d_Ma_step_11 f_Ma_step_20 hX rfl ?_
  refine er_aload_n d_Ma_step_14 rfl ?_
  refine er_getf d_Ma_step_15 f_Ma_step_34 hX rfl ?_
  refine er_aaldQ (v := some (a)) d_Ma_step_18 u1 (by omega) (by omega) (hua) ?_
  show jl_E l G m_Ma_step (0, 0) 19 [some (.ref 13), some (.int (nI p)), none, none, none] [.ref a] (σ) P
  refine er_getf d_Ma_step_19 f_Ma_step_94 hM rfl ?_
  refine er_iload_n d_Ma_step_22 rfl ?_
  refine er_ialdQ (v := (nI (18))) d_Ma_step_23 g1 (by omega) (by omega) (congrArg nI hop) ?_
  refine er_istore_n d_Ma_step_24 (by decide) ?_
  show jl_E l G m_Ma_step (0, 0) 25 [some (.ref 13), some (.int (nI p)), some (.int (nI 18)), none, none] [] (σ) P
  refine er_aload_n d_Ma_step_25 rfl ?_
  refine er_getf d_Ma_step_26 f_Ma_step_20 hX rfl ?_
  refine er_aload_n d_Ma_step_29 rfl ?_
  refine er_getf d_Ma_step_30 f_Ma_step_34 hX rfl ?_
  refine er_aaldQ (v := some (a)) d_Ma_step_33 u1 (by omega) (by omega) (hua) ?_
  show jl_E l G m_Ma_step (0, 0) 34 [some (.ref 13), some (.int (nI p)), some (.int (nI 18)), none, none] [.ref a] (σ) P
  refine er_getf d_Ma_step_34 f_Ma_step_97 hM rfl ?_
  refine er_iload_n d_Ma_step_37 rfl ?_
  refine er_ialdQ (v := (x)) d_Ma_step_38 g2 (by omega) (by omega) (hag) ?_
  refine er_istore_n d_Ma_step_39 (by decide) ?_
  show jl_E l G m_Ma_step (0, 0) 40 [some (.ref 13), some (.int (nI p)), some (.int (nI 18)), some (.int (x)), none] [] (σ) P
  refine er_iload_n d_Ma_step_40 rfl ?_
  refine er_tableIn (off := 105) 146 d_Ma_step_41 (by decide +kernel) (by decide +kernel) (by decide +kernel) (by decide) ?_
  refine er_aload_n d_Ma_step_146 rfl ?_
  refine er_callVE (As := []) d_Ma_step_147 k_Ma_step_111 hX rfl rfl rfl (Nat.le_of_ble_eq_true rfl) (by decide) (by decide) (ma_leave_s hl hk ht hh hb hg6 hg4 (fun σ h1 => ⟨_, rfl, ?_⟩))
  show jl_E l G m_Ma_step (0, 0) 150 [some (.ref 13), some (.int (nI p)), some (.int (nI 18)), some (.int (x)), none] [] (σ) P
  refine er_goto 189 d_Ma_step_150 (by decide) ?_
  exact er_vret d_Ma_step_189 rfl (hT _ h1) (by decide) (by decide)
theorem d_Ma_step_153 : decode m_Ma_step.2.1 153 = .ok (.aload_n 0, 1) := by decide +kernel
theorem d_Ma_step_154 : decode m_Ma_step.2.1 154 = .ok (.iload_n 2, 1) := by decide +kernel
theorem d_Ma_step_155 : decode m_Ma_step.2.1 155 = .ok (.iload_n 3, 1) := by decide +kernel
theorem k_Ma_step_114 : jl_cv m_Ma_step m_Ma_actOnStack 114 2 = true := by decide +kernel
theorem d_Ma_step_156 : decode m_Ma_step.2.1 156 = .ok (.invokevirtual 114, 3) := by decide +kernel
theorem d_Ma_step_159 : decode m_Ma_step.2.1 159 = .ok (.istore 4, 2) := by decide +kernel
theorem d_Ma_step_161 : decode m_Ma_step.2.1 161 = .ok (.iload 4, 2) := by decide +kernel
theorem d_Ma_step_163 : decode m_Ma_step.2.1 163 = .ok (.ifCond .ne 18, 3) := by decide +kernel
theorem d_Ma_step_166 : decode m_Ma_step.2.1 166 = .ok (.aload_n 0, 1) := by decide +kernel
theorem d_Ma_step_167 : decode m_Ma_step.2.1 167 = .ok (.getfield 24, 3) := by decide +kernel
theorem d_Ma_step_170 : decode m_Ma_step.2.1 170 = .ok (.aload_n 0, 1) := by decide +kernel
theorem d_Ma_step_171 : decode m_Ma_step.2.1 171 = .ok (.getfield 34, 3) := by decide +kernel
theorem d_Ma_step_174 : decode m_Ma_step.2.1 174 = .ok (.iload_n 1, 1) := by decide +kernel
theorem d_Ma_step_175 : decode m_Ma_step.2.1 175 = .ok (.iconst 1, 1) := by decide +kernel
theorem d_Ma_step_176 : decode m_Ma_step.2.1 176 = .ok (.iadd, 1) := by decide +kernel
theorem d_Ma_step_177 : decode m_Ma_step.2.1 177 = .ok (.iastore, 1) := by decide +kernel
theorem d_Ma_step_178 : decode m_Ma_step.2.1 178 = .ok (.goto 11, 3) := by decide +kernel
theorem d_Ma_step_181 : decode m_Ma_step.2.1 181 = .ok (.aload_n 0, 1) := by decide +kernel
theorem d_Ma_step_182 : decode m_Ma_step.2.1 182 = .ok (.iload 4, 2) := by decide +kernel
theorem d_Ma_step_184 : decode m_Ma_step.2.1 184 = .ok (.iconst (-1), 1) := by decide +kernel
theorem d_Ma_step_185 : decode m_Ma_step.2.1 185 = .ok (.iconst (-1), 1) := by decide +kernel
theorem k_Ma_step_118 : jl_cv m_Ma_step m_Ma_raise 118 3 = true := by decide +kernel
theorem d_Ma_step_186 : decode m_Ma_step.2.1 186 = .ok (.invokevirtual 118, 3) := by decide +kernel
theorem ma_st_0 (hl : l.stackTraces = false) {P : jl_O → jl_S → Prop}  (hk : KB σ0 mt σ (7 + b) t m p (R) (V) (fs) (H) su dt dq aw) (hwx : WX σ0 tb pr ow fi ft mt sg D MP FH) (hmt : MtOk mt) (hok : WoOk tb pr ow fi) (ht : t < 12) (hp : p < 24) (hop : dop (D m) p = 0) (hag : dag (D m) p = (x)) (hD : ∀ m, mt m ≠ none → MdOk (D m)) (hpf : ∀ k ∈ fs, k.p < 24) (hft : ∀ k f, tyv (some (fty pr fi ft k f))) (hm40 : H.n ≤ 40) (hz18 : ∀ j, H.sz j ≤ 18) (hh : R 6 = some (b)) (hb : b ≤ 5) (hpt : b + pts 0 ≤ 5) (hf : fit tb 0 x R V b H) (hO : ∀ R' V' H' σ', ins pr ow fi ft 0 x R V b H = .ok R' V' H' → KB σ0 mt σ' (7 + hgt R') t m (p + 1) R' V' fs H' su dt dq aw → P (.inl none) σ') (hG : ∀ n f' fs' σ', ins pr ow fi ft 0 x R V b H = .sg n → rse pr D none (-1) (⟨m, p, R, V⟩ :: fs) = some (f' :: fs') → KB σ0 mt σ' (7 + hgt f'.R) fs'.length f'.m f'.p f'.R f'.V fs' H su dt dq aw → P (.inl none) σ') (hE : ∀ n σ', ins pr ow fi ft 0 x R V b H = .sg n → rse pr D none (-1) (⟨m, p, R, V⟩ :: fs) = none → KZ σ0 σ' H (nI n) (nI 0) dq aw → P (.inl none) σ') (hF6 : ∀ σ', ins pr ow fi ft 0 x R V b H = .full → KZ σ0 σ' H (nI 6) (nI 0) dq aw → P (.inl none) σ') : jl_mE l G m_Ma_step [.ref 13] σ P := by
  obtain ⟨uw, ps, ty, va, hX, u1, u2, t1, t2, hS, hx, hto, hF⟩ := id hk
  obtain ⟨s0, s1, s2, s3⟩ := id hS
  obtain ⟨⟨⟨a, hma, hua⟩, hps1, hty, hva⟩, hfs, hln, hob⟩ := id hx
  have hma : mt m = some a := hma
  have hps1 : ps t = p := hps1
  have hty : ∀ j, j < _ → ty (t * 12 + j) = R j := hty
  have hva : ∀ j, j < _ → j ≠ 6 → va (t * 12 + j) = V j := hva
  have hRo := hx.rob
  obtain ⟨hM, g1, g2, g3, g4, g5, g6, g7, g8⟩ : MeD σ a (D m) (MP m) (FH m) := (hwx.fr hF hmt).2.2.2 m a hma
  refine jl_ofE (as := [.ref 13]) rfl (by decide) hl (jl_cc rfl jl_ca) (Nat.le_of_ble_eq_true rfl) ?_
  show jl_E l G m_Ma_step (0, 0) 0 [some (.ref 13), none, none, none, none] [] (σ) P
  refine er_aload_n d_Ma_step_0 rfl ?_
  refine er_getf d_Ma_step_1 f_Ma_step_24 hX rfl ?_
  refine er_aload_n d_Ma_step_4 rfl ?_
  refine er_getf d_Ma_step_5 f_Ma_step_34 hX rfl ?_
  refine er_ialdQ (v := (nI (p))) d_Ma_step_8 u2 (by omega) (by omega) (congrArg nI hps1) ?_
  refine er_istore_n d_Ma_step_9 (by decide) ?_
  show jl_E l G m_Ma_step (0, 0) 10 [some (.ref 13), some (.int (nI p)), none, none, none] [] (σ) P
  refine er_aload_n d_Ma_step_10 rfl ?_
  refine er_getf d_Ma_step_11 f_Ma_step_20 hX rfl ?_
  refine er_aload_n d_Ma_step_14 rfl ?_
  refine er_getf d_Ma_step_15 f_Ma_step_34 hX rfl ?_
  refine er_aaldQ (v := some (a)) d_Ma_step_18 u1 (by omega) (by omega) (hua) ?_
  show jl_E l G m_Ma_step (0, 0) 19 [some (.ref 13), some (.int (nI p)), none, none, none] [.ref a] (σ) P
  refine er_getf d_Ma_step_19 f_Ma_step_94 hM rfl ?_
  refine er_iload_n d_Ma_step_22 rfl ?_
  refine er_ialdQ (v := (nI (0))) d_Ma_step_23 g1 (by omega) (by omega) (congrArg nI hop) ?_
  refine er_istore_n d_Ma_step_24 (by decide) ?_
  show jl_E l G m_Ma_step (0, 0) 25 [some (.ref 13), some (.int (nI p)), some (.int (nI 0)), none, none] [] (σ) P
  refine er_aload_n d_Ma_step_25 rfl ?_
  refine er_getf d_Ma_step_26 f_Ma_step_20 hX rfl ?_
  refine er_aload_n d_Ma_step_29 rfl ?_
  refine er_getf d_Ma_step_30 f_Ma_step_34 hX rfl ?_
  refine er_aaldQ (v := some (a)) d_Ma_step_33 u1 (by omega) (by omega) (hua) ?_
  show jl_E l G m_Ma_step (0, 0) 34 [some (.ref 13), some (.int (nI p)), some (.int (nI 0)), none, none] [.ref a] (σ) P
  refine er_getf d_Ma_step_34 f_Ma_step_97 hM rfl ?_
  refine er_iload_n d_Ma_step_37 rfl ?_
  refine er_ialdQ (v := (x)) d_Ma_step_38 g2 (by omega) (by omega) (hag) ?_
  refine er_istore_n d_Ma_step_39 (by decide) ?_
  show jl_E l G m_Ma_step (0, 0) 40 [some (.ref 13), some (.int (nI p)), some (.int (nI 0)), some (.int (x)), none] [] (σ) P
  refine er_iload_n d_Ma_step_40 rfl ?_
  refine er_tableOut 153 d_Ma_step_41 (by decide +kernel) (by decide) ?_
  refine er_aload_n d_Ma_step_153 rfl ?_
  refine er_iload_n d_Ma_step_154 rfl ?_
  refine er_iload_n d_Ma_step_155 rfl ?_
  refine er_callVE (As := [.int (nI 0), .int (x)]) d_Ma_step_156 k_Ma_step_114 hX rfl rfl rfl (Nat.le_of_ble_eq_true rfl) (by decide) (by decide) (ma_ins_0 hl hwx hmt hok hft ht hm40 hz18 hk hh hb hpt hf (fun R1 V1 H1 σ e1 hk1 => ⟨_, rfl, ?_⟩) (fun n σ e1 hk1 => ⟨_, rfl, ?_⟩) (fun σ e1 hk1 => ⟨_, rfl, ?_⟩))
  · skip
    obtain ⟨uw, ps, ty, va, hX, u1, u2, t1, t2, hS, hx, hto, hF⟩ := id hk1
    obtain ⟨s0, s1, s2, s3⟩ := id hS
    show jl_E l G m_Ma_step (0, 0) 159 [some (.ref 13), some (.int (nI p)), some (.int (nI 0)), some (.int (x)), none] [.int (nI 0)] (σ) P
    refine er_istore d_Ma_step_159 (by decide) ?_
    show jl_E l G m_Ma_step (0, 0) 161 [some (.ref 13), some (.int (nI p)), some (.int (nI 0)), some (.int (x)), some (.int (nI 0))] [] (σ) P
    refine er_iload d_Ma_step_161 rfl ?_
    refine er_if_ne 181 d_Ma_step_163 (by decide) (fun z => absurd rfl z) (fun _ => ?_)
    refine er_aload_n d_Ma_step_166 rfl ?_
    refine er_getf d_Ma_step_167 f_Ma_step_24 hX rfl ?_
    refine er_aload_n d_Ma_step_170 rfl ?_
    refine er_getf d_Ma_step_171 f_Ma_step_34 hX rfl ?_
    refine er_iload_n d_Ma_step_174 rfl ?_
    refine er_iconst ((nI (1))) d_Ma_step_175 (by decide) ?_
    refine er_iaddN d_Ma_step_176 ?_
    refine er_iastN d_Ma_step_177 u2 (by omega) (by omega) ?_
    rw [show upd (fun j => nI (ps j)) (t) ((nI ((p) + (1)))) = (fun j => nI ((va_up ps (t) ((p) + (1))) j)) from nI_up ps (t) ((p) + (1))]
    show jl_E l G m_Ma_step (0, 0) 178 [some (.ref 13), some (.int (nI p)), some (.int (nI 0)), some (.int (x)), some (.int (nI 0))] [] (σ.set (19) (.inl (0, 12, .inl (fun j => nI ((va_up ps (t) ((p) + (1))) j))))) P
    refine er_goto 189 d_Ma_step_178 (by decide) ?_
    exact er_vret d_Ma_step_189 rfl (hO R1 V1 H1 _ e1 ⟨_, _, _, _, (jl_sn (by decide) hX), (jl_sn (by decide) u1), (jl_ss u2), (jl_sn (by decide) t1), (jl_sn (by decide) t2), ⟨(jl_sn (by decide) s0), (jl_sn (by decide) s1), (jl_sn (by decide) s2), (jl_sn (by decide) s3)⟩, (hx.pc), hto, (hF.set (by omega))⟩) (by decide) (by decide)
  · skip
    have hn14 := ins_sg e1
    obtain ⟨uw, ps, ty, va, hX, u1, u2, t1, t2, hS, hx, hto, hF⟩ := id hk1
    obtain ⟨s0, s1, s2, s3⟩ := id hS
    show jl_E l G m_Ma_step (0, 0) 159 [some (.ref 13), some (.int (nI p)), some (.int (nI 0)), some (.int (x)), none] [.int (nI n)] (σ) P
    refine er_istore d_Ma_step_159 (by decide) ?_
    show jl_E l G m_Ma_step (0, 0) 161 [some (.ref 13), some (.int (nI p)), some (.int (nI 0)), some (.int (x)), some (.int (nI n))] [] (σ) P
    refine er_iload d_Ma_step_161 rfl ?_
    refine er_if_ne 181 d_Ma_step_163 (by decide) (fun _ => ?_) (fun z => absurd z ((fun z => by have z2 : nI n = nI 0 := z.trans nI_0k.symm; rw [nI_eq (by omega) (by omega)] at z2; omega)))
    refine er_aload_n d_Ma_step_181 rfl ?_
    refine er_iload d_Ma_step_182 rfl ?_
    refine er_iconst ((-1)) d_Ma_step_184 (by decide) ?_
    refine er_iconst ((-1)) d_Ma_step_185 (by decide) ?_
    refine er_callVE (As := [.int (nI n), .int (-1), .int (-1)]) d_Ma_step_186 k_Ma_step_118 hX rfl rfl rfl (Nat.le_of_ble_eq_true rfl) (by decide) (by decide) (ma_raise (y := none) (v := -1) (n := n) (R := R) (V := V) hl hk1 hwx hmt hok hD (fun _ q => by cases q) (by omega) ht hp hpf (fun f1 fs1 σ e2 h1 => ⟨_, rfl, ?_⟩) (fun e2 σ h1 => ⟨_, rfl, ?_⟩))
    · skip
      show jl_E l G m_Ma_step (0, 0) 189 [some (.ref 13), some (.int (nI p)), some (.int (nI 0)), some (.int (x)), some (.int (nI n))] [] (σ) P
      exact er_vret d_Ma_step_189 rfl (hG n f1 fs1 _ e1 e2 h1) (by decide) (by decide)
    · skip
      show jl_E l G m_Ma_step (0, 0) 189 [some (.ref 13), some (.int (nI p)), some (.int (nI 0)), some (.int (x)), some (.int (nI n))] [] (σ) P
      exact er_vret d_Ma_step_189 rfl (hE n _ e1 e2 (by have z := h1; rw [if_neg (by omega)] at z; exact z)) (by decide) (by decide)
  · skip
    obtain ⟨uw, ps, ty, va, hX, u1, u2, t1, t2, hS, hx, hto, hF⟩ := id hk1
    obtain ⟨s0, s1, s2, s3⟩ := id hS
    show jl_E l G m_Ma_step (0, 0) 159 [some (.ref 13), some (.int (nI p)), some (.int (nI 0)), some (.int (x)), none] [.int (nI 0)] (σ) P
    refine er_istore d_Ma_step_159 (by decide) ?_
    show jl_E l G m_Ma_step (0, 0) 161 [some (.ref 13), some (.int (nI p)), some (.int (nI 0)), some (.int (x)), some (.int (nI 0))] [] (σ) P
    refine er_iload d_Ma_step_161 rfl ?_
    refine er_if_ne 181 d_Ma_step_163 (by decide) (fun z => absurd rfl z) (fun _ => ?_)
    refine er_aload_n d_Ma_step_166 rfl ?_
    refine er_getf d_Ma_step_167 f_Ma_step_24 hX rfl ?_
    refine er_aload_n d_Ma_step_170 rfl ?_
    refine er_getf d_Ma_step_171 f_Ma_step_34 hX rfl ?_
    refine er_iload_n d_Ma_step_174 rfl ?_
    refine er_iconst ((nI (1))) d_Ma_step_175 (by decide) ?_
    refine er_iaddN d_Ma_step_176 ?_
    refine er_iastN d_Ma_step_177 u2 (by omega) (by omega) ?_
    rw [show upd (fun j => nI (ps j)) (t) ((nI ((p) + (1)))) = (fun j => nI ((va_up ps (t) ((p) + (1))) j)) from nI_up ps (t) ((p) + (1))]
    show jl_E l G m_Ma_step (0, 0) 178 [some (.ref 13), some (.int (nI p)), some (.int (nI 0)), some (.int (x)), some (.int (nI 0))] [] (σ.set (19) (.inl (0, 12, .inl (fun j => nI ((va_up ps (t) ((p) + (1))) j))))) P
    refine er_goto 189 d_Ma_step_178 (by decide) ?_
    exact er_vret d_Ma_step_189 rfl (hF6 _ e1 (KB.kz (N := 6) (R := R) (V := V) (mt := mt) (m := m) (p := p + 1) (t := t) (fs := fs) ⟨_, _, _, _, (jl_sn (by decide) hX), (jl_sn (by decide) u1), (jl_ss u2), (jl_sn (by decide) t1), (jl_sn (by decide) t2), ⟨(jl_sn (by decide) s0), (jl_sn (by decide) s1), (jl_sn (by decide) s2), (jl_sn (by decide) s3)⟩, (hx.pc), hto, (hF.set (by omega))⟩)) (by decide) (by decide)
theorem ma_st_1 (hl : l.stackTraces = false) {P : jl_O → jl_S → Prop}  (hk : KB σ0 mt σ (7 + b) t m p (R) (V) (fs) (H) su dt dq aw) (hwx : WX σ0 tb pr ow fi ft mt sg D MP FH) (hmt : MtOk mt) (hok : WoOk tb pr ow fi) (ht : t < 12) (hp : p < 24) (hop : dop (D m) p = 1) (hag : dag (D m) p = (x)) (hD : ∀ m, mt m ≠ none → MdOk (D m)) (hpf : ∀ k ∈ fs, k.p < 24) (hft : ∀ k f, tyv (some (fty pr fi ft k f))) (hm40 : H.n ≤ 40) (hz18 : ∀ j, H.sz j ≤ 18) (hh : R 6 = some (b)) (hb : b ≤ 5) (hpt : b + pts 1 ≤ 5) (hf : fit tb 1 x R V b H) (hO : ∀ R' V' H' σ', ins pr ow fi ft 1 x R V b H = .ok R' V' H' → KB σ0 mt σ' (7 + hgt R') t m (p + 1) R' V' fs H' su dt dq aw → P (.inl none) σ') (hG : ∀ n f' fs' σ', ins pr ow fi ft 1 x R V b H = .sg n → rse pr D none (-1) (⟨m, p, R, V⟩ :: fs) = some (f' :: fs') → KB σ0 mt σ' (7 + hgt f'.R) fs'.length f'.m f'.p f'.R f'.V fs' H su dt dq aw → P (.inl none) σ') (hE : ∀ n σ', ins pr ow fi ft 1 x R V b H = .sg n → rse pr D none (-1) (⟨m, p, R, V⟩ :: fs) = none → KZ σ0 σ' H (nI n) (nI 0) dq aw → P (.inl none) σ') (hF6 : ∀ σ', ins pr ow fi ft 1 x R V b H = .full → KZ σ0 σ' H (nI 6) (nI 0) dq aw → P (.inl none) σ') : jl_mE l G m_Ma_step [.ref 13] σ P := by
  obtain ⟨uw, ps, ty, va, hX, u1, u2, t1, t2, hS, hx, hto, hF⟩ := id hk
  obtain ⟨s0, s1, s2, s3⟩ := id hS
  obtain ⟨⟨⟨a, hma, hua⟩, hps1, hty, hva⟩, hfs, hln, hob⟩ := id hx
  have hma : mt m = some a := hma
  have hps1 : ps t = p := hps1
  have hty : ∀ j, j < _ → ty (t * 12 + j) = R j := hty
  have hva : ∀ j, j < _ → j ≠ 6 → va (t * 12 + j) = V j := hva
  have hRo := hx.rob
  obtain ⟨hM, g1, g2, g3, g4, g5, g6, g7, g8⟩ : MeD σ a (D m) (MP m) (FH m) := (hwx.fr hF hmt).2.2.2 m a hma
  refine jl_ofE (as := [.ref 13]) rfl (by decide) hl (jl_cc rfl jl_ca) (Nat.le_of_ble_eq_true rfl) ?_
  show jl_E l G m_Ma_step (0, 0) 0 [some (.ref 13), none, none, none, none] [] (σ) P
  refine er_aload_n d_Ma_step_0 rfl ?_
  refine er_getf d_Ma_step_1 f_Ma_step_24 hX rfl ?_
  refine er_aload_n d_Ma_step_4 rfl ?_
  refine er_getf d_Ma_step_5 f_Ma_step_34 hX rfl ?_
  refine er_ialdQ (v := (nI (p))) d_Ma_step_8 u2 (by omega) (by omega) (congrArg nI hps1) ?_
  refine er_istore_n d_Ma_step_9 (by decide) ?_
  show jl_E l G m_Ma_step (0, 0) 10 [some (.ref 13), some (.int (nI p)), none, none, none] [] (σ) P
  refine er_aload_n d_Ma_step_10 rfl ?_
  refine er_getf d_Ma_step_11 f_Ma_step_20 hX rfl ?_
  refine er_aload_n d_Ma_step_14 rfl ?_
  refine er_getf d_Ma_step_15 f_Ma_step_34 hX rfl ?_
  refine er_aaldQ (v := some (a)) d_Ma_step_18 u1 (by omega) (by omega) (hua) ?_
  show jl_E l G m_Ma_step (0, 0) 19 [some (.ref 13), some (.int (nI p)), none, none, none] [.ref a] (σ) P
  refine er_getf d_Ma_step_19 f_Ma_step_94 hM rfl ?_
  refine er_iload_n d_Ma_step_22 rfl ?_
  refine er_ialdQ (v := (nI (1))) d_Ma_step_23 g1 (by omega) (by omega) (congrArg nI hop) ?_
  refine er_istore_n d_Ma_step_24 (by decide) ?_
  show jl_E l G m_Ma_step (0, 0) 25 [some (.ref 13), some (.int (nI p)), some (.int (nI 1)), none, none] [] (σ) P
  refine er_aload_n d_Ma_step_25 rfl ?_
  refine er_getf d_Ma_step_26 f_Ma_step_20 hX rfl ?_
  refine er_aload_n d_Ma_step_29 rfl ?_
  refine er_getf d_Ma_step_30 f_Ma_step_34 hX rfl ?_
  refine er_aaldQ (v := some (a)) d_Ma_step_33 u1 (by omega) (by omega) (hua) ?_
  show jl_E l G m_Ma_step (0, 0) 34 [some (.ref 13), some (.int (nI p)), some (.int (nI 1)), none, none] [.ref a] (σ) P
  refine er_getf d_Ma_step_34 f_Ma_step_97 hM rfl ?_
  refine er_iload_n d_Ma_step_37 rfl ?_
  refine er_ialdQ (v := (x)) d_Ma_step_38 g2 (by omega) (by omega) (hag) ?_
  refine er_istore_n d_Ma_step_39 (by decide) ?_
  show jl_E l G m_Ma_step (0, 0) 40 [some (.ref 13), some (.int (nI p)), some (.int (nI 1)), some (.int (x)), none] [] (σ) P
  refine er_iload_n d_Ma_step_40 rfl ?_
  refine er_tableOut 153 d_Ma_step_41 (by decide +kernel) (by decide) ?_
  refine er_aload_n d_Ma_step_153 rfl ?_
  refine er_iload_n d_Ma_step_154 rfl ?_
  refine er_iload_n d_Ma_step_155 rfl ?_
  refine er_callVE (As := [.int (nI 1), .int (x)]) d_Ma_step_156 k_Ma_step_114 hX rfl rfl rfl (Nat.le_of_ble_eq_true rfl) (by decide) (by decide) (ma_ins_1 hl hwx hmt hok hft ht hm40 hz18 hk hh hb hpt hf (fun R1 V1 H1 σ e1 hk1 => ⟨_, rfl, ?_⟩) (fun n σ e1 hk1 => ⟨_, rfl, ?_⟩) (fun σ e1 hk1 => ⟨_, rfl, ?_⟩))
  · skip
    obtain ⟨uw, ps, ty, va, hX, u1, u2, t1, t2, hS, hx, hto, hF⟩ := id hk1
    obtain ⟨s0, s1, s2, s3⟩ := id hS
    show jl_E l G m_Ma_step (0, 0) 159 [some (.ref 13), some (.int (nI p)), some (.int (nI 1)), some (.int (x)), none] [.int (nI 0)] (σ) P
    refine er_istore d_Ma_step_159 (by decide) ?_
    show jl_E l G m_Ma_step (0, 0) 161 [some (.ref 13), some (.int (nI p)), some (.int (nI 1)), some (.int (x)), some (.int (nI 0))] [] (σ) P
    refine er_iload d_Ma_step_161 rfl ?_
    refine er_if_ne 181 d_Ma_step_163 (by decide) (fun z => absurd rfl z) (fun _ => ?_)
    refine er_aload_n d_Ma_step_166 rfl ?_
    refine er_getf d_Ma_step_167 f_Ma_step_24 hX rfl ?_
    refine er_aload_n d_Ma_step_170 rfl ?_
    refine er_getf d_Ma_step_171 f_Ma_step_34 hX rfl ?_
    refine er_iload_n d_Ma_step_174 rfl ?_
    refine er_iconst ((nI (1))) d_Ma_step_175 (by decide) ?_
    refine er_iaddN d_Ma_step_176 ?_
    refine er_iastN d_Ma_step_177 u2 (by omega) (by omega) ?_
    rw [show upd (fun j => nI (ps j)) (t) ((nI ((p) + (1)))) = (fun j => nI ((va_up ps (t) ((p) + (1))) j)) from nI_up ps (t) ((p) + (1))]
    show jl_E l G m_Ma_step (0, 0) 178 [some (.ref 13), some (.int (nI p)), some (.int (nI 1)), some (.int (x)), some (.int (nI 0))] [] (σ.set (19) (.inl (0, 12, .inl (fun j => nI ((va_up ps (t) ((p) + (1))) j))))) P
    refine er_goto 189 d_Ma_step_178 (by decide) ?_
    exact er_vret d_Ma_step_189 rfl (hO R1 V1 H1 _ e1 ⟨_, _, _, _, (jl_sn (by decide) hX), (jl_sn (by decide) u1), (jl_ss u2), (jl_sn (by decide) t1), (jl_sn (by decide) t2), ⟨(jl_sn (by decide) s0), (jl_sn (by decide) s1), (jl_sn (by decide) s2), (jl_sn (by decide) s3)⟩, (hx.pc), hto, (hF.set (by omega))⟩) (by decide) (by decide)
  · skip
    have hn14 := ins_sg e1
    obtain ⟨uw, ps, ty, va, hX, u1, u2, t1, t2, hS, hx, hto, hF⟩ := id hk1
    obtain ⟨s0, s1, s2, s3⟩ := id hS
    show jl_E l G m_Ma_step (0, 0) 159 [some (.ref 13), some (.int (nI p)), some (.int (nI 1)), some (.int (x)), none] [.int (nI n)] (σ) P
    refine er_istore d_Ma_step_159 (by decide) ?_
    show jl_E l G m_Ma_step (0, 0) 161 [some (.ref 13), some (.int (nI p)), some (.int (nI 1)), some (.int (x)), some (.int (nI n))] [] (σ) P
    refine er_iload d_Ma_step_161 rfl ?_
    refine er_if_ne 181 d_Ma_step_163 (by decide) (fun _ => ?_) (fun z => absurd z ((fun z => by have z2 : nI n = nI 0 := z.trans nI_0k.symm; rw [nI_eq (by omega) (by omega)] at z2; omega)))
    refine er_aload_n d_Ma_step_181 rfl ?_
    refine er_iload d_Ma_step_182 rfl ?_
    refine er_iconst ((-1)) d_Ma_step_184 (by decide) ?_
    refine er_iconst ((-1)) d_Ma_step_185 (by decide) ?_
    refine er_callVE (As := [.int (nI n), .int (-1), .int (-1)]) d_Ma_step_186 k_Ma_step_118 hX rfl rfl rfl (Nat.le_of_ble_eq_true rfl) (by decide) (by decide) (ma_raise (y := none) (v := -1) (n := n) (R := R) (V := V) hl hk1 hwx hmt hok hD (fun _ q => by cases q) (by omega) ht hp hpf (fun f1 fs1 σ e2 h1 => ⟨_, rfl, ?_⟩) (fun e2 σ h1 => ⟨_, rfl, ?_⟩))
    · skip
      show jl_E l G m_Ma_step (0, 0) 189 [some (.ref 13), some (.int (nI p)), some (.int (nI 1)), some (.int (x)), some (.int (nI n))] [] (σ) P
      exact er_vret d_Ma_step_189 rfl (hG n f1 fs1 _ e1 e2 h1) (by decide) (by decide)
    · skip
      show jl_E l G m_Ma_step (0, 0) 189 [some (.ref 13), some (.int (nI p)), some (.int (nI 1)), some (.int (x)), some (.int (nI n))] [] (σ) P
      exact er_vret d_Ma_step_189 rfl (hE n _ e1 e2 (by have z := h1; rw [if_neg (by omega)] at z; exact z)) (by decide) (by decide)
  · skip
    obtain ⟨uw, ps, ty, va, hX, u1, u2, t1, t2, hS, hx, hto, hF⟩ := id hk1
    obtain ⟨s0, s1, s2, s3⟩ := id hS
    show jl_E l G m_Ma_step (0, 0) 159 [some (.ref 13), some (.int (nI p)), some (.int (nI 1)), some (.int (x)), none] [.int (nI 0)] (σ) P
    refine er_istore d_Ma_step_159 (by decide) ?_
    show jl_E l G m_Ma_step (0, 0) 161 [some (.ref 13), some (.int (nI p)), some (.int (nI 1)), some (.int (x)), some (.int (nI 0))] [] (σ) P
    refine er_iload d_Ma_step_161 rfl ?_
    refine er_if_ne 181 d_Ma_step_163 (by decide) (fun z => absurd rfl z) (fun _ => ?_)
    refine er_aload_n d_Ma_step_166 rfl ?_
    refine er_getf d_Ma_step_167 f_Ma_step_24 hX rfl ?_
    refine er_aload_n d_Ma_step_170 rfl ?_
    refine er_getf d_Ma_step_171 f_Ma_step_34 hX rfl ?_
    refine er_iload_n d_Ma_step_174 rfl ?_
    refine er_iconst ((nI (1))) d_Ma_step_175 (by decide) ?_
    refine er_iaddN d_Ma_step_176 ?_
    refine er_iastN d_Ma_step_177 u2 (by omega) (by omega) ?_
    rw [show upd (fun j => nI (ps j)) (t) ((nI ((p) + (1)))) = (fun j => nI ((va_up ps (t) ((p) + (1))) j)) from nI_up ps (t) ((p) + (1))]
    show jl_E l G m_Ma_step (0, 0) 178 [some (.ref 13), some (.int (nI p)), some (.int (nI 1)), some (.int (x)), some (.int (nI 0))] [] (σ.set (19) (.inl (0, 12, .inl (fun j => nI ((va_up ps (t) ((p) + (1))) j))))) P
    refine er_goto 189 d_Ma_step_178 (by decide) ?_
    exact er_vret d_Ma_step_189 rfl (hF6 _ e1 (KB.kz (N := 6) (R := R) (V := V) (mt := mt) (m := m) (p := p + 1) (t := t) (fs := fs) ⟨_, _, _, _, (jl_sn (by decide) hX), (jl_sn (by decide) u1), (jl_ss u2), (jl_sn (by decide) t1), (jl_sn (by decide) t2), ⟨(jl_sn (by decide) s0), (jl_sn (by decide) s1), (jl_sn (by decide) s2), (jl_sn (by decide) s3)⟩, (hx.pc), hto, (hF.set (by omega))⟩)) (by decide) (by decide)
theorem ma_st_2 (hl : l.stackTraces = false) {P : jl_O → jl_S → Prop}  (hk : KB σ0 mt σ (7 + (b + 1)) t m p (R) (V) (fs) (H) su dt dq aw) (hwx : WX σ0 tb pr ow fi ft mt sg D MP FH) (hmt : MtOk mt) (hok : WoOk tb pr ow fi) (ht : t < 12) (hp : p < 24) (hop : dop (D m) p = 2) (hag : dag (D m) p = (x)) (hD : ∀ m, mt m ≠ none → MdOk (D m)) (hpf : ∀ k ∈ fs, k.p < 24) (hft : ∀ k f, tyv (some (fty pr fi ft k f))) (hm40 : H.n ≤ 40) (hz18 : ∀ j, H.sz j ≤ 18) (hh : R 6 = some (b + 1)) (hb : b + 1 ≤ 5) (hpt : b + pts 2 ≤ 5) (hf : fit tb 2 x R V b H) (hO : ∀ R' V' H' σ', ins pr ow fi ft 2 x R V b H = .ok R' V' H' → KB σ0 mt σ' (7 + hgt R') t m (p + 1) R' V' fs H' su dt dq aw → P (.inl none) σ') (hG : ∀ n f' fs' σ', ins pr ow fi ft 2 x R V b H = .sg n → rse pr D none (-1) (⟨m, p, R, V⟩ :: fs) = some (f' :: fs') → KB σ0 mt σ' (7 + hgt f'.R) fs'.length f'.m f'.p f'.R f'.V fs' H su dt dq aw → P (.inl none) σ') (hE : ∀ n σ', ins pr ow fi ft 2 x R V b H = .sg n → rse pr D none (-1) (⟨m, p, R, V⟩ :: fs) = none → KZ σ0 σ' H (nI n) (nI 0) dq aw → P (.inl none) σ') (hF6 : ∀ σ', ins pr ow fi ft 2 x R V b H = .full → KZ σ0 σ' H (nI 6) (nI 0) dq aw → P (.inl none) σ') : jl_mE l G m_Ma_step [.ref 13] σ P := by
  obtain ⟨uw, ps, ty, va, hX, u1, u2, t1, t2, hS, hx, hto, hF⟩ := id hk
  obtain ⟨s0, s1, s2, s3⟩ := id hS
  obtain ⟨⟨⟨a, hma, hua⟩, hps1, hty, hva⟩, hfs, hln, hob⟩ := id hx
  have hma : mt m = some a := hma
  have hps1 : ps t = p := hps1
  have hty : ∀ j, j < _ → ty (t * 12 + j) = R j := hty
  have hva : ∀ j, j < _ → j ≠ 6 → va (t * 12 + j) = V j := hva
  have hRo := hx.rob
  obtain ⟨hM, g1, g2, g3, g4, g5, g6, g7, g8⟩ : MeD σ a (D m) (MP m) (FH m) := (hwx.fr hF hmt).2.2.2 m a hma
  refine jl_ofE (as := [.ref 13]) rfl (by decide) hl (jl_cc rfl jl_ca) (Nat.le_of_ble_eq_true rfl) ?_
  show jl_E l G m_Ma_step (0, 0) 0 [some (.ref 13), none, none, none, none] [] (σ) P
  refine er_aload_n d_Ma_step_0 rfl ?_
  refine er_getf d_Ma_step_1 f_Ma_step_24 hX rfl ?_
  refine er_aload_n d_Ma_step_4 rfl ?_
  refine er_getf d_Ma_step_5 f_Ma_step_34 hX rfl ?_
  refine er_ialdQ (v := (nI (p))) d_Ma_step_8 u2 (by omega) (by omega) (congrArg nI hps1) ?_
  refine er_istore_n d_Ma_step_9 (by decide) ?_
  show jl_E l G m_Ma_step (0, 0) 10 [some (.ref 13), some (.int (nI p)), none, none, none] [] (σ) P
  refine er_aload_n d_Ma_step_10 rfl ?_
  refine er_getf d_Ma_step_11 f_Ma_step_20 hX rfl ?_
  refine er_aload_n d_Ma_step_14 rfl ?_
  refine er_getf d_Ma_step_15 f_Ma_step_34 hX rfl ?_
  refine er_aaldQ (v := some (a)) d_Ma_step_18 u1 (by omega) (by omega) (hua) ?_
  show jl_E l G m_Ma_step (0, 0) 19 [some (.ref 13), some (.int (nI p)), none, none, none] [.ref a] (σ) P
  refine er_getf d_Ma_step_19 f_Ma_step_94 hM rfl ?_
  refine er_iload_n d_Ma_step_22 rfl ?_
  refine er_ialdQ (v := (nI (2))) d_Ma_step_23 g1 (by omega) (by omega) (congrArg nI hop) ?_
  refine er_istore_n d_Ma_step_24 (by decide) ?_
  show jl_E l G m_Ma_step (0, 0) 25 [some (.ref 13), some (.int (nI p)), some (.int (nI 2)), none, none] [] (σ) P
  refine er_aload_n d_Ma_step_25 rfl ?_
  refine er_getf d_Ma_step_26 f_Ma_step_20 hX rfl ?_
  refine er_aload_n d_Ma_step_29 rfl ?_
  refine er_getf d_Ma_step_30 f_Ma_step_34 hX rfl ?_
  refine er_aaldQ (v := some (a)) d_Ma_step_33 u1 (by omega) (by omega) (hua) ?_
  show jl_E l G m_Ma_step (0, 0) 34 [some (.ref 13), some (.int (nI p)), some (.int (nI 2)), none, none] [.ref a] (σ) P
  refine er_getf d_Ma_step_34 f_Ma_step_97 hM rfl ?_
  refine er_iload_n d_Ma_step_37 rfl ?_
  refine er_ialdQ (v := (x)) d_Ma_step_38 g2 (by omega) (by omega) (hag) ?_
  refine er_istore_n d_Ma_step_39 (by decide) ?_
  show jl_E l G m_Ma_step (0, 0) 40 [some (.ref 13), some (.int (nI p)), some (.int (nI 2)), some (.int (x)), none] [] (σ) P
  refine er_iload_n d_Ma_step_40 rfl ?_
  refine er_tableOut 153 d_Ma_step_41 (by decide +kernel) (by decide) ?_
  refine er_aload_n d_Ma_step_153 rfl ?_
  refine er_iload_n d_Ma_step_154 rfl ?_
  refine er_iload_n d_Ma_step_155 rfl ?_
  refine er_callVE (As := [.int (nI 2), .int (x)]) d_Ma_step_156 k_Ma_step_114 hX rfl rfl rfl (Nat.le_of_ble_eq_true rfl) (by decide) (by decide) (ma_ins_2 hl hwx hmt hok hft ht hm40 hz18 hk hh hb hpt hf (fun R1 V1 H1 σ e1 hk1 => ⟨_, rfl, ?_⟩) (fun n σ e1 hk1 => ⟨_, rfl, ?_⟩) (fun σ e1 hk1 => ⟨_, rfl, ?_⟩))
  · skip
    obtain ⟨uw, ps, ty, va, hX, u1, u2, t1, t2, hS, hx, hto, hF⟩ := id hk1
    obtain ⟨s0, s1, s2, s3⟩ := id hS
    show jl_E l G m_Ma_step (0, 0) 159 [some (.ref 13), some (.int (nI p)), some (.int (nI 2)), some (.int (x)), none] [.int (nI 0)] (σ) P
    refine er_istore d_Ma_step_159 (by decide) ?_
    show jl_E l G m_Ma_step (0, 0) 161 [some (.ref 13), some (.int (nI p)), some (.int (nI 2)), some (.int (x)), some (.int (nI 0))] [] (σ) P
    refine er_iload d_Ma_step_161 rfl ?_
    refine er_if_ne 181 d_Ma_step_163 (by decide) (fun z => absurd rfl z) (fun _ => ?_)
    refine er_aload_n d_Ma_step_166 rfl ?_
    refine er_getf d_Ma_step_167 f_Ma_step_24 hX rfl ?_
    refine er_aload_n d_Ma_step_170 rfl ?_
    refine er_getf d_Ma_step_171 f_Ma_step_34 hX rfl ?_
    refine er_iload_n d_Ma_step_174 rfl ?_
    refine er_iconst ((nI (1))) d_Ma_step_175 (by decide) ?_
    refine er_iaddN d_Ma_step_176 ?_
    refine er_iastN d_Ma_step_177 u2 (by omega) (by omega) ?_
    rw [show upd (fun j => nI (ps j)) (t) ((nI ((p) + (1)))) = (fun j => nI ((va_up ps (t) ((p) + (1))) j)) from nI_up ps (t) ((p) + (1))]
    show jl_E l G m_Ma_step (0, 0) 178 [some (.ref 13), some (.int (nI p)), some (.int (nI 2)), some (.int (x)), some (.int (nI 0))] [] (σ.set (19) (.inl (0, 12, .inl (fun j => nI ((va_up ps (t) ((p) + (1))) j))))) P
    refine er_goto 189 d_Ma_step_178 (by decide) ?_
    exact er_vret d_Ma_step_189 rfl (hO R1 V1 H1 _ e1 ⟨_, _, _, _, (jl_sn (by decide) hX), (jl_sn (by decide) u1), (jl_ss u2), (jl_sn (by decide) t1), (jl_sn (by decide) t2), ⟨(jl_sn (by decide) s0), (jl_sn (by decide) s1), (jl_sn (by decide) s2), (jl_sn (by decide) s3)⟩, (hx.pc), hto, (hF.set (by omega))⟩) (by decide) (by decide)
  · skip
    have hn14 := ins_sg e1
    obtain ⟨uw, ps, ty, va, hX, u1, u2, t1, t2, hS, hx, hto, hF⟩ := id hk1
    obtain ⟨s0, s1, s2, s3⟩ := id hS
    show jl_E l G m_Ma_step (0, 0) 159 [some (.ref 13), some (.int (nI p)), some (.int (nI 2)), some (.int (x)), none] [.int (nI n)] (σ) P
    refine er_istore d_Ma_step_159 (by decide) ?_
    show jl_E l G m_Ma_step (0, 0) 161 [some (.ref 13), some (.int (nI p)), some (.int (nI 2)), some (.int (x)), some (.int (nI n))] [] (σ) P
    refine er_iload d_Ma_step_161 rfl ?_
    refine er_if_ne 181 d_Ma_step_163 (by decide) (fun _ => ?_) (fun z => absurd z ((fun z => by have z2 : nI n = nI 0 := z.trans nI_0k.symm; rw [nI_eq (by omega) (by omega)] at z2; omega)))
    refine er_aload_n d_Ma_step_181 rfl ?_
    refine er_iload d_Ma_step_182 rfl ?_
    refine er_iconst ((-1)) d_Ma_step_184 (by decide) ?_
    refine er_iconst ((-1)) d_Ma_step_185 (by decide) ?_
    refine er_callVE (As := [.int (nI n), .int (-1), .int (-1)]) d_Ma_step_186 k_Ma_step_118 hX rfl rfl rfl (Nat.le_of_ble_eq_true rfl) (by decide) (by decide) (ma_raise (y := none) (v := -1) (n := n) (R := R) (V := V) hl hk1 hwx hmt hok hD (fun _ q => by cases q) (by omega) ht hp hpf (fun f1 fs1 σ e2 h1 => ⟨_, rfl, ?_⟩) (fun e2 σ h1 => ⟨_, rfl, ?_⟩))
    · skip
      show jl_E l G m_Ma_step (0, 0) 189 [some (.ref 13), some (.int (nI p)), some (.int (nI 2)), some (.int (x)), some (.int (nI n))] [] (σ) P
      exact er_vret d_Ma_step_189 rfl (hG n f1 fs1 _ e1 e2 h1) (by decide) (by decide)
    · skip
      show jl_E l G m_Ma_step (0, 0) 189 [some (.ref 13), some (.int (nI p)), some (.int (nI 2)), some (.int (x)), some (.int (nI n))] [] (σ) P
      exact er_vret d_Ma_step_189 rfl (hE n _ e1 e2 (by have z := h1; rw [if_neg (by omega)] at z; exact z)) (by decide) (by decide)
  · skip
    obtain ⟨uw, ps, ty, va, hX, u1, u2, t1, t2, hS, hx, hto, hF⟩ := id hk1
    obtain ⟨s0, s1, s2, s3⟩ := id hS
    show jl_E l G m_Ma_step (0, 0) 159 [some (.ref 13), some (.int (nI p)), some (.int (nI 2)), some (.int (x)), none] [.int (nI 0)] (σ) P
    refine er_istore d_Ma_step_159 (by decide) ?_
    show jl_E l G m_Ma_step (0, 0) 161 [some (.ref 13), some (.int (nI p)), some (.int (nI 2)), some (.int (x)), some (.int (nI 0))] [] (σ) P
    refine er_iload d_Ma_step_161 rfl ?_
    refine er_if_ne 181 d_Ma_step_163 (by decide) (fun z => absurd rfl z) (fun _ => ?_)
    refine er_aload_n d_Ma_step_166 rfl ?_
    refine er_getf d_Ma_step_167 f_Ma_step_24 hX rfl ?_
    refine er_aload_n d_Ma_step_170 rfl ?_
    refine er_getf d_Ma_step_171 f_Ma_step_34 hX rfl ?_
    refine er_iload_n d_Ma_step_174 rfl ?_
    refine er_iconst ((nI (1))) d_Ma_step_175 (by decide) ?_
    refine er_iaddN d_Ma_step_176 ?_
    refine er_iastN d_Ma_step_177 u2 (by omega) (by omega) ?_
    rw [show upd (fun j => nI (ps j)) (t) ((nI ((p) + (1)))) = (fun j => nI ((va_up ps (t) ((p) + (1))) j)) from nI_up ps (t) ((p) + (1))]
    show jl_E l G m_Ma_step (0, 0) 178 [some (.ref 13), some (.int (nI p)), some (.int (nI 2)), some (.int (x)), some (.int (nI 0))] [] (σ.set (19) (.inl (0, 12, .inl (fun j => nI ((va_up ps (t) ((p) + (1))) j))))) P
    refine er_goto 189 d_Ma_step_178 (by decide) ?_
    exact er_vret d_Ma_step_189 rfl (hF6 _ e1 (KB.kz (N := 6) (R := R) (V := V) (mt := mt) (m := m) (p := p + 1) (t := t) (fs := fs) ⟨_, _, _, _, (jl_sn (by decide) hX), (jl_sn (by decide) u1), (jl_ss u2), (jl_sn (by decide) t1), (jl_sn (by decide) t2), ⟨(jl_sn (by decide) s0), (jl_sn (by decide) s1), (jl_sn (by decide) s2), (jl_sn (by decide) s3)⟩, (hx.pc), hto, (hF.set (by omega))⟩)) (by decide) (by decide)
theorem ma_st_3 (hl : l.stackTraces = false) {P : jl_O → jl_S → Prop}  (hk : KB σ0 mt σ (7 + (b + 2)) t m p (R) (V) (fs) (H) su dt dq aw) (hwx : WX σ0 tb pr ow fi ft mt sg D MP FH) (hmt : MtOk mt) (hok : WoOk tb pr ow fi) (ht : t < 12) (hp : p < 24) (hop : dop (D m) p = 3) (hag : dag (D m) p = (x)) (hD : ∀ m, mt m ≠ none → MdOk (D m)) (hpf : ∀ k ∈ fs, k.p < 24) (hft : ∀ k f, tyv (some (fty pr fi ft k f))) (hm40 : H.n ≤ 40) (hz18 : ∀ j, H.sz j ≤ 18) (hh : R 6 = some (b + 2)) (hb : b + 2 ≤ 5) (hpt : b + pts 3 ≤ 5) (hf : fit tb 3 x R V b H) (hO : ∀ R' V' H' σ', ins pr ow fi ft 3 x R V b H = .ok R' V' H' → KB σ0 mt σ' (7 + hgt R') t m (p + 1) R' V' fs H' su dt dq aw → P (.inl none) σ') (hG : ∀ n f' fs' σ', ins pr ow fi ft 3 x R V b H = .sg n → rse pr D none (-1) (⟨m, p, R, V⟩ :: fs) = some (f' :: fs') → KB σ0 mt σ' (7 + hgt f'.R) fs'.length f'.m f'.p f'.R f'.V fs' H su dt dq aw → P (.inl none) σ') (hE : ∀ n σ', ins pr ow fi ft 3 x R V b H = .sg n → rse pr D none (-1) (⟨m, p, R, V⟩ :: fs) = none → KZ σ0 σ' H (nI n) (nI 0) dq aw → P (.inl none) σ') (hF6 : ∀ σ', ins pr ow fi ft 3 x R V b H = .full → KZ σ0 σ' H (nI 6) (nI 0) dq aw → P (.inl none) σ') : jl_mE l G m_Ma_step [.ref 13] σ P := by
  obtain ⟨uw, ps, ty, va, hX, u1, u2, t1, t2, hS, hx, hto, hF⟩ := id hk
  obtain ⟨s0, s1, s2, s3⟩ := id hS
  obtain ⟨⟨⟨a, hma, hua⟩, hps1, hty, hva⟩, hfs, hln, hob⟩ := id hx
  have hma : mt m = some a := hma
  have hps1 : ps t = p := hps1
  have hty : ∀ j, j < _ → ty (t * 12 + j) = R j := hty
  have hva : ∀ j, j < _ → j ≠ 6 → va (t * 12 + j) = V j := hva
  have hRo := hx.rob
  obtain ⟨hM, g1, g2, g3, g4, g5, g6, g7, g8⟩ : MeD σ a (D m) (MP m) (FH m) := (hwx.fr hF hmt).2.2.2 m a hma
  refine jl_ofE (as := [.ref 13]) rfl (by decide) hl (jl_cc rfl jl_ca) (Nat.le_of_ble_eq_true rfl) ?_
  show jl_E l G m_Ma_step (0, 0) 0 [some (.ref 13), none, none, none, none] [] (σ) P
  refine er_aload_n d_Ma_step_0 rfl ?_
  refine er_getf d_Ma_step_1 f_Ma_step_24 hX rfl ?_
  refine er_aload_n d_Ma_step_4 rfl ?_
  refine er_getf d_Ma_step_5 f_Ma_step_34 hX rfl ?_
  refine er_ialdQ (v := (nI (p))) d_Ma_step_8 u2 (by omega) (by omega) (congrArg nI hps1) ?_
  refine er_istore_n d_Ma_step_9 (by decide) ?_
  show jl_E l G m_Ma_step (0, 0) 10 [some (.ref 13), some (.int (nI p)), none, none, none] [] (σ) P
  refine er_aload_n d_Ma_step_10 rfl ?_
  refine er_getf d_Ma_step_11 f_Ma_step_20 hX rfl ?_
  refine er_aload_n d_Ma_step_14 rfl ?_
  refine er_getf d_Ma_step_15 f_Ma_step_34 hX rfl ?_
  refine er_aaldQ (v := some (a)) d_Ma_step_18 u1 (by omega) (by omega) (hua) ?_
  show jl_E l G m_Ma_step (0, 0) 19 [some (.ref 13), some (.int (nI p)), none, none, none] [.ref a] (σ) P
  refine er_getf d_Ma_step_19 f_Ma_step_94 hM rfl ?_
  refine er_iload_n d_Ma_step_22 rfl ?_
  refine er_ialdQ (v := (nI (3))) d_Ma_step_23 g1 (by omega) (by omega) (congrArg nI hop) ?_
  refine er_istore_n d_Ma_step_24 (by decide) ?_
  show jl_E l G m_Ma_step (0, 0) 25 [some (.ref 13), some (.int (nI p)), some (.int (nI 3)), none, none] [] (σ) P
  refine er_aload_n d_Ma_step_25 rfl ?_
  refine er_getf d_Ma_step_26 f_Ma_step_20 hX rfl ?_
  refine er_aload_n d_Ma_step_29 rfl ?_
  refine er_getf d_Ma_step_30 f_Ma_step_34 hX rfl ?_
  refine er_aaldQ (v := some (a)) d_Ma_step_33 u1 (by omega) (by omega) (hua) ?_
  show jl_E l G m_Ma_step (0, 0) 34 [some (.ref 13), some (.int (nI p)), some (.int (nI 3)), none, none] [.ref a] (σ) P
  refine er_getf d_Ma_step_34 f_Ma_step_97 hM rfl ?_
  refine er_iload_n d_Ma_step_37 rfl ?_
  refine er_ialdQ (v := (x)) d_Ma_step_38 g2 (by omega) (by omega) (hag) ?_
  refine er_istore_n d_Ma_step_39 (by decide) ?_
  show jl_E l G m_Ma_step (0, 0) 40 [some (.ref 13), some (.int (nI p)), some (.int (nI 3)), some (.int (x)), none] [] (σ) P
  refine er_iload_n d_Ma_step_40 rfl ?_
  refine er_tableOut 153 d_Ma_step_41 (by decide +kernel) (by decide) ?_
  refine er_aload_n d_Ma_step_153 rfl ?_
  refine er_iload_n d_Ma_step_154 rfl ?_
  refine er_iload_n d_Ma_step_155 rfl ?_
  refine er_callVE (As := [.int (nI 3), .int (x)]) d_Ma_step_156 k_Ma_step_114 hX rfl rfl rfl (Nat.le_of_ble_eq_true rfl) (by decide) (by decide) (ma_ins_3 hl hwx hmt hok hft ht hm40 hz18 hk hh hb hpt hf (fun R1 V1 H1 σ e1 hk1 => ⟨_, rfl, ?_⟩) (fun n σ e1 hk1 => ⟨_, rfl, ?_⟩) (fun σ e1 hk1 => ⟨_, rfl, ?_⟩))
  · skip
    obtain ⟨uw, ps, ty, va, hX, u1, u2, t1, t2, hS, hx, hto, hF⟩ := id hk1
    obtain ⟨s0, s1, s2, s3⟩ := id hS
    show jl_E l G m_Ma_step (0, 0) 159 [some (.ref 13), some (.int (nI p)), some (.int (nI 3)), some (.int (x)), none] [.int (nI 0)] (σ) P
    refine er_istore d_Ma_step_159 (by decide) ?_
    show jl_E l G m_Ma_step (0, 0) 161 [some (.ref 13), some (.int (nI p)), some (.int (nI 3)), some (.int (x)), some (.int (nI 0))] [] (σ) P
    refine er_iload d_Ma_step_161 rfl ?_
    refine er_if_ne 181 d_Ma_step_163 (by decide) (fun z => absurd rfl z) (fun _ => ?_)
    refine er_aload_n d_Ma_step_166 rfl ?_
    refine er_getf d_Ma_step_167 f_Ma_step_24 hX rfl ?_
    refine er_aload_n d_Ma_step_170 rfl ?_
    refine er_getf d_Ma_step_171 f_Ma_step_34 hX rfl ?_
    refine er_iload_n d_Ma_step_174 rfl ?_
    refine er_iconst ((nI (1))) d_Ma_step_175 (by decide) ?_
    refine er_iaddN d_Ma_step_176 ?_
    refine er_iastN d_Ma_step_177 u2 (by omega) (by omega) ?_
    rw [show upd (fun j => nI (ps j)) (t) ((nI ((p) + (1)))) = (fun j => nI ((va_up ps (t) ((p) + (1))) j)) from nI_up ps (t) ((p) + (1))]
    show jl_E l G m_Ma_step (0, 0) 178 [some (.ref 13), some (.int (nI p)), some (.int (nI 3)), some (.int (x)), some (.int (nI 0))] [] (σ.set (19) (.inl (0, 12, .inl (fun j => nI ((va_up ps (t) ((p) + (1))) j))))) P
    refine er_goto 189 d_Ma_step_178 (by decide) ?_
    exact er_vret d_Ma_step_189 rfl (hO R1 V1 H1 _ e1 ⟨_, _, _, _, (jl_sn (by decide) hX), (jl_sn (by decide) u1), (jl_ss u2), (jl_sn (by decide) t1), (jl_sn (by decide) t2), ⟨(jl_sn (by decide) s0), (jl_sn (by decide) s1), (jl_sn (by decide) s2), (jl_sn (by decide) s3)⟩, (hx.pc), hto, (hF.set (by omega))⟩) (by decide) (by decide)
  · skip
    have hn14 := ins_sg e1
    obtain ⟨uw, ps, ty, va, hX, u1, u2, t1, t2, hS, hx, hto, hF⟩ := id hk1
    obtain ⟨s0, s1, s2, s3⟩ := id hS
    show jl_E l G m_Ma_step (0, 0) 159 [some (.ref 13), some (.int (nI p)), some (.int (nI 3)), some (.int (x)), none] [.int (nI n)] (σ) P
    refine er_istore d_Ma_step_159 (by decide) ?_
    show jl_E l G m_Ma_step (0, 0) 161 [some (.ref 13), some (.int (nI p)), some (.int (nI 3)), some (.int (x)), some (.int (nI n))] [] (σ) P
    refine er_iload d_Ma_step_161 rfl ?_
    refine er_if_ne 181 d_Ma_step_163 (by decide) (fun _ => ?_) (fun z => absurd z ((fun z => by have z2 : nI n = nI 0 := z.trans nI_0k.symm; rw [nI_eq (by omega) (by omega)] at z2; omega)))
    refine er_aload_n d_Ma_step_181 rfl ?_
    refine er_iload d_Ma_step_182 rfl ?_
    refine er_iconst ((-1)) d_Ma_step_184 (by decide) ?_
    refine er_iconst ((-1)) d_Ma_step_185 (by decide) ?_
    refine er_callVE (As := [.int (nI n), .int (-1), .int (-1)]) d_Ma_step_186 k_Ma_step_118 hX rfl rfl rfl (Nat.le_of_ble_eq_true rfl) (by decide) (by decide) (ma_raise (y := none) (v := -1) (n := n) (R := R) (V := V) hl hk1 hwx hmt hok hD (fun _ q => by cases q) (by omega) ht hp hpf (fun f1 fs1 σ e2 h1 => ⟨_, rfl, ?_⟩) (fun e2 σ h1 => ⟨_, rfl, ?_⟩))
    · skip
      show jl_E l G m_Ma_step (0, 0) 189 [some (.ref 13), some (.int (nI p)), some (.int (nI 3)), some (.int (x)), some (.int (nI n))] [] (σ) P
      exact er_vret d_Ma_step_189 rfl (hG n f1 fs1 _ e1 e2 h1) (by decide) (by decide)
    · skip
      show jl_E l G m_Ma_step (0, 0) 189 [some (.ref 13), some (.int (nI p)), some (.int (nI 3)), some (.int (x)), some (.int (nI n))] [] (σ) P
      exact er_vret d_Ma_step_189 rfl (hE n _ e1 e2 (by have z := h1; rw [if_neg (by omega)] at z; exact z)) (by decide) (by decide)
  · skip
    obtain ⟨uw, ps, ty, va, hX, u1, u2, t1, t2, hS, hx, hto, hF⟩ := id hk1
    obtain ⟨s0, s1, s2, s3⟩ := id hS
    show jl_E l G m_Ma_step (0, 0) 159 [some (.ref 13), some (.int (nI p)), some (.int (nI 3)), some (.int (x)), none] [.int (nI 0)] (σ) P
    refine er_istore d_Ma_step_159 (by decide) ?_
    show jl_E l G m_Ma_step (0, 0) 161 [some (.ref 13), some (.int (nI p)), some (.int (nI 3)), some (.int (x)), some (.int (nI 0))] [] (σ) P
    refine er_iload d_Ma_step_161 rfl ?_
    refine er_if_ne 181 d_Ma_step_163 (by decide) (fun z => absurd rfl z) (fun _ => ?_)
    refine er_aload_n d_Ma_step_166 rfl ?_
    refine er_getf d_Ma_step_167 f_Ma_step_24 hX rfl ?_
    refine er_aload_n d_Ma_step_170 rfl ?_
    refine er_getf d_Ma_step_171 f_Ma_step_34 hX rfl ?_
    refine er_iload_n d_Ma_step_174 rfl ?_
    refine er_iconst ((nI (1))) d_Ma_step_175 (by decide) ?_
    refine er_iaddN d_Ma_step_176 ?_
    refine er_iastN d_Ma_step_177 u2 (by omega) (by omega) ?_
    rw [show upd (fun j => nI (ps j)) (t) ((nI ((p) + (1)))) = (fun j => nI ((va_up ps (t) ((p) + (1))) j)) from nI_up ps (t) ((p) + (1))]
    show jl_E l G m_Ma_step (0, 0) 178 [some (.ref 13), some (.int (nI p)), some (.int (nI 3)), some (.int (x)), some (.int (nI 0))] [] (σ.set (19) (.inl (0, 12, .inl (fun j => nI ((va_up ps (t) ((p) + (1))) j))))) P
    refine er_goto 189 d_Ma_step_178 (by decide) ?_
    exact er_vret d_Ma_step_189 rfl (hF6 _ e1 (KB.kz (N := 6) (R := R) (V := V) (mt := mt) (m := m) (p := p + 1) (t := t) (fs := fs) ⟨_, _, _, _, (jl_sn (by decide) hX), (jl_sn (by decide) u1), (jl_ss u2), (jl_sn (by decide) t1), (jl_sn (by decide) t2), ⟨(jl_sn (by decide) s0), (jl_sn (by decide) s1), (jl_sn (by decide) s2), (jl_sn (by decide) s3)⟩, (hx.pc), hto, (hF.set (by omega))⟩)) (by decide) (by decide)
theorem ma_st_4 (hl : l.stackTraces = false) {P : jl_O → jl_S → Prop}  (hk : KB σ0 mt σ (7 + (b + 2)) t m p (R) (V) (fs) (H) su dt dq aw) (hwx : WX σ0 tb pr ow fi ft mt sg D MP FH) (hmt : MtOk mt) (hok : WoOk tb pr ow fi) (ht : t < 12) (hp : p < 24) (hop : dop (D m) p = 4) (hag : dag (D m) p = (x)) (hD : ∀ m, mt m ≠ none → MdOk (D m)) (hpf : ∀ k ∈ fs, k.p < 24) (hft : ∀ k f, tyv (some (fty pr fi ft k f))) (hm40 : H.n ≤ 40) (hz18 : ∀ j, H.sz j ≤ 18) (hh : R 6 = some (b + 2)) (hb : b + 2 ≤ 5) (hpt : b + pts 4 ≤ 5) (hf : fit tb 4 x R V b H) (hO : ∀ R' V' H' σ', ins pr ow fi ft 4 x R V b H = .ok R' V' H' → KB σ0 mt σ' (7 + hgt R') t m (p + 1) R' V' fs H' su dt dq aw → P (.inl none) σ') (hG : ∀ n f' fs' σ', ins pr ow fi ft 4 x R V b H = .sg n → rse pr D none (-1) (⟨m, p, R, V⟩ :: fs) = some (f' :: fs') → KB σ0 mt σ' (7 + hgt f'.R) fs'.length f'.m f'.p f'.R f'.V fs' H su dt dq aw → P (.inl none) σ') (hE : ∀ n σ', ins pr ow fi ft 4 x R V b H = .sg n → rse pr D none (-1) (⟨m, p, R, V⟩ :: fs) = none → KZ σ0 σ' H (nI n) (nI 0) dq aw → P (.inl none) σ') (hF6 : ∀ σ', ins pr ow fi ft 4 x R V b H = .full → KZ σ0 σ' H (nI 6) (nI 0) dq aw → P (.inl none) σ') : jl_mE l G m_Ma_step [.ref 13] σ P := by
  obtain ⟨uw, ps, ty, va, hX, u1, u2, t1, t2, hS, hx, hto, hF⟩ := id hk
  obtain ⟨s0, s1, s2, s3⟩ := id hS
  obtain ⟨⟨⟨a, hma, hua⟩, hps1, hty, hva⟩, hfs, hln, hob⟩ := id hx
  have hma : mt m = some a := hma
  have hps1 : ps t = p := hps1
  have hty : ∀ j, j < _ → ty (t * 12 + j) = R j := hty
  have hva : ∀ j, j < _ → j ≠ 6 → va (t * 12 + j) = V j := hva
  have hRo := hx.rob
  obtain ⟨hM, g1, g2, g3, g4, g5, g6, g7, g8⟩ : MeD σ a (D m) (MP m) (FH m) := (hwx.fr hF hmt).2.2.2 m a hma
  refine jl_ofE (as := [.ref 13]) rfl (by decide) hl (jl_cc rfl jl_ca) (Nat.le_of_ble_eq_true rfl) ?_
  show jl_E l G m_Ma_step (0, 0) 0 [some (.ref 13), none, none, none, none] [] (σ) P
  refine er_aload_n d_Ma_step_0 rfl ?_
  refine er_getf d_Ma_step_1 f_Ma_step_24 hX rfl ?_
  refine er_aload_n d_Ma_step_4 rfl ?_
  refine er_getf d_Ma_step_5 f_Ma_step_34 hX rfl ?_
  refine er_ialdQ (v := (nI (p))) d_Ma_step_8 u2 (by omega) (by omega) (congrArg nI hps1) ?_
  refine er_istore_n d_Ma_step_9 (by decide) ?_
  show jl_E l G m_Ma_step (0, 0) 10 [some (.ref 13), some (.int (nI p)), none, none, none] [] (σ) P
  refine er_aload_n d_Ma_step_10 rfl ?_
  refine er_getf d_Ma_step_11 f_Ma_step_20 hX rfl ?_
  refine er_aload_n d_Ma_step_14 rfl ?_
  refine er_getf d_Ma_step_15 f_Ma_step_34 hX rfl ?_
  refine er_aaldQ (v := some (a)) d_Ma_step_18 u1 (by omega) (by omega) (hua) ?_
  show jl_E l G m_Ma_step (0, 0) 19 [some (.ref 13), some (.int (nI p)), none, none, none] [.ref a] (σ) P
  refine er_getf d_Ma_step_19 f_Ma_step_94 hM rfl ?_
  refine er_iload_n d_Ma_step_22 rfl ?_
  refine er_ialdQ (v := (nI (4))) d_Ma_step_23 g1 (by omega) (by omega) (congrArg nI hop) ?_
  refine er_istore_n d_Ma_step_24 (by decide) ?_
  show jl_E l G m_Ma_step (0, 0) 25 [some (.ref 13), some (.int (nI p)), some (.int (nI 4)), none, none] [] (σ) P
  refine er_aload_n d_Ma_step_25 rfl ?_
  refine er_getf d_Ma_step_26 f_Ma_step_20 hX rfl ?_
  refine er_aload_n d_Ma_step_29 rfl ?_
  refine er_getf d_Ma_step_30 f_Ma_step_34 hX rfl ?_
  refine er_aaldQ (v := some (a)) d_Ma_step_33 u1 (by omega) (by omega) (hua) ?_
  show jl_E l G m_Ma_step (0, 0) 34 [some (.ref 13), some (.int (nI p)), some (.int (nI 4)), none, none] [.ref a] (σ) P
  refine er_getf d_Ma_step_34 f_Ma_step_97 hM rfl ?_
  refine er_iload_n d_Ma_step_37 rfl ?_
  refine er_ialdQ (v := (x)) d_Ma_step_38 g2 (by omega) (by omega) (hag) ?_
  refine er_istore_n d_Ma_step_39 (by decide) ?_
  show jl_E l G m_Ma_step (0, 0) 40 [some (.ref 13), some (.int (nI p)), some (.int (nI 4)), some (.int (x)), none] [] (σ) P
  refine er_iload_n d_Ma_step_40 rfl ?_
  refine er_tableOut 153 d_Ma_step_41 (by decide +kernel) (by decide) ?_
  refine er_aload_n d_Ma_step_153 rfl ?_
  refine er_iload_n d_Ma_step_154 rfl ?_
  refine er_iload_n d_Ma_step_155 rfl ?_
  refine er_callVE (As := [.int (nI 4), .int (x)]) d_Ma_step_156 k_Ma_step_114 hX rfl rfl rfl (Nat.le_of_ble_eq_true rfl) (by decide) (by decide) (ma_ins_4 hl hwx hmt hok hft ht hm40 hz18 hk hh hb hpt hf (fun R1 V1 H1 σ e1 hk1 => ⟨_, rfl, ?_⟩) (fun n σ e1 hk1 => ⟨_, rfl, ?_⟩) (fun σ e1 hk1 => ⟨_, rfl, ?_⟩))
  · skip
    obtain ⟨uw, ps, ty, va, hX, u1, u2, t1, t2, hS, hx, hto, hF⟩ := id hk1
    obtain ⟨s0, s1, s2, s3⟩ := id hS
    show jl_E l G m_Ma_step (0, 0) 159 [some (.ref 13), some (.int (nI p)), some (.int (nI 4)), some (.int (x)), none] [.int (nI 0)] (σ) P
    refine er_istore d_Ma_step_159 (by decide) ?_
    show jl_E l G m_Ma_step (0, 0) 161 [some (.ref 13), some (.int (nI p)), some (.int (nI 4)), some (.int (x)), some (.int (nI 0))] [] (σ) P
    refine er_iload d_Ma_step_161 rfl ?_
    refine er_if_ne 181 d_Ma_step_163 (by decide) (fun z => absurd rfl z) (fun _ => ?_)
    refine er_aload_n d_Ma_step_166 rfl ?_
    refine er_getf d_Ma_step_167 f_Ma_step_24 hX rfl ?_
    refine er_aload_n d_Ma_step_170 rfl ?_
    refine er_getf d_Ma_step_171 f_Ma_step_34 hX rfl ?_
    refine er_iload_n d_Ma_step_174 rfl ?_
    refine er_iconst ((nI (1))) d_Ma_step_175 (by decide) ?_
    refine er_iaddN d_Ma_step_176 ?_
    refine er_iastN d_Ma_step_177 u2 (by omega) (by omega) ?_
    rw [show upd (fun j => nI (ps j)) (t) ((nI ((p) + (1)))) = (fun j => nI ((va_up ps (t) ((p) + (1))) j)) from nI_up ps (t) ((p) + (1))]
    show jl_E l G m_Ma_step (0, 0) 178 [some (.ref 13), some (.int (nI p)), some (.int (nI 4)), some (.int (x)), some (.int (nI 0))] [] (σ.set (19) (.inl (0, 12, .inl (fun j => nI ((va_up ps (t) ((p) + (1))) j))))) P
    refine er_goto 189 d_Ma_step_178 (by decide) ?_
    exact er_vret d_Ma_step_189 rfl (hO R1 V1 H1 _ e1 ⟨_, _, _, _, (jl_sn (by decide) hX), (jl_sn (by decide) u1), (jl_ss u2), (jl_sn (by decide) t1), (jl_sn (by decide) t2), ⟨(jl_sn (by decide) s0), (jl_sn (by decide) s1), (jl_sn (by decide) s2), (jl_sn (by decide) s3)⟩, (hx.pc), hto, (hF.set (by omega))⟩) (by decide) (by decide)
  · skip
    have hn14 := ins_sg e1
    obtain ⟨uw, ps, ty, va, hX, u1, u2, t1, t2, hS, hx, hto, hF⟩ := id hk1
    obtain ⟨s0, s1, s2, s3⟩ := id hS
    show jl_E l G m_Ma_step (0, 0) 159 [some (.ref 13), some (.int (nI p)), some (.int (nI 4)), some (.int (x)), none] [.int (nI n)] (σ) P
    refine er_istore d_Ma_step_159 (by decide) ?_
    show jl_E l G m_Ma_step (0, 0) 161 [some (.ref 13), some (.int (nI p)), some (.int (nI 4)), some (.int (x)), some (.int (nI n))] [] (σ) P
    refine er_iload d_Ma_step_161 rfl ?_
    refine er_if_ne 181 d_Ma_step_163 (by decide) (fun _ => ?_) (fun z => absurd z ((fun z => by have z2 : nI n = nI 0 := z.trans nI_0k.symm; rw [nI_eq (by omega) (by omega)] at z2; omega)))
    refine er_aload_n d_Ma_step_181 rfl ?_
    refine er_iload d_Ma_step_182 rfl ?_
    refine er_iconst ((-1)) d_Ma_step_184 (by decide) ?_
    refine er_iconst ((-1)) d_Ma_step_185 (by decide) ?_
    refine er_callVE (As := [.int (nI n), .int (-1), .int (-1)]) d_Ma_step_186 k_Ma_step_118 hX rfl rfl rfl (Nat.le_of_ble_eq_true rfl) (by decide) (by decide) (ma_raise (y := none) (v := -1) (n := n) (R := R) (V := V) hl hk1 hwx hmt hok hD (fun _ q => by cases q) (by omega) ht hp hpf (fun f1 fs1 σ e2 h1 => ⟨_, rfl, ?_⟩) (fun e2 σ h1 => ⟨_, rfl, ?_⟩))
    · skip
      show jl_E l G m_Ma_step (0, 0) 189 [some (.ref 13), some (.int (nI p)), some (.int (nI 4)), some (.int (x)), some (.int (nI n))] [] (σ) P
      exact er_vret d_Ma_step_189 rfl (hG n f1 fs1 _ e1 e2 h1) (by decide) (by decide)
    · skip
      show jl_E l G m_Ma_step (0, 0) 189 [some (.ref 13), some (.int (nI p)), some (.int (nI 4)), some (.int (x)), some (.int (nI n))] [] (σ) P
      exact er_vret d_Ma_step_189 rfl (hE n _ e1 e2 (by have z := h1; rw [if_neg (by omega)] at z; exact z)) (by decide) (by decide)
  · skip
    obtain ⟨uw, ps, ty, va, hX, u1, u2, t1, t2, hS, hx, hto, hF⟩ := id hk1
    obtain ⟨s0, s1, s2, s3⟩ := id hS
    show jl_E l G m_Ma_step (0, 0) 159 [some (.ref 13), some (.int (nI p)), some (.int (nI 4)), some (.int (x)), none] [.int (nI 0)] (σ) P
    refine er_istore d_Ma_step_159 (by decide) ?_
    show jl_E l G m_Ma_step (0, 0) 161 [some (.ref 13), some (.int (nI p)), some (.int (nI 4)), some (.int (x)), some (.int (nI 0))] [] (σ) P
    refine er_iload d_Ma_step_161 rfl ?_
    refine er_if_ne 181 d_Ma_step_163 (by decide) (fun z => absurd rfl z) (fun _ => ?_)
    refine er_aload_n d_Ma_step_166 rfl ?_
    refine er_getf d_Ma_step_167 f_Ma_step_24 hX rfl ?_
    refine er_aload_n d_Ma_step_170 rfl ?_
    refine er_getf d_Ma_step_171 f_Ma_step_34 hX rfl ?_
    refine er_iload_n d_Ma_step_174 rfl ?_
    refine er_iconst ((nI (1))) d_Ma_step_175 (by decide) ?_
    refine er_iaddN d_Ma_step_176 ?_
    refine er_iastN d_Ma_step_177 u2 (by omega) (by omega) ?_
    rw [show upd (fun j => nI (ps j)) (t) ((nI ((p) + (1)))) = (fun j => nI ((va_up ps (t) ((p) + (1))) j)) from nI_up ps (t) ((p) + (1))]
    show jl_E l G m_Ma_step (0, 0) 178 [some (.ref 13), some (.int (nI p)), some (.int (nI 4)), some (.int (x)), some (.int (nI 0))] [] (σ.set (19) (.inl (0, 12, .inl (fun j => nI ((va_up ps (t) ((p) + (1))) j))))) P
    refine er_goto 189 d_Ma_step_178 (by decide) ?_
    exact er_vret d_Ma_step_189 rfl (hF6 _ e1 (KB.kz (N := 6) (R := R) (V := V) (mt := mt) (m := m) (p := p + 1) (t := t) (fs := fs) ⟨_, _, _, _, (jl_sn (by decide) hX), (jl_sn (by decide) u1), (jl_ss u2), (jl_sn (by decide) t1), (jl_sn (by decide) t2), ⟨(jl_sn (by decide) s0), (jl_sn (by decide) s1), (jl_sn (by decide) s2), (jl_sn (by decide) s3)⟩, (hx.pc), hto, (hF.set (by omega))⟩)) (by decide) (by decide)
theorem ma_st_5 (hl : l.stackTraces = false) {P : jl_O → jl_S → Prop}  (hk : KB σ0 mt σ (7 + (b + 2)) t m p (R) (V) (fs) (H) su dt dq aw) (hwx : WX σ0 tb pr ow fi ft mt sg D MP FH) (hmt : MtOk mt) (hok : WoOk tb pr ow fi) (ht : t < 12) (hp : p < 24) (hop : dop (D m) p = 5) (hag : dag (D m) p = (x)) (hD : ∀ m, mt m ≠ none → MdOk (D m)) (hpf : ∀ k ∈ fs, k.p < 24) (hft : ∀ k f, tyv (some (fty pr fi ft k f))) (hm40 : H.n ≤ 40) (hz18 : ∀ j, H.sz j ≤ 18) (hh : R 6 = some (b + 2)) (hb : b + 2 ≤ 5) (hpt : b + pts 5 ≤ 5) (hf : fit tb 5 x R V b H) (hO : ∀ R' V' H' σ', ins pr ow fi ft 5 x R V b H = .ok R' V' H' → KB σ0 mt σ' (7 + hgt R') t m (p + 1) R' V' fs H' su dt dq aw → P (.inl none) σ') (hG : ∀ n f' fs' σ', ins pr ow fi ft 5 x R V b H = .sg n → rse pr D none (-1) (⟨m, p, R, V⟩ :: fs) = some (f' :: fs') → KB σ0 mt σ' (7 + hgt f'.R) fs'.length f'.m f'.p f'.R f'.V fs' H su dt dq aw → P (.inl none) σ') (hE : ∀ n σ', ins pr ow fi ft 5 x R V b H = .sg n → rse pr D none (-1) (⟨m, p, R, V⟩ :: fs) = none → KZ σ0 σ' H (nI n) (nI 0) dq aw → P (.inl none) σ') (hF6 : ∀ σ', ins pr ow fi ft 5 x R V b H = .full → KZ σ0 σ' H (nI 6) (nI 0) dq aw → P (.inl none) σ') : jl_mE l G m_Ma_step [.ref 13] σ P := by
  obtain ⟨uw, ps, ty, va, hX, u1, u2, t1, t2, hS, hx, hto, hF⟩ := id hk
  obtain ⟨s0, s1, s2, s3⟩ := id hS
  obtain ⟨⟨⟨a, hma, hua⟩, hps1, hty, hva⟩, hfs, hln, hob⟩ := id hx
  have hma : mt m = some a := hma
  have hps1 : ps t = p := hps1
  have hty : ∀ j, j < _ → ty (t * 12 + j) = R j := hty
  have hva : ∀ j, j < _ → j ≠ 6 → va (t * 12 + j) = V j := hva
  have hRo := hx.rob
  obtain ⟨hM, g1, g2, g3, g4, g5, g6, g7, g8⟩ : MeD σ a (D m) (MP m) (FH m) := (hwx.fr hF hmt).2.2.2 m a hma
  refine jl_ofE (as := [.ref 13]) rfl (by decide) hl (jl_cc rfl jl_ca) (Nat.le_of_ble_eq_true rfl) ?_
  show jl_E l G m_Ma_step (0, 0) 0 [some (.ref 13), none, none, none, none] [] (σ) P
  refine er_aload_n d_Ma_step_0 rfl ?_
  refine er_getf d_Ma_step_1 f_Ma_step_24 hX rfl ?_
  refine er_aload_n d_Ma_step_4 rfl ?_
  refine er_getf d_Ma_step_5 f_Ma_step_34 hX rfl ?_
  refine er_ialdQ (v := (nI (p))) d_Ma_step_8 u2 (by omega) (by omega) (congrArg nI hps1) ?_
  refine er_istore_n d_Ma_step_9 (by decide) ?_
  show jl_E l G m_Ma_step (0, 0) 10 [some (.ref 13), some (.int (nI p)), none, none, none] [] (σ) P
  refine er_aload_n d_Ma_step_10 rfl ?_
  refine er_getf d_Ma_step_11 f_Ma_step_20 hX rfl ?_
  refine er_aload_n d_Ma_step_14 rfl ?_
  refine er_getf d_Ma_step_15 f_Ma_step_34 hX rfl ?_
  refine er_aaldQ (v := some (a)) d_Ma_step_18 u1 (by omega) (by omega) (hua) ?_
  show jl_E l G m_Ma_step (0, 0) 19 [some (.ref 13), some (.int (nI p)), none, none, none] [.ref a] (σ) P
  refine er_getf d_Ma_step_19 f_Ma_step_94 hM rfl ?_
  refine er_iload_n d_Ma_step_22 rfl ?_
  refine er_ialdQ (v := (nI (5))) d_Ma_step_23 g1 (by omega) (by omega) (congrArg nI hop) ?_
  refine er_istore_n d_Ma_step_24 (by decide) ?_
  show jl_E l G m_Ma_step (0, 0) 25 [some (.ref 13), some (.int (nI p)), some (.int (nI 5)), none, none] [] (σ) P
  refine er_aload_n d_Ma_step_25 rfl ?_
  refine er_getf d_Ma_step_26 f_Ma_step_20 hX rfl ?_
  refine er_aload_n d_Ma_step_29 rfl ?_
  refine er_getf d_Ma_step_30 f_Ma_step_34 hX rfl ?_
  refine er_aaldQ (v := some (a)) d_Ma_step_33 u1 (by omega) (by omega) (hua) ?_
  show jl_E l G m_Ma_step (0, 0) 34 [some (.ref 13), some (.int (nI p)), some (.int (nI 5)), none, none] [.ref a] (σ) P
  refine er_getf d_Ma_step_34 f_Ma_step_97 hM rfl ?_
  refine er_iload_n d_Ma_step_37 rfl ?_
  refine er_ialdQ (v := (x)) d_Ma_step_38 g2 (by omega) (by omega) (hag) ?_
  refine er_istore_n d_Ma_step_39 (by decide) ?_
  show jl_E l G m_Ma_step (0, 0) 40 [some (.ref 13), some (.int (nI p)), some (.int (nI 5)), some (.int (x)), none] [] (σ) P
  refine er_iload_n d_Ma_step_40 rfl ?_
  refine er_tableOut 153 d_Ma_step_41 (by decide +kernel) (by decide) ?_
  refine er_aload_n d_Ma_step_153 rfl ?_
  refine er_iload_n d_Ma_step_154 rfl ?_
  refine er_iload_n d_Ma_step_155 rfl ?_
  refine er_callVE (As := [.int (nI 5), .int (x)]) d_Ma_step_156 k_Ma_step_114 hX rfl rfl rfl (Nat.le_of_ble_eq_true rfl) (by decide) (by decide) (ma_ins_5 hl hwx hmt hok hft ht hm40 hz18 hk hh hb hpt hf (fun R1 V1 H1 σ e1 hk1 => ⟨_, rfl, ?_⟩) (fun n σ e1 hk1 => ⟨_, rfl, ?_⟩) (fun σ e1 hk1 => ⟨_, rfl, ?_⟩))
  · skip
    obtain ⟨uw, ps, ty, va, hX, u1, u2, t1, t2, hS, hx, hto, hF⟩ := id hk1
    obtain ⟨s0, s1, s2, s3⟩ := id hS
    show jl_E l G m_Ma_step (0, 0) 159 [some (.ref 13), some (.int (nI p)), some (.int (nI 5)), some (.int (x)), none] [.int (nI 0)] (σ) P
    refine er_istore d_Ma_step_159 (by decide) ?_
    show jl_E l G m_Ma_step (0, 0) 161 [some (.ref 13), some (.int (nI p)), some (.int (nI 5)), some (.int (x)), some (.int (nI 0))] [] (σ) P
    refine er_iload d_Ma_step_161 rfl ?_
    refine er_if_ne 181 d_Ma_step_163 (by decide) (fun z => absurd rfl z) (fun _ => ?_)
    refine er_aload_n d_Ma_step_166 rfl ?_
    refine er_getf d_Ma_step_167 f_Ma_step_24 hX rfl ?_
    refine er_aload_n d_Ma_step_170 rfl ?_
    refine er_getf d_Ma_step_171 f_Ma_step_34 hX rfl ?_
    refine er_iload_n d_Ma_step_174 rfl ?_
    refine er_iconst ((nI (1))) d_Ma_step_175 (by decide) ?_
    refine er_iaddN d_Ma_step_176 ?_
    refine er_iastN d_Ma_step_177 u2 (by omega) (by omega) ?_
    rw [show upd (fun j => nI (ps j)) (t) ((nI ((p) + (1)))) = (fun j => nI ((va_up ps (t) ((p) + (1))) j)) from nI_up ps (t) ((p) + (1))]
    show jl_E l G m_Ma_step (0, 0) 178 [some (.ref 13), some (.int (nI p)), some (.int (nI 5)), some (.int (x)), some (.int (nI 0))] [] (σ.set (19) (.inl (0, 12, .inl (fun j => nI ((va_up ps (t) ((p) + (1))) j))))) P
    refine er_goto 189 d_Ma_step_178 (by decide) ?_
    exact er_vret d_Ma_step_189 rfl (hO R1 V1 H1 _ e1 ⟨_, _, _, _, (jl_sn (by decide) hX), (jl_sn (by decide) u1), (jl_ss u2), (jl_sn (by decide) t1), (jl_sn (by decide) t2), ⟨(jl_sn (by decide) s0), (jl_sn (by decide) s1), (jl_sn (by decide) s2), (jl_sn (by decide) s3)⟩, (hx.pc), hto, (hF.set (by omega))⟩) (by decide) (by decide)
  · skip
    have hn14 := ins_sg e1
    obtain ⟨uw, ps, ty, va, hX, u1, u2, t1, t2, hS, hx, hto, hF⟩ := id hk1
    obtain ⟨s0, s1, s2, s3⟩ := id hS
    show jl_E l G m_Ma_step (0, 0) 159 [some (.ref 13), some (.int (nI p)), some (.int (nI 5)), some (.int (x)), none] [.int (nI n)] (σ) P
    refine er_istore d_Ma_step_159 (by decide) ?_
    show jl_E l G m_Ma_step (0, 0) 161 [some (.ref 13), some (.int (nI p)), some (.int (nI 5)), some (.int (x)), some (.int (nI n))] [] (σ) P
    refine er_iload d_Ma_step_161 rfl ?_
    refine er_if_ne 181 d_Ma_step_163 (by decide) (fun _ => ?_) (fun z => absurd z ((fun z => by have z2 : nI n = nI 0 := z.trans nI_0k.symm; rw [nI_eq (by omega) (by omega)] at z2; omega)))
    refine er_aload_n d_Ma_step_181 rfl ?_
    refine er_iload d_Ma_step_182 rfl ?_
    refine er_iconst ((-1)) d_Ma_step_184 (by decide) ?_
    refine er_iconst ((-1)) d_Ma_step_185 (by decide) ?_
    refine er_callVE (As := [.int (nI n), .int (-1), .int (-1)]) d_Ma_step_186 k_Ma_step_118 hX rfl rfl rfl (Nat.le_of_ble_eq_true rfl) (by decide) (by decide) (ma_raise (y := none) (v := -1) (n := n) (R := R) (V := V) hl hk1 hwx hmt hok hD (fun _ q => by cases q) (by omega) ht hp hpf (fun f1 fs1 σ e2 h1 => ⟨_, rfl, ?_⟩) (fun e2 σ h1 => ⟨_, rfl, ?_⟩))
    · skip
      show jl_E l G m_Ma_step (0, 0) 189 [some (.ref 13), some (.int (nI p)), some (.int (nI 5)), some (.int (x)), some (.int (nI n))] [] (σ) P
      exact er_vret d_Ma_step_189 rfl (hG n f1 fs1 _ e1 e2 h1) (by decide) (by decide)
    · skip
      show jl_E l G m_Ma_step (0, 0) 189 [some (.ref 13), some (.int (nI p)), some (.int (nI 5)), some (.int (x)), some (.int (nI n))] [] (σ) P
      exact er_vret d_Ma_step_189 rfl (hE n _ e1 e2 (by have z := h1; rw [if_neg (by omega)] at z; exact z)) (by decide) (by decide)
  · skip
    obtain ⟨uw, ps, ty, va, hX, u1, u2, t1, t2, hS, hx, hto, hF⟩ := id hk1
    obtain ⟨s0, s1, s2, s3⟩ := id hS
    show jl_E l G m_Ma_step (0, 0) 159 [some (.ref 13), some (.int (nI p)), some (.int (nI 5)), some (.int (x)), none] [.int (nI 0)] (σ) P
    refine er_istore d_Ma_step_159 (by decide) ?_
    show jl_E l G m_Ma_step (0, 0) 161 [some (.ref 13), some (.int (nI p)), some (.int (nI 5)), some (.int (x)), some (.int (nI 0))] [] (σ) P
    refine er_iload d_Ma_step_161 rfl ?_
    refine er_if_ne 181 d_Ma_step_163 (by decide) (fun z => absurd rfl z) (fun _ => ?_)
    refine er_aload_n d_Ma_step_166 rfl ?_
    refine er_getf d_Ma_step_167 f_Ma_step_24 hX rfl ?_
    refine er_aload_n d_Ma_step_170 rfl ?_
    refine er_getf d_Ma_step_171 f_Ma_step_34 hX rfl ?_
    refine er_iload_n d_Ma_step_174 rfl ?_
    refine er_iconst ((nI (1))) d_Ma_step_175 (by decide) ?_
    refine er_iaddN d_Ma_step_176 ?_
    refine er_iastN d_Ma_step_177 u2 (by omega) (by omega) ?_
    rw [show upd (fun j => nI (ps j)) (t) ((nI ((p) + (1)))) = (fun j => nI ((va_up ps (t) ((p) + (1))) j)) from nI_up ps (t) ((p) + (1))]
    show jl_E l G m_Ma_step (0, 0) 178 [some (.ref 13), some (.int (nI p)), some (.int (nI 5)), some (.int (x)), some (.int (nI 0))] [] (σ.set (19) (.inl (0, 12, .inl (fun j => nI ((va_up ps (t) ((p) + (1))) j))))) P
    refine er_goto 189 d_Ma_step_178 (by decide) ?_
    exact er_vret d_Ma_step_189 rfl (hF6 _ e1 (KB.kz (N := 6) (R := R) (V := V) (mt := mt) (m := m) (p := p + 1) (t := t) (fs := fs) ⟨_, _, _, _, (jl_sn (by decide) hX), (jl_sn (by decide) u1), (jl_ss u2), (jl_sn (by decide) t1), (jl_sn (by decide) t2), ⟨(jl_sn (by decide) s0), (jl_sn (by decide) s1), (jl_sn (by decide) s2), (jl_sn (by decide) s3)⟩, (hx.pc), hto, (hF.set (by omega))⟩)) (by decide) (by decide)
theorem ma_st_6 (hl : l.stackTraces = false) {P : jl_O → jl_S → Prop}  (hk : KB σ0 mt σ (7 + (b + 2)) t m p (R) (V) (fs) (H) su dt dq aw) (hwx : WX σ0 tb pr ow fi ft mt sg D MP FH) (hmt : MtOk mt) (hok : WoOk tb pr ow fi) (ht : t < 12) (hp : p < 24) (hop : dop (D m) p = 6) (hag : dag (D m) p = (x)) (hD : ∀ m, mt m ≠ none → MdOk (D m)) (hpf : ∀ k ∈ fs, k.p < 24) (hft : ∀ k f, tyv (some (fty pr fi ft k f))) (hm40 : H.n ≤ 40) (hz18 : ∀ j, H.sz j ≤ 18) (hh : R 6 = some (b + 2)) (hb : b + 2 ≤ 5) (hpt : b + pts 6 ≤ 5) (hf : fit tb 6 x R V b H) (hO : ∀ R' V' H' σ', ins pr ow fi ft 6 x R V b H = .ok R' V' H' → KB σ0 mt σ' (7 + hgt R') t m (p + 1) R' V' fs H' su dt dq aw → P (.inl none) σ') (hG : ∀ n f' fs' σ', ins pr ow fi ft 6 x R V b H = .sg n → rse pr D none (-1) (⟨m, p, R, V⟩ :: fs) = some (f' :: fs') → KB σ0 mt σ' (7 + hgt f'.R) fs'.length f'.m f'.p f'.R f'.V fs' H su dt dq aw → P (.inl none) σ') (hE : ∀ n σ', ins pr ow fi ft 6 x R V b H = .sg n → rse pr D none (-1) (⟨m, p, R, V⟩ :: fs) = none → KZ σ0 σ' H (nI n) (nI 0) dq aw → P (.inl none) σ') (hF6 : ∀ σ', ins pr ow fi ft 6 x R V b H = .full → KZ σ0 σ' H (nI 6) (nI 0) dq aw → P (.inl none) σ') : jl_mE l G m_Ma_step [.ref 13] σ P := by
  obtain ⟨uw, ps, ty, va, hX, u1, u2, t1, t2, hS, hx, hto, hF⟩ := id hk
  obtain ⟨s0, s1, s2, s3⟩ := id hS
  obtain ⟨⟨⟨a, hma, hua⟩, hps1, hty, hva⟩, hfs, hln, hob⟩ := id hx
  have hma : mt m = some a := hma
  have hps1 : ps t = p := hps1
  have hty : ∀ j, j < _ → ty (t * 12 + j) = R j := hty
  have hva : ∀ j, j < _ → j ≠ 6 → va (t * 12 + j) = V j := hva
  have hRo := hx.rob
  obtain ⟨hM, g1, g2, g3, g4, g5, g6, g7, g8⟩ : MeD σ a (D m) (MP m) (FH m) := (hwx.fr hF hmt).2.2.2 m a hma
  refine jl_ofE (as := [.ref 13]) rfl (by decide) hl (jl_cc rfl jl_ca) (Nat.le_of_ble_eq_true rfl) ?_
  show jl_E l G m_Ma_step (0, 0) 0 [some (.ref 13), none, none, none, none] [] (σ) P
  refine er_aload_n d_Ma_step_0 rfl ?_
  refine er_getf d_Ma_step_1 f_Ma_step_24 hX rfl ?_
  refine er_aload_n d_Ma_step_4 rfl ?_
  refine er_getf d_Ma_step_5 f_Ma_step_34 hX rfl ?_
  refine er_ialdQ (v := (nI (p))) d_Ma_step_8 u2 (by omega) (by omega) (congrArg nI hps1) ?_
  refine er_istore_n d_Ma_step_9 (by decide) ?_
  show jl_E l G m_Ma_step (0, 0) 10 [some (.ref 13), some (.int (nI p)), none, none, none] [] (σ) P
  refine er_aload_n d_Ma_step_10 rfl ?_
  refine er_getf d_Ma_step_11 f_Ma_step_20 hX rfl ?_
  refine er_aload_n d_Ma_step_14 rfl ?_
  refine er_getf d_Ma_step_15 f_Ma_step_34 hX rfl ?_
  refine er_aaldQ (v := some (a)) d_Ma_step_18 u1 (by omega) (by omega) (hua) ?_
  show jl_E l G m_Ma_step (0, 0) 19 [some (.ref 13), some (.int (nI p)), none, none, none] [.ref a] (σ) P
  refine er_getf d_Ma_step_19 f_Ma_step_94 hM rfl ?_
  refine er_iload_n d_Ma_step_22 rfl ?_
  refine er_ialdQ (v := (nI (6))) d_Ma_step_23 g1 (by omega) (by omega) (congrArg nI hop) ?_
  refine er_istore_n d_Ma_step_24 (by decide) ?_
  show jl_E l G m_Ma_step (0, 0) 25 [some (.ref 13), some (.int (nI p)), some (.int (nI 6)), none, none] [] (σ) P
  refine er_aload_n d_Ma_step_25 rfl ?_
  refine er_getf d_Ma_step_26 f_Ma_step_20 hX rfl ?_
  refine er_aload_n d_Ma_step_29 rfl ?_
  refine er_getf d_Ma_step_30 f_Ma_step_34 hX rfl ?_
  refine er_aaldQ (v := some (a)) d_Ma_step_33 u1 (by omega) (by omega) (hua) ?_
  show jl_E l G m_Ma_step (0, 0) 34 [some (.ref 13), some (.int (nI p)), some (.int (nI 6)), none, none] [.ref a] (σ) P
  refine er_getf d_Ma_step_34 f_Ma_step_97 hM rfl ?_
  refine er_iload_n d_Ma_step_37 rfl ?_
  refine er_ialdQ (v := (x)) d_Ma_step_38 g2 (by omega) (by omega) (hag) ?_
  refine er_istore_n d_Ma_step_39 (by decide) ?_
  show jl_E l G m_Ma_step (0, 0) 40 [some (.ref 13), some (.int (nI p)), some (.int (nI 6)), some (.int (x)), none] [] (σ) P
  refine er_iload_n d_Ma_step_40 rfl ?_
  refine er_tableOut 153 d_Ma_step_41 (by decide +kernel) (by decide) ?_
  refine er_aload_n d_Ma_step_153 rfl ?_
  refine er_iload_n d_Ma_step_154 rfl ?_
  refine er_iload_n d_Ma_step_155 rfl ?_
  refine er_callVE (As := [.int (nI 6), .int (x)]) d_Ma_step_156 k_Ma_step_114 hX rfl rfl rfl (Nat.le_of_ble_eq_true rfl) (by decide) (by decide) (ma_ins_6 hl hwx hmt hok hft ht hm40 hz18 hk hh hb hpt hf (fun R1 V1 H1 σ e1 hk1 => ⟨_, rfl, ?_⟩) (fun n σ e1 hk1 => ⟨_, rfl, ?_⟩) (fun σ e1 hk1 => ⟨_, rfl, ?_⟩))
  · skip
    obtain ⟨uw, ps, ty, va, hX, u1, u2, t1, t2, hS, hx, hto, hF⟩ := id hk1
    obtain ⟨s0, s1, s2, s3⟩ := id hS
    show jl_E l G m_Ma_step (0, 0) 159 [some (.ref 13), some (.int (nI p)), some (.int (nI 6)), some (.int (x)), none] [.int (nI 0)] (σ) P
    refine er_istore d_Ma_step_159 (by decide) ?_
    show jl_E l G m_Ma_step (0, 0) 161 [some (.ref 13), some (.int (nI p)), some (.int (nI 6)), some (.int (x)), some (.int (nI 0))] [] (σ) P
    refine er_iload d_Ma_step_161 rfl ?_
    refine er_if_ne 181 d_Ma_step_163 (by decide) (fun z => absurd rfl z) (fun _ => ?_)
    refine er_aload_n d_Ma_step_166 rfl ?_
    refine er_getf d_Ma_step_167 f_Ma_step_24 hX rfl ?_
    refine er_aload_n d_Ma_step_170 rfl ?_
    refine er_getf d_Ma_step_171 f_Ma_step_34 hX rfl ?_
    refine er_iload_n d_Ma_step_174 rfl ?_
    refine er_iconst ((nI (1))) d_Ma_step_175 (by decide) ?_
    refine er_iaddN d_Ma_step_176 ?_
    refine er_iastN d_Ma_step_177 u2 (by omega) (by omega) ?_
    rw [show upd (fun j => nI (ps j)) (t) ((nI ((p) + (1)))) = (fun j => nI ((va_up ps (t) ((p) + (1))) j)) from nI_up ps (t) ((p) + (1))]
    show jl_E l G m_Ma_step (0, 0) 178 [some (.ref 13), some (.int (nI p)), some (.int (nI 6)), some (.int (x)), some (.int (nI 0))] [] (σ.set (19) (.inl (0, 12, .inl (fun j => nI ((va_up ps (t) ((p) + (1))) j))))) P
    refine er_goto 189 d_Ma_step_178 (by decide) ?_
    exact er_vret d_Ma_step_189 rfl (hO R1 V1 H1 _ e1 ⟨_, _, _, _, (jl_sn (by decide) hX), (jl_sn (by decide) u1), (jl_ss u2), (jl_sn (by decide) t1), (jl_sn (by decide) t2), ⟨(jl_sn (by decide) s0), (jl_sn (by decide) s1), (jl_sn (by decide) s2), (jl_sn (by decide) s3)⟩, (hx.pc), hto, (hF.set (by omega))⟩) (by decide) (by decide)
  · skip
    have hn14 := ins_sg e1
    obtain ⟨uw, ps, ty, va, hX, u1, u2, t1, t2, hS, hx, hto, hF⟩ := id hk1
    obtain ⟨s0, s1, s2, s3⟩ := id hS
    show jl_E l G m_Ma_step (0, 0) 159 [some (.ref 13), some (.int (nI p)), some (.int (nI 6)), some (.int (x)), none] [.int (nI n)] (σ) P
    refine er_istore d_Ma_step_159 (by decide) ?_
    show jl_E l G m_Ma_step (0, 0) 161 [some (.ref 13), some (.int (nI p)), some (.int (nI 6)), some (.int (x)), some (.int (nI n))] [] (σ) P
    refine er_iload d_Ma_step_161 rfl ?_
    refine er_if_ne 181 d_Ma_step_163 (by decide) (fun _ => ?_) (fun z => absurd z ((fun z => by have z2 : nI n = nI 0 := z.trans nI_0k.symm; rw [nI_eq (by omega) (by omega)] at z2; omega)))
    refine er_aload_n d_Ma_step_181 rfl ?_
    refine er_iload d_Ma_step_182 rfl ?_
    refine er_iconst ((-1)) d_Ma_step_184 (by decide) ?_
    refine er_iconst ((-1)) d_Ma_step_185 (by decide) ?_
    refine er_callVE (As := [.int (nI n), .int (-1), .int (-1)]) d_Ma_step_186 k_Ma_step_118 hX rfl rfl rfl (Nat.le_of_ble_eq_true rfl) (by decide) (by decide) (ma_raise (y := none) (v := -1) (n := n) (R := R) (V := V) hl hk1 hwx hmt hok hD (fun _ q => by cases q) (by omega) ht hp hpf (fun f1 fs1 σ e2 h1 => ⟨_, rfl, ?_⟩) (fun e2 σ h1 => ⟨_, rfl, ?_⟩))
    · skip
      show jl_E l G m_Ma_step (0, 0) 189 [some (.ref 13), some (.int (nI p)), some (.int (nI 6)), some (.int (x)), some (.int (nI n))] [] (σ) P
      exact er_vret d_Ma_step_189 rfl (hG n f1 fs1 _ e1 e2 h1) (by decide) (by decide)
    · skip
      show jl_E l G m_Ma_step (0, 0) 189 [some (.ref 13), some (.int (nI p)), some (.int (nI 6)), some (.int (x)), some (.int (nI n))] [] (σ) P
      exact er_vret d_Ma_step_189 rfl (hE n _ e1 e2 (by have z := h1; rw [if_neg (by omega)] at z; exact z)) (by decide) (by decide)
  · skip
    obtain ⟨uw, ps, ty, va, hX, u1, u2, t1, t2, hS, hx, hto, hF⟩ := id hk1
    obtain ⟨s0, s1, s2, s3⟩ := id hS
    show jl_E l G m_Ma_step (0, 0) 159 [some (.ref 13), some (.int (nI p)), some (.int (nI 6)), some (.int (x)), none] [.int (nI 0)] (σ) P
    refine er_istore d_Ma_step_159 (by decide) ?_
    show jl_E l G m_Ma_step (0, 0) 161 [some (.ref 13), some (.int (nI p)), some (.int (nI 6)), some (.int (x)), some (.int (nI 0))] [] (σ) P
    refine er_iload d_Ma_step_161 rfl ?_
    refine er_if_ne 181 d_Ma_step_163 (by decide) (fun z => absurd rfl z) (fun _ => ?_)
    refine er_aload_n d_Ma_step_166 rfl ?_
    refine er_getf d_Ma_step_167 f_Ma_step_24 hX rfl ?_
    refine er_aload_n d_Ma_step_170 rfl ?_
    refine er_getf d_Ma_step_171 f_Ma_step_34 hX rfl ?_
    refine er_iload_n d_Ma_step_174 rfl ?_
    refine er_iconst ((nI (1))) d_Ma_step_175 (by decide) ?_
    refine er_iaddN d_Ma_step_176 ?_
    refine er_iastN d_Ma_step_177 u2 (by omega) (by omega) ?_
    rw [show upd (fun j => nI (ps j)) (t) ((nI ((p) + (1)))) = (fun j => nI ((va_up ps (t) ((p) + (1))) j)) from nI_up ps (t) ((p) + (1))]
    show jl_E l G m_Ma_step (0, 0) 178 [some (.ref 13), some (.int (nI p)), some (.int (nI 6)), some (.int (x)), some (.int (nI 0))] [] (σ.set (19) (.inl (0, 12, .inl (fun j => nI ((va_up ps (t) ((p) + (1))) j))))) P
    refine er_goto 189 d_Ma_step_178 (by decide) ?_
    exact er_vret d_Ma_step_189 rfl (hF6 _ e1 (KB.kz (N := 6) (R := R) (V := V) (mt := mt) (m := m) (p := p + 1) (t := t) (fs := fs) ⟨_, _, _, _, (jl_sn (by decide) hX), (jl_sn (by decide) u1), (jl_ss u2), (jl_sn (by decide) t1), (jl_sn (by decide) t2), ⟨(jl_sn (by decide) s0), (jl_sn (by decide) s1), (jl_sn (by decide) s2), (jl_sn (by decide) s3)⟩, (hx.pc), hto, (hF.set (by omega))⟩)) (by decide) (by decide)
theorem ma_st_10 (hl : l.stackTraces = false) {P : jl_O → jl_S → Prop}  (hk : KB σ0 mt σ (7 + b) t m p (R) (V) (fs) (H) su dt dq aw) (hwx : WX σ0 tb pr ow fi ft mt sg D MP FH) (hmt : MtOk mt) (hok : WoOk tb pr ow fi) (ht : t < 12) (hp : p < 24) (hop : dop (D m) p = 10) (hag : dag (D m) p = (x)) (hD : ∀ m, mt m ≠ none → MdOk (D m)) (hpf : ∀ k ∈ fs, k.p < 24) (hft : ∀ k f, tyv (some (fty pr fi ft k f))) (hm40 : H.n ≤ 40) (hz18 : ∀ j, H.sz j ≤ 18) (hh : R 6 = some (b)) (hb : b ≤ 5) (hpt : b + pts 10 ≤ 5) (hf : fit tb 10 x R V b H) (hO : ∀ R' V' H' σ', ins pr ow fi ft 10 x R V b H = .ok R' V' H' → KB σ0 mt σ' (7 + hgt R') t m (p + 1) R' V' fs H' su dt dq aw → P (.inl none) σ') (hG : ∀ n f' fs' σ', ins pr ow fi ft 10 x R V b H = .sg n → rse pr D none (-1) (⟨m, p, R, V⟩ :: fs) = some (f' :: fs') → KB σ0 mt σ' (7 + hgt f'.R) fs'.length f'.m f'.p f'.R f'.V fs' H su dt dq aw → P (.inl none) σ') (hE : ∀ n σ', ins pr ow fi ft 10 x R V b H = .sg n → rse pr D none (-1) (⟨m, p, R, V⟩ :: fs) = none → KZ σ0 σ' H (nI n) (nI 0) dq aw → P (.inl none) σ') (hF6 : ∀ σ', ins pr ow fi ft 10 x R V b H = .full → KZ σ0 σ' H (nI 6) (nI 0) dq aw → P (.inl none) σ') : jl_mE l G m_Ma_step [.ref 13] σ P := by
  obtain ⟨uw, ps, ty, va, hX, u1, u2, t1, t2, hS, hx, hto, hF⟩ := id hk
  obtain ⟨s0, s1, s2, s3⟩ := id hS
  obtain ⟨⟨⟨a, hma, hua⟩, hps1, hty, hva⟩, hfs, hln, hob⟩ := id hx
  have hma : mt m = some a := hma
  have hps1 : ps t = p := hps1
  have hty : ∀ j, j < _ → ty (t * 12 + j) = R j := hty
  have hva : ∀ j, j < _ → j ≠ 6 → va (t * 12 + j) = V j := hva
  have hRo := hx.rob
  obtain ⟨hM, g1, g2, g3, g4, g5, g6, g7, g8⟩ : MeD σ a (D m) (MP m) (FH m) := (hwx.fr hF hmt).2.2.2 m a hma
  refine jl_ofE (as := [.ref 13]) rfl (by decide) hl (jl_cc rfl jl_ca) (Nat.le_of_ble_eq_true rfl) ?_
  show jl_E l G m_Ma_step (0, 0) 0 [some (.ref 13), none, none, none, none] [] (σ) P
  refine er_aload_n d_Ma_step_0 rfl ?_
  refine er_getf d_Ma_step_1 f_Ma_step_24 hX rfl ?_
  refine er_aload_n d_Ma_step_4 rfl ?_
  refine er_getf d_Ma_step_5 f_Ma_step_34 hX rfl ?_
  refine er_ialdQ (v := (nI (p))) d_Ma_step_8 u2 (by omega) (by omega) (congrArg nI hps1) ?_
  refine er_istore_n d_Ma_step_9 (by decide) ?_
  show jl_E l G m_Ma_step (0, 0) 10 [some (.ref 13), some (.int (nI p)), none, none, none] [] (σ) P
  refine er_aload_n d_Ma_step_10 rfl ?_
  refine er_getf d_Ma_step_11 f_Ma_step_20 hX rfl ?_
  refine er_aload_n d_Ma_step_14 rfl ?_
  refine er_getf d_Ma_step_15 f_Ma_step_34 hX rfl ?_
  refine er_aaldQ (v := some (a)) d_Ma_step_18 u1 (by omega) (by omega) (hua) ?_
  show jl_E l G m_Ma_step (0, 0) 19 [some (.ref 13), some (.int (nI p)), none, none, none] [.ref a] (σ) P
  refine er_getf d_Ma_step_19 f_Ma_step_94 hM rfl ?_
  refine er_iload_n d_Ma_step_22 rfl ?_
  refine er_ialdQ (v := (nI (10))) d_Ma_step_23 g1 (by omega) (by omega) (congrArg nI hop) ?_
  refine er_istore_n d_Ma_step_24 (by decide) ?_
  show jl_E l G m_Ma_step (0, 0) 25 [some (.ref 13), some (.int (nI p)), some (.int (nI 10)), none, none] [] (σ) P
  refine er_aload_n d_Ma_step_25 rfl ?_
  refine er_getf d_Ma_step_26 f_Ma_step_20 hX rfl ?_
  refine er_aload_n d_Ma_step_29 rfl ?_
  refine er_getf d_Ma_step_30 f_Ma_step_34 hX rfl ?_
  refine er_aaldQ (v := some (a)) d_Ma_step_33 u1 (by omega) (by omega) (hua) ?_
  show jl_E l G m_Ma_step (0, 0) 34 [some (.ref 13), some (.int (nI p)), some (.int (nI 10)), none, none] [.ref a] (σ) P
  refine er_getf d_Ma_step_34 f_Ma_step_97 hM rfl ?_
  refine er_iload_n d_Ma_step_37 rfl ?_
  refine er_ialdQ (v := (x)) d_Ma_step_38 g2 (by omega) (by omega) (hag) ?_
  refine er_istore_n d_Ma_step_39 (by decide) ?_
  show jl_E l G m_Ma_step (0, 0) 40 [some (.ref 13), some (.int (nI p)), some (.int (nI 10)), some (.int (x)), none] [] (σ) P
  refine er_iload_n d_Ma_step_40 rfl ?_
  refine er_tableIn (off := 112) 153 d_Ma_step_41 (by decide +kernel) (by decide +kernel) (by decide +kernel) (by decide) ?_
  refine er_aload_n d_Ma_step_153 rfl ?_
  refine er_iload_n d_Ma_step_154 rfl ?_
  refine er_iload_n d_Ma_step_155 rfl ?_
  refine er_callVE (As := [.int (nI 10), .int (x)]) d_Ma_step_156 k_Ma_step_114 hX rfl rfl rfl (Nat.le_of_ble_eq_true rfl) (by decide) (by decide) (ma_ins_10 hl hwx hmt hok hft ht hm40 hz18 hk hh hb hpt hf (fun R1 V1 H1 σ e1 hk1 => ⟨_, rfl, ?_⟩) (fun n σ e1 hk1 => ⟨_, rfl, ?_⟩) (fun σ e1 hk1 => ⟨_, rfl, ?_⟩))
  · skip
    obtain ⟨uw, ps, ty, va, hX, u1, u2, t1, t2, hS, hx, hto, hF⟩ := id hk1
    obtain ⟨s0, s1, s2, s3⟩ := id hS
    show jl_E l G m_Ma_step (0, 0) 159 [some (.ref 13), some (.int (nI p)), some (.int (nI 10)), some (.int (x)), none] [.int (nI 0)] (σ) P
    refine er_istore d_Ma_step_159 (by decide) ?_
    show jl_E l G m_Ma_step (0, 0) 161 [some (.ref 13), some (.int (nI p)), some (.int (nI 10)), some (.int (x)), some (.int (nI 0))] [] (σ) P
    refine er_iload d_Ma_step_161 rfl ?_
    refine er_if_ne 181 d_Ma_step_163 (by decide) (fun z => absurd rfl z) (fun _ => ?_)
    refine er_aload_n d_Ma_step_166 rfl ?_
    refine er_getf d_Ma_step_167 f_Ma_step_24 hX rfl ?_
    refine er_aload_n d_Ma_step_170 rfl ?_
    refine er_getf d_Ma_step_171 f_Ma_step_34 hX rfl ?_
    refine er_iload_n d_Ma_step_174 rfl ?_
    refine er_iconst ((nI (1))) d_Ma_step_175 (by decide) ?_
    refine er_iaddN d_Ma_step_176 ?_
    refine er_iastN d_Ma_step_177 u2 (by omega) (by omega) ?_
    rw [show upd (fun j => nI (ps j)) (t) ((nI ((p) + (1)))) = (fun j => nI ((va_up ps (t) ((p) + (1))) j)) from nI_up ps (t) ((p) + (1))]
    show jl_E l G m_Ma_step (0, 0) 178 [some (.ref 13), some (.int (nI p)), some (.int (nI 10)), some (.int (x)), some (.int (nI 0))] [] (σ.set (19) (.inl (0, 12, .inl (fun j => nI ((va_up ps (t) ((p) + (1))) j))))) P
    refine er_goto 189 d_Ma_step_178 (by decide) ?_
    exact er_vret d_Ma_step_189 rfl (hO R1 V1 H1 _ e1 ⟨_, _, _, _, (jl_sn (by decide) hX), (jl_sn (by decide) u1), (jl_ss u2), (jl_sn (by decide) t1), (jl_sn (by decide) t2), ⟨(jl_sn (by decide) s0), (jl_sn (by decide) s1), (jl_sn (by decide) s2), (jl_sn (by decide) s3)⟩, (hx.pc), hto, (hF.set (by omega))⟩) (by decide) (by decide)
  · skip
    have hn14 := ins_sg e1
    obtain ⟨uw, ps, ty, va, hX, u1, u2, t1, t2, hS, hx, hto, hF⟩ := id hk1
    obtain ⟨s0, s1, s2, s3⟩ := id hS
    show jl_E l G m_Ma_step (0, 0) 159 [some (.ref 13), some (.int (nI p)), some (.int (nI 10)), some (.int (x)), none] [.int (nI n)] (σ) P
    refine er_istore d_Ma_step_159 (by decide) ?_
    show jl_E l G m_Ma_step (0, 0) 161 [some (.ref 13), some (.int (nI p)), some (.int (nI 10)), some (.int (x)), some (.int (nI n))] [] (σ) P
    refine er_iload d_Ma_step_161 rfl ?_
    refine er_if_ne 181 d_Ma_step_163 (by decide) (fun _ => ?_) (fun z => absurd z ((fun z => by have z2 : nI n = nI 0 := z.trans nI_0k.symm; rw [nI_eq (by omega) (by omega)] at z2; omega)))
    refine er_aload_n d_Ma_step_181 rfl ?_
    refine er_iload d_Ma_step_182 rfl ?_
    refine er_iconst ((-1)) d_Ma_step_184 (by decide) ?_
    refine er_iconst ((-1)) d_Ma_step_185 (by decide) ?_
    refine er_callVE (As := [.int (nI n), .int (-1), .int (-1)]) d_Ma_step_186 k_Ma_step_118 hX rfl rfl rfl (Nat.le_of_ble_eq_true rfl) (by decide) (by decide) (ma_raise (y := none) (v := -1) (n := n) (R := R) (V := V) hl hk1 hwx hmt hok hD (fun _ q => by cases q) (by omega) ht hp hpf (fun f1 fs1 σ e2 h1 => ⟨_, rfl, ?_⟩) (fun e2 σ h1 => ⟨_, rfl, ?_⟩))
    · skip
      show jl_E l G m_Ma_step (0, 0) 189 [some (.ref 13), some (.int (nI p)), some (.int (nI 10)), some (.int (x)), some (.int (nI n))] [] (σ) P
      exact er_vret d_Ma_step_189 rfl (hG n f1 fs1 _ e1 e2 h1) (by decide) (by decide)
    · skip
      show jl_E l G m_Ma_step (0, 0) 189 [some (.ref 13), some (.int (nI p)), some (.int (nI 10)), some (.int (x)), some (.int (nI n))] [] (σ) P
      exact er_vret d_Ma_step_189 rfl (hE n _ e1 e2 (by have z := h1; rw [if_neg (by omega)] at z; exact z)) (by decide) (by decide)
  · skip
    obtain ⟨uw, ps, ty, va, hX, u1, u2, t1, t2, hS, hx, hto, hF⟩ := id hk1
    obtain ⟨s0, s1, s2, s3⟩ := id hS
    show jl_E l G m_Ma_step (0, 0) 159 [some (.ref 13), some (.int (nI p)), some (.int (nI 10)), some (.int (x)), none] [.int (nI 0)] (σ) P
    refine er_istore d_Ma_step_159 (by decide) ?_
    show jl_E l G m_Ma_step (0, 0) 161 [some (.ref 13), some (.int (nI p)), some (.int (nI 10)), some (.int (x)), some (.int (nI 0))] [] (σ) P
    refine er_iload d_Ma_step_161 rfl ?_
    refine er_if_ne 181 d_Ma_step_163 (by decide) (fun z => absurd rfl z) (fun _ => ?_)
    refine er_aload_n d_Ma_step_166 rfl ?_
    refine er_getf d_Ma_step_167 f_Ma_step_24 hX rfl ?_
    refine er_aload_n d_Ma_step_170 rfl ?_
    refine er_getf d_Ma_step_171 f_Ma_step_34 hX rfl ?_
    refine er_iload_n d_Ma_step_174 rfl ?_
    refine er_iconst ((nI (1))) d_Ma_step_175 (by decide) ?_
    refine er_iaddN d_Ma_step_176 ?_
    refine er_iastN d_Ma_step_177 u2 (by omega) (by omega) ?_
    rw [show upd (fun j => nI (ps j)) (t) ((nI ((p) + (1)))) = (fun j => nI ((va_up ps (t) ((p) + (1))) j)) from nI_up ps (t) ((p) + (1))]
    show jl_E l G m_Ma_step (0, 0) 178 [some (.ref 13), some (.int (nI p)), some (.int (nI 10)), some (.int (x)), some (.int (nI 0))] [] (σ.set (19) (.inl (0, 12, .inl (fun j => nI ((va_up ps (t) ((p) + (1))) j))))) P
    refine er_goto 189 d_Ma_step_178 (by decide) ?_
    exact er_vret d_Ma_step_189 rfl (hF6 _ e1 (KB.kz (N := 6) (R := R) (V := V) (mt := mt) (m := m) (p := p + 1) (t := t) (fs := fs) ⟨_, _, _, _, (jl_sn (by decide) hX), (jl_sn (by decide) u1), (jl_ss u2), (jl_sn (by decide) t1), (jl_sn (by decide) t2), ⟨(jl_sn (by decide) s0), (jl_sn (by decide) s1), (jl_sn (by decide) s2), (jl_sn (by decide) s3)⟩, (hx.pc), hto, (hF.set (by omega))⟩)) (by decide) (by decide)
theorem ma_st_11 (hl : l.stackTraces = false) {P : jl_O → jl_S → Prop}  (hk : KB σ0 mt σ (7 + b) t m p (R) (V) (fs) (H) su dt dq aw) (hwx : WX σ0 tb pr ow fi ft mt sg D MP FH) (hmt : MtOk mt) (hok : WoOk tb pr ow fi) (ht : t < 12) (hp : p < 24) (hop : dop (D m) p = 11) (hag : dag (D m) p = (x)) (hD : ∀ m, mt m ≠ none → MdOk (D m)) (hpf : ∀ k ∈ fs, k.p < 24) (hft : ∀ k f, tyv (some (fty pr fi ft k f))) (hm40 : H.n ≤ 40) (hz18 : ∀ j, H.sz j ≤ 18) (hh : R 6 = some (b)) (hb : b ≤ 5) (hpt : b + pts 11 ≤ 5) (hf : fit tb 11 x R V b H) (hO : ∀ R' V' H' σ', ins pr ow fi ft 11 x R V b H = .ok R' V' H' → KB σ0 mt σ' (7 + hgt R') t m (p + 1) R' V' fs H' su dt dq aw → P (.inl none) σ') (hG : ∀ n f' fs' σ', ins pr ow fi ft 11 x R V b H = .sg n → rse pr D none (-1) (⟨m, p, R, V⟩ :: fs) = some (f' :: fs') → KB σ0 mt σ' (7 + hgt f'.R) fs'.length f'.m f'.p f'.R f'.V fs' H su dt dq aw → P (.inl none) σ') (hE : ∀ n σ', ins pr ow fi ft 11 x R V b H = .sg n → rse pr D none (-1) (⟨m, p, R, V⟩ :: fs) = none → KZ σ0 σ' H (nI n) (nI 0) dq aw → P (.inl none) σ') (hF6 : ∀ σ', ins pr ow fi ft 11 x R V b H = .full → KZ σ0 σ' H (nI 6) (nI 0) dq aw → P (.inl none) σ') : jl_mE l G m_Ma_step [.ref 13] σ P := by
  obtain ⟨uw, ps, ty, va, hX, u1, u2, t1, t2, hS, hx, hto, hF⟩ := id hk
  obtain ⟨s0, s1, s2, s3⟩ := id hS
  obtain ⟨⟨⟨a, hma, hua⟩, hps1, hty, hva⟩, hfs, hln, hob⟩ := id hx
  have hma : mt m = some a := hma
  have hps1 : ps t = p := hps1
  have hty : ∀ j, j < _ → ty (t * 12 + j) = R j := hty
  have hva : ∀ j, j < _ → j ≠ 6 → va (t * 12 + j) = V j := hva
  have hRo := hx.rob
  obtain ⟨hM, g1, g2, g3, g4, g5, g6, g7, g8⟩ : MeD σ a (D m) (MP m) (FH m) := (hwx.fr hF hmt).2.2.2 m a hma
  refine jl_ofE (as := [.ref 13]) rfl (by decide) hl (jl_cc rfl jl_ca) (Nat.le_of_ble_eq_true rfl) ?_
  show jl_E l G m_Ma_step (0, 0) 0 [some (.ref 13), none, none, none, none] [] (σ) P
  refine er_aload_n d_Ma_step_0 rfl ?_
  refine er_getf d_Ma_step_1 f_Ma_step_24 hX rfl ?_
  refine er_aload_n d_Ma_step_4 rfl ?_
  refine er_getf d_Ma_step_5 f_Ma_step_34 hX rfl ?_
  refine er_ialdQ (v := (nI (p))) d_Ma_step_8 u2 (by omega) (by omega) (congrArg nI hps1) ?_
  refine er_istore_n d_Ma_step_9 (by decide) ?_
  show jl_E l G m_Ma_step (0, 0) 10 [some (.ref 13), some (.int (nI p)), none, none, none] [] (σ) P
  refine er_aload_n d_Ma_step_10 rfl ?_
  refine er_getf d_Ma_step_11 f_Ma_step_20 hX rfl ?_
  refine er_aload_n d_Ma_step_14 rfl ?_
  refine er_getf d_Ma_step_15 f_Ma_step_34 hX rfl ?_
  refine er_aaldQ (v := some (a)) d_Ma_step_18 u1 (by omega) (by omega) (hua) ?_
  show jl_E l G m_Ma_step (0, 0) 19 [some (.ref 13), some (.int (nI p)), none, none, none] [.ref a] (σ) P
  refine er_getf d_Ma_step_19 f_Ma_step_94 hM rfl ?_
  refine er_iload_n d_Ma_step_22 rfl ?_
  refine er_ialdQ (v := (nI (11))) d_Ma_step_23 g1 (by omega) (by omega) (congrArg nI hop) ?_
  refine er_istore_n d_Ma_step_24 (by decide) ?_
  show jl_E l G m_Ma_step (0, 0) 25 [some (.ref 13), some (.int (nI p)), some (.int (nI 11)), none, none] [] (σ) P
  refine er_aload_n d_Ma_step_25 rfl ?_
  refine er_getf d_Ma_step_26 f_Ma_step_20 hX rfl ?_
  refine er_aload_n d_Ma_step_29 rfl ?_
  refine er_getf d_Ma_step_30 f_Ma_step_34 hX rfl ?_
  refine er_aaldQ (v := some (a)) d_Ma_step_33 u1 (by omega) (by omega) (hua) ?_
  show jl_E l G m_Ma_step (0, 0) 34 [some (.ref 13), some (.int (nI p)), some (.int (nI 11)), none, none] [.ref a] (σ) P
  refine er_getf d_Ma_step_34 f_Ma_step_97 hM rfl ?_
  refine er_iload_n d_Ma_step_37 rfl ?_
  refine er_ialdQ (v := (x)) d_Ma_step_38 g2 (by omega) (by omega) (hag) ?_
  refine er_istore_n d_Ma_step_39 (by decide) ?_
  show jl_E l G m_Ma_step (0, 0) 40 [some (.ref 13), some (.int (nI p)), some (.int (nI 11)), some (.int (x)), none] [] (σ) P
  refine er_iload_n d_Ma_step_40 rfl ?_
  refine er_tableIn (off := 112) 153 d_Ma_step_41 (by decide +kernel) (by decide +kernel) (by decide +kernel) (by decide) ?_
  refine er_aload_n d_Ma_step_153 rfl ?_
  refine er_iload_n d_Ma_step_154 rfl ?_
  refine er_iload_n d_Ma_step_155 rfl ?_
  refine er_callVE (As := [.int (nI 11), .int (x)]) d_Ma_step_156 k_Ma_step_114 hX rfl rfl rfl (Nat.le_of_ble_eq_true rfl) (by decide) (by decide) (ma_ins_11 hl hwx hmt hok hft ht hm40 hz18 hk hh hb hpt hf (fun R1 V1 H1 σ e1 hk1 => ⟨_, rfl, ?_⟩) (fun n σ e1 hk1 => ⟨_, rfl, ?_⟩) (fun σ e1 hk1 => ⟨_, rfl, ?_⟩))
  · skip
    obtain ⟨uw, ps, ty, va, hX, u1, u2, t1, t2, hS, hx, hto, hF⟩ := id hk1
    obtain ⟨s0, s1, s2, s3⟩ := id hS
    show jl_E l G m_Ma_step (0, 0) 159 [some (.ref 13), some (.int (nI p)), some (.int (nI 11)), some (.int (x)), none] [.int (nI 0)] (σ) P
    refine er_istore d_Ma_step_159 (by decide) ?_
    show jl_E l G m_Ma_step (0, 0) 161 [some (.ref 13), some (.int (nI p)), some (.int (nI 11)), some (.int (x)), some (.int (nI 0))] [] (σ) P
    refine er_iload d_Ma_step_161 rfl ?_
    refine er_if_ne 181 d_Ma_step_163 (by decide) (fun z => absurd rfl z) (fun _ => ?_)
    refine er_aload_n d_Ma_step_166 rfl ?_
    refine er_getf d_Ma_step_167 f_Ma_step_24 hX rfl ?_
    refine er_aload_n d_Ma_step_170 rfl ?_
    refine er_getf d_Ma_step_171 f_Ma_step_34 hX rfl ?_
    refine er_iload_n d_Ma_step_174 rfl ?_
    refine er_iconst ((nI (1))) d_Ma_step_175 (by decide) ?_
    refine er_iaddN d_Ma_step_176 ?_
    refine er_iastN d_Ma_step_177 u2 (by omega) (by omega) ?_
    rw [show upd (fun j => nI (ps j)) (t) ((nI ((p) + (1)))) = (fun j => nI ((va_up ps (t) ((p) + (1))) j)) from nI_up ps (t) ((p) + (1))]
    show jl_E l G m_Ma_step (0, 0) 178 [some (.ref 13), some (.int (nI p)), some (.int (nI 11)), some (.int (x)), some (.int (nI 0))] [] (σ.set (19) (.inl (0, 12, .inl (fun j => nI ((va_up ps (t) ((p) + (1))) j))))) P
    refine er_goto 189 d_Ma_step_178 (by decide) ?_
    exact er_vret d_Ma_step_189 rfl (hO R1 V1 H1 _ e1 ⟨_, _, _, _, (jl_sn (by decide) hX), (jl_sn (by decide) u1), (jl_ss u2), (jl_sn (by decide) t1), (jl_sn (by decide) t2), ⟨(jl_sn (by decide) s0), (jl_sn (by decide) s1), (jl_sn (by decide) s2), (jl_sn (by decide) s3)⟩, (hx.pc), hto, (hF.set (by omega))⟩) (by decide) (by decide)
  · skip
    have hn14 := ins_sg e1
    obtain ⟨uw, ps, ty, va, hX, u1, u2, t1, t2, hS, hx, hto, hF⟩ := id hk1
    obtain ⟨s0, s1, s2, s3⟩ := id hS
    show jl_E l G m_Ma_step (0, 0) 159 [some (.ref 13), some (.int (nI p)), some (.int (nI 11)), some (.int (x)), none] [.int (nI n)] (σ) P
    refine er_istore d_Ma_step_159 (by decide) ?_
    show jl_E l G m_Ma_step (0, 0) 161 [some (.ref 13), some (.int (nI p)), some (.int (nI 11)), some (.int (x)), some (.int (nI n))] [] (σ) P
    refine er_iload d_Ma_step_161 rfl ?_
    refine er_if_ne 181 d_Ma_step_163 (by decide) (fun _ => ?_) (fun z => absurd z ((fun z => by have z2 : nI n = nI 0 := z.trans nI_0k.symm; rw [nI_eq (by omega) (by omega)] at z2; omega)))
    refine er_aload_n d_Ma_step_181 rfl ?_
    refine er_iload d_Ma_step_182 rfl ?_
    refine er_iconst ((-1)) d_Ma_step_184 (by decide) ?_
    refine er_iconst ((-1)) d_Ma_step_185 (by decide) ?_
    refine er_callVE (As := [.int (nI n), .int (-1), .int (-1)]) d_Ma_step_186 k_Ma_step_118 hX rfl rfl rfl (Nat.le_of_ble_eq_true rfl) (by decide) (by decide) (ma_raise (y := none) (v := -1) (n := n) (R := R) (V := V) hl hk1 hwx hmt hok hD (fun _ q => by cases q) (by omega) ht hp hpf (fun f1 fs1 σ e2 h1 => ⟨_, rfl, ?_⟩) (fun e2 σ h1 => ⟨_, rfl, ?_⟩))
    · skip
      show jl_E l G m_Ma_step (0, 0) 189 [some (.ref 13), some (.int (nI p)), some (.int (nI 11)), some (.int (x)), some (.int (nI n))] [] (σ) P
      exact er_vret d_Ma_step_189 rfl (hG n f1 fs1 _ e1 e2 h1) (by decide) (by decide)
    · skip
      show jl_E l G m_Ma_step (0, 0) 189 [some (.ref 13), some (.int (nI p)), some (.int (nI 11)), some (.int (x)), some (.int (nI n))] [] (σ) P
      exact er_vret d_Ma_step_189 rfl (hE n _ e1 e2 (by have z := h1; rw [if_neg (by omega)] at z; exact z)) (by decide) (by decide)
  · skip
    obtain ⟨uw, ps, ty, va, hX, u1, u2, t1, t2, hS, hx, hto, hF⟩ := id hk1
    obtain ⟨s0, s1, s2, s3⟩ := id hS
    show jl_E l G m_Ma_step (0, 0) 159 [some (.ref 13), some (.int (nI p)), some (.int (nI 11)), some (.int (x)), none] [.int (nI 0)] (σ) P
    refine er_istore d_Ma_step_159 (by decide) ?_
    show jl_E l G m_Ma_step (0, 0) 161 [some (.ref 13), some (.int (nI p)), some (.int (nI 11)), some (.int (x)), some (.int (nI 0))] [] (σ) P
    refine er_iload d_Ma_step_161 rfl ?_
    refine er_if_ne 181 d_Ma_step_163 (by decide) (fun z => absurd rfl z) (fun _ => ?_)
    refine er_aload_n d_Ma_step_166 rfl ?_
    refine er_getf d_Ma_step_167 f_Ma_step_24 hX rfl ?_
    refine er_aload_n d_Ma_step_170 rfl ?_
    refine er_getf d_Ma_step_171 f_Ma_step_34 hX rfl ?_
    refine er_iload_n d_Ma_step_174 rfl ?_
    refine er_iconst ((nI (1))) d_Ma_step_175 (by decide) ?_
    refine er_iaddN d_Ma_step_176 ?_
    refine er_iastN d_Ma_step_177 u2 (by omega) (by omega) ?_
    rw [show upd (fun j => nI (ps j)) (t) ((nI ((p) + (1)))) = (fun j => nI ((va_up ps (t) ((p) + (1))) j)) from nI_up ps (t) ((p) + (1))]
    show jl_E l G m_Ma_step (0, 0) 178 [some (.ref 13), some (.int (nI p)), some (.int (nI 11)), some (.int (x)), some (.int (nI 0))] [] (σ.set (19) (.inl (0, 12, .inl (fun j => nI ((va_up ps (t) ((p) + (1))) j))))) P
    refine er_goto 189 d_Ma_step_178 (by decide) ?_
    exact er_vret d_Ma_step_189 rfl (hF6 _ e1 (KB.kz (N := 6) (R := R) (V := V) (mt := mt) (m := m) (p := p + 1) (t := t) (fs := fs) ⟨_, _, _, _, (jl_sn (by decide) hX), (jl_sn (by decide) u1), (jl_ss u2), (jl_sn (by decide) t1), (jl_sn (by decide) t2), ⟨(jl_sn (by decide) s0), (jl_sn (by decide) s1), (jl_sn (by decide) s2), (jl_sn (by decide) s3)⟩, (hx.pc), hto, (hF.set (by omega))⟩)) (by decide) (by decide)
theorem ma_st_12 (hl : l.stackTraces = false) {P : jl_O → jl_S → Prop}  (hk : KB σ0 mt σ (7 + (b + 1)) t m p (R) (V) (fs) (H) su dt dq aw) (hwx : WX σ0 tb pr ow fi ft mt sg D MP FH) (hmt : MtOk mt) (hok : WoOk tb pr ow fi) (ht : t < 12) (hp : p < 24) (hop : dop (D m) p = 12) (hag : dag (D m) p = (x)) (hD : ∀ m, mt m ≠ none → MdOk (D m)) (hpf : ∀ k ∈ fs, k.p < 24) (hft : ∀ k f, tyv (some (fty pr fi ft k f))) (hm40 : H.n ≤ 40) (hz18 : ∀ j, H.sz j ≤ 18) (hh : R 6 = some (b + 1)) (hb : b + 1 ≤ 5) (hpt : b + pts 12 ≤ 5) (hf : fit tb 12 x R V b H) (hO : ∀ R' V' H' σ', ins pr ow fi ft 12 x R V b H = .ok R' V' H' → KB σ0 mt σ' (7 + hgt R') t m (p + 1) R' V' fs H' su dt dq aw → P (.inl none) σ') (hG : ∀ n f' fs' σ', ins pr ow fi ft 12 x R V b H = .sg n → rse pr D none (-1) (⟨m, p, R, V⟩ :: fs) = some (f' :: fs') → KB σ0 mt σ' (7 + hgt f'.R) fs'.length f'.m f'.p f'.R f'.V fs' H su dt dq aw → P (.inl none) σ') (hE : ∀ n σ', ins pr ow fi ft 12 x R V b H = .sg n → rse pr D none (-1) (⟨m, p, R, V⟩ :: fs) = none → KZ σ0 σ' H (nI n) (nI 0) dq aw → P (.inl none) σ') (hF6 : ∀ σ', ins pr ow fi ft 12 x R V b H = .full → KZ σ0 σ' H (nI 6) (nI 0) dq aw → P (.inl none) σ') : jl_mE l G m_Ma_step [.ref 13] σ P := by
  obtain ⟨uw, ps, ty, va, hX, u1, u2, t1, t2, hS, hx, hto, hF⟩ := id hk
  obtain ⟨s0, s1, s2, s3⟩ := id hS
  obtain ⟨⟨⟨a, hma, hua⟩, hps1, hty, hva⟩, hfs, hln, hob⟩ := id hx
  have hma : mt m = some a := hma
  have hps1 : ps t = p := hps1
  have hty : ∀ j, j < _ → ty (t * 12 + j) = R j := hty
  have hva : ∀ j, j < _ → j ≠ 6 → va (t * 12 + j) = V j := hva
  have hRo := hx.rob
  obtain ⟨hM, g1, g2, g3, g4, g5, g6, g7, g8⟩ : MeD σ a (D m) (MP m) (FH m) := (hwx.fr hF hmt).2.2.2 m a hma
  refine jl_ofE (as := [.ref 13]) rfl (by decide) hl (jl_cc rfl jl_ca) (Nat.le_of_ble_eq_true rfl) ?_
  show jl_E l G m_Ma_step (0, 0) 0 [some (.ref 13), none, none, none, none] [] (σ) P
  refine er_aload_n d_Ma_step_0 rfl ?_
  refine er_getf d_Ma_step_1 f_Ma_step_24 hX rfl ?_
  refine er_aload_n d_Ma_step_4 rfl ?_
  refine er_getf d_Ma_step_5 f_Ma_step_34 hX rfl ?_
  refine er_ialdQ (v := (nI (p))) d_Ma_step_8 u2 (by omega) (by omega) (congrArg nI hps1) ?_
  refine er_istore_n d_Ma_step_9 (by decide) ?_
  show jl_E l G m_Ma_step (0, 0) 10 [some (.ref 13), some (.int (nI p)), none, none, none] [] (σ) P
  refine er_aload_n d_Ma_step_10 rfl ?_
  refine er_getf d_Ma_step_11 f_Ma_step_20 hX rfl ?_
  refine er_aload_n d_Ma_step_14 rfl ?_
  refine er_getf d_Ma_step_15 f_Ma_step_34 hX rfl ?_
  refine er_aaldQ (v := some (a)) d_Ma_step_18 u1 (by omega) (by omega) (hua) ?_
  show jl_E l G m_Ma_step (0, 0) 19 [some (.ref 13), some (.int (nI p)), none, none, none] [.ref a] (σ) P
  refine er_getf d_Ma_step_19 f_Ma_step_94 hM rfl ?_
  refine er_iload_n d_Ma_step_22 rfl ?_
  refine er_ialdQ (v := (nI (12))) d_Ma_step_23 g1 (by omega) (by omega) (congrArg nI hop) ?_
  refine er_istore_n d_Ma_step_24 (by decide) ?_
  show jl_E l G m_Ma_step (0, 0) 25 [some (.ref 13), some (.int (nI p)), some (.int (nI 12)), none, none] [] (σ) P
  refine er_aload_n d_Ma_step_25 rfl ?_
  refine er_getf d_Ma_step_26 f_Ma_step_20 hX rfl ?_
  refine er_aload_n d_Ma_step_29 rfl ?_
  refine er_getf d_Ma_step_30 f_Ma_step_34 hX rfl ?_
  refine er_aaldQ (v := some (a)) d_Ma_step_33 u1 (by omega) (by omega) (hua) ?_
  show jl_E l G m_Ma_step (0, 0) 34 [some (.ref 13), some (.int (nI p)), some (.int (nI 12)), none, none] [.ref a] (σ) P
  refine er_getf d_Ma_step_34 f_Ma_step_97 hM rfl ?_
  refine er_iload_n d_Ma_step_37 rfl ?_
  refine er_ialdQ (v := (x)) d_Ma_step_38 g2 (by omega) (by omega) (hag) ?_
  refine er_istore_n d_Ma_step_39 (by decide) ?_
  show jl_E l G m_Ma_step (0, 0) 40 [some (.ref 13), some (.int (nI p)), some (.int (nI 12)), some (.int (x)), none] [] (σ) P
  refine er_iload_n d_Ma_step_40 rfl ?_
  refine er_tableIn (off := 112) 153 d_Ma_step_41 (by decide +kernel) (by decide +kernel) (by decide +kernel) (by decide) ?_
  refine er_aload_n d_Ma_step_153 rfl ?_
  refine er_iload_n d_Ma_step_154 rfl ?_
  refine er_iload_n d_Ma_step_155 rfl ?_
  refine er_callVE (As := [.int (nI 12), .int (x)]) d_Ma_step_156 k_Ma_step_114 hX rfl rfl rfl (Nat.le_of_ble_eq_true rfl) (by decide) (by decide) (ma_ins_12 hl hwx hmt hok hft ht hm40 hz18 hk hh hb hpt hf (fun R1 V1 H1 σ e1 hk1 => ⟨_, rfl, ?_⟩) (fun n σ e1 hk1 => ⟨_, rfl, ?_⟩) (fun σ e1 hk1 => ⟨_, rfl, ?_⟩))
  · skip
    obtain ⟨uw, ps, ty, va, hX, u1, u2, t1, t2, hS, hx, hto, hF⟩ := id hk1
    obtain ⟨s0, s1, s2, s3⟩ := id hS
    show jl_E l G m_Ma_step (0, 0) 159 [some (.ref 13), some (.int (nI p)), some (.int (nI 12)), some (.int (x)), none] [.int (nI 0)] (σ) P
    refine er_istore d_Ma_step_159 (by decide) ?_
    show jl_E l G m_Ma_step (0, 0) 161 [some (.ref 13), some (.int (nI p)), some (.int (nI 12)), some (.int (x)), some (.int (nI 0))] [] (σ) P
    refine er_iload d_Ma_step_161 rfl ?_
    refine er_if_ne 181 d_Ma_step_163 (by decide) (fun z => absurd rfl z) (fun _ => ?_)
    refine er_aload_n d_Ma_step_166 rfl ?_
    refine er_getf d_Ma_step_167 f_Ma_step_24 hX rfl ?_
    refine er_aload_n d_Ma_step_170 rfl ?_
    refine er_getf d_Ma_step_171 f_Ma_step_34 hX rfl ?_
    refine er_iload_n d_Ma_step_174 rfl ?_
    refine er_iconst ((nI (1))) d_Ma_step_175 (by decide) ?_
    refine er_iaddN d_Ma_step_176 ?_
    refine er_iastN d_Ma_step_177 u2 (by omega) (by omega) ?_
    rw [show upd (fun j => nI (ps j)) (t) ((nI ((p) + (1)))) = (fun j => nI ((va_up ps (t) ((p) + (1))) j)) from nI_up ps (t) ((p) + (1))]
    show jl_E l G m_Ma_step (0, 0) 178 [some (.ref 13), some (.int (nI p)), some (.int (nI 12)), some (.int (x)), some (.int (nI 0))] [] (σ.set (19) (.inl (0, 12, .inl (fun j => nI ((va_up ps (t) ((p) + (1))) j))))) P
    refine er_goto 189 d_Ma_step_178 (by decide) ?_
    exact er_vret d_Ma_step_189 rfl (hO R1 V1 H1 _ e1 ⟨_, _, _, _, (jl_sn (by decide) hX), (jl_sn (by decide) u1), (jl_ss u2), (jl_sn (by decide) t1), (jl_sn (by decide) t2), ⟨(jl_sn (by decide) s0), (jl_sn (by decide) s1), (jl_sn (by decide) s2), (jl_sn (by decide) s3)⟩, (hx.pc), hto, (hF.set (by omega))⟩) (by decide) (by decide)
  · skip
    have hn14 := ins_sg e1
    obtain ⟨uw, ps, ty, va, hX, u1, u2, t1, t2, hS, hx, hto, hF⟩ := id hk1
    obtain ⟨s0, s1, s2, s3⟩ := id hS
    show jl_E l G m_Ma_step (0, 0) 159 [some (.ref 13), some (.int (nI p)), some (.int (nI 12)), some (.int (x)), none] [.int (nI n)] (σ) P
    refine er_istore d_Ma_step_159 (by decide) ?_
    show jl_E l G m_Ma_step (0, 0) 161 [some (.ref 13), some (.int (nI p)), some (.int (nI 12)), some (.int (x)), some (.int (nI n))] [] (σ) P
    refine er_iload d_Ma_step_161 rfl ?_
    refine er_if_ne 181 d_Ma_step_163 (by decide) (fun _ => ?_) (fun z => absurd z ((fun z => by have z2 : nI n = nI 0 := z.trans nI_0k.symm; rw [nI_eq (by omega) (by omega)] at z2; omega)))
    refine er_aload_n d_Ma_step_181 rfl ?_
    refine er_iload d_Ma_step_182 rfl ?_
    refine er_iconst ((-1)) d_Ma_step_184 (by decide) ?_
    refine er_iconst ((-1)) d_Ma_step_185 (by decide) ?_
    refine er_callVE (As := [.int (nI n), .int (-1), .int (-1)]) d_Ma_step_186 k_Ma_step_118 hX rfl rfl rfl (Nat.le_of_ble_eq_true rfl) (by decide) (by decide) (ma_raise (y := none) (v := -1) (n := n) (R := R) (V := V) hl hk1 hwx hmt hok hD (fun _ q => by cases q) (by omega) ht hp hpf (fun f1 fs1 σ e2 h1 => ⟨_, rfl, ?_⟩) (fun e2 σ h1 => ⟨_, rfl, ?_⟩))
    · skip
      show jl_E l G m_Ma_step (0, 0) 189 [some (.ref 13), some (.int (nI p)), some (.int (nI 12)), some (.int (x)), some (.int (nI n))] [] (σ) P
      exact er_vret d_Ma_step_189 rfl (hG n f1 fs1 _ e1 e2 h1) (by decide) (by decide)
    · skip
      show jl_E l G m_Ma_step (0, 0) 189 [some (.ref 13), some (.int (nI p)), some (.int (nI 12)), some (.int (x)), some (.int (nI n))] [] (σ) P
      exact er_vret d_Ma_step_189 rfl (hE n _ e1 e2 (by have z := h1; rw [if_neg (by omega)] at z; exact z)) (by decide) (by decide)
  · skip
    obtain ⟨uw, ps, ty, va, hX, u1, u2, t1, t2, hS, hx, hto, hF⟩ := id hk1
    obtain ⟨s0, s1, s2, s3⟩ := id hS
    show jl_E l G m_Ma_step (0, 0) 159 [some (.ref 13), some (.int (nI p)), some (.int (nI 12)), some (.int (x)), none] [.int (nI 0)] (σ) P
    refine er_istore d_Ma_step_159 (by decide) ?_
    show jl_E l G m_Ma_step (0, 0) 161 [some (.ref 13), some (.int (nI p)), some (.int (nI 12)), some (.int (x)), some (.int (nI 0))] [] (σ) P
    refine er_iload d_Ma_step_161 rfl ?_
    refine er_if_ne 181 d_Ma_step_163 (by decide) (fun z => absurd rfl z) (fun _ => ?_)
    refine er_aload_n d_Ma_step_166 rfl ?_
    refine er_getf d_Ma_step_167 f_Ma_step_24 hX rfl ?_
    refine er_aload_n d_Ma_step_170 rfl ?_
    refine er_getf d_Ma_step_171 f_Ma_step_34 hX rfl ?_
    refine er_iload_n d_Ma_step_174 rfl ?_
    refine er_iconst ((nI (1))) d_Ma_step_175 (by decide) ?_
    refine er_iaddN d_Ma_step_176 ?_
    refine er_iastN d_Ma_step_177 u2 (by omega) (by omega) ?_
    rw [show upd (fun j => nI (ps j)) (t) ((nI ((p) + (1)))) = (fun j => nI ((va_up ps (t) ((p) + (1))) j)) from nI_up ps (t) ((p) + (1))]
    show jl_E l G m_Ma_step (0, 0) 178 [some (.ref 13), some (.int (nI p)), some (.int (nI 12)), some (.int (x)), some (.int (nI 0))] [] (σ.set (19) (.inl (0, 12, .inl (fun j => nI ((va_up ps (t) ((p) + (1))) j))))) P
    refine er_goto 189 d_Ma_step_178 (by decide) ?_
    exact er_vret d_Ma_step_189 rfl (hF6 _ e1 (KB.kz (N := 6) (R := R) (V := V) (mt := mt) (m := m) (p := p + 1) (t := t) (fs := fs) ⟨_, _, _, _, (jl_sn (by decide) hX), (jl_sn (by decide) u1), (jl_ss u2), (jl_sn (by decide) t1), (jl_sn (by decide) t2), ⟨(jl_sn (by decide) s0), (jl_sn (by decide) s1), (jl_sn (by decide) s2), (jl_sn (by decide) s3)⟩, (hx.pc), hto, (hF.set (by omega))⟩)) (by decide) (by decide)
theorem ma_st_13 (hl : l.stackTraces = false) {P : jl_O → jl_S → Prop}  (hk : KB σ0 mt σ (7 + (b + 2)) t m p (R) (V) (fs) (H) su dt dq aw) (hwx : WX σ0 tb pr ow fi ft mt sg D MP FH) (hmt : MtOk mt) (hok : WoOk tb pr ow fi) (ht : t < 12) (hp : p < 24) (hop : dop (D m) p = 13) (hag : dag (D m) p = (x)) (hD : ∀ m, mt m ≠ none → MdOk (D m)) (hpf : ∀ k ∈ fs, k.p < 24) (hft : ∀ k f, tyv (some (fty pr fi ft k f))) (hm40 : H.n ≤ 40) (hz18 : ∀ j, H.sz j ≤ 18) (hh : R 6 = some (b + 2)) (hb : b + 2 ≤ 5) (hpt : b + pts 13 ≤ 5) (hf : fit tb 13 x R V b H) (hO : ∀ R' V' H' σ', ins pr ow fi ft 13 x R V b H = .ok R' V' H' → KB σ0 mt σ' (7 + hgt R') t m (p + 1) R' V' fs H' su dt dq aw → P (.inl none) σ') (hG : ∀ n f' fs' σ', ins pr ow fi ft 13 x R V b H = .sg n → rse pr D none (-1) (⟨m, p, R, V⟩ :: fs) = some (f' :: fs') → KB σ0 mt σ' (7 + hgt f'.R) fs'.length f'.m f'.p f'.R f'.V fs' H su dt dq aw → P (.inl none) σ') (hE : ∀ n σ', ins pr ow fi ft 13 x R V b H = .sg n → rse pr D none (-1) (⟨m, p, R, V⟩ :: fs) = none → KZ σ0 σ' H (nI n) (nI 0) dq aw → P (.inl none) σ') (hF6 : ∀ σ', ins pr ow fi ft 13 x R V b H = .full → KZ σ0 σ' H (nI 6) (nI 0) dq aw → P (.inl none) σ') : jl_mE l G m_Ma_step [.ref 13] σ P := by
  obtain ⟨uw, ps, ty, va, hX, u1, u2, t1, t2, hS, hx, hto, hF⟩ := id hk
  obtain ⟨s0, s1, s2, s3⟩ := id hS
  obtain ⟨⟨⟨a, hma, hua⟩, hps1, hty, hva⟩, hfs, hln, hob⟩ := id hx
  have hma : mt m = some a := hma
  have hps1 : ps t = p := hps1
  have hty : ∀ j, j < _ → ty (t * 12 + j) = R j := hty
  have hva : ∀ j, j < _ → j ≠ 6 → va (t * 12 + j) = V j := hva
  have hRo := hx.rob
  obtain ⟨hM, g1, g2, g3, g4, g5, g6, g7, g8⟩ : MeD σ a (D m) (MP m) (FH m) := (hwx.fr hF hmt).2.2.2 m a hma
  refine jl_ofE (as := [.ref 13]) rfl (by decide) hl (jl_cc rfl jl_ca) (Nat.le_of_ble_eq_true rfl) ?_
  show jl_E l G m_Ma_step (0, 0) 0 [some (.ref 13), none, none, none, none] [] (σ) P
  refine er_aload_n d_Ma_step_0 rfl ?_
  refine er_getf d_Ma_step_1 f_Ma_step_24 hX rfl ?_
  refine er_aload_n d_Ma_step_4 rfl ?_
  refine er_getf d_Ma_step_5 f_Ma_step_34 hX rfl ?_
  refine er_ialdQ (v := (nI (p))) d_Ma_step_8 u2 (by omega) (by omega) (congrArg nI hps1) ?_
  refine er_istore_n d_Ma_step_9 (by decide) ?_
  show jl_E l G m_Ma_step (0, 0) 10 [some (.ref 13), some (.int (nI p)), none, none, none] [] (σ) P
  refine er_aload_n d_Ma_step_10 rfl ?_
  refine er_getf d_Ma_step_11 f_Ma_step_20 hX rfl ?_
  refine er_aload_n d_Ma_step_14 rfl ?_
  refine er_getf d_Ma_step_15 f_Ma_step_34 hX rfl ?_
  refine er_aaldQ (v := some (a)) d_Ma_step_18 u1 (by omega) (by omega) (hua) ?_
  show jl_E l G m_Ma_step (0, 0) 19 [some (.ref 13), some (.int (nI p)), none, none, none] [.ref a] (σ) P
  refine er_getf d_Ma_step_19 f_Ma_step_94 hM rfl ?_
  refine er_iload_n d_Ma_step_22 rfl ?_
  refine er_ialdQ (v := (nI (13))) d_Ma_step_23 g1 (by omega) (by omega) (congrArg nI hop) ?_
  refine er_istore_n d_Ma_step_24 (by decide) ?_
  show jl_E l G m_Ma_step (0, 0) 25 [some (.ref 13), some (.int (nI p)), some (.int (nI 13)), none, none] [] (σ) P
  refine er_aload_n d_Ma_step_25 rfl ?_
  refine er_getf d_Ma_step_26 f_Ma_step_20 hX rfl ?_
  refine er_aload_n d_Ma_step_29 rfl ?_
  refine er_getf d_Ma_step_30 f_Ma_step_34 hX rfl ?_
  refine er_aaldQ (v := some (a)) d_Ma_step_33 u1 (by omega) (by omega) (hua) ?_
  show jl_E l G m_Ma_step (0, 0) 34 [some (.ref 13), some (.int (nI p)), some (.int (nI 13)), none, none] [.ref a] (σ) P
  refine er_getf d_Ma_step_34 f_Ma_step_97 hM rfl ?_
  refine er_iload_n d_Ma_step_37 rfl ?_
  refine er_ialdQ (v := (x)) d_Ma_step_38 g2 (by omega) (by omega) (hag) ?_
  refine er_istore_n d_Ma_step_39 (by decide) ?_
  show jl_E l G m_Ma_step (0, 0) 40 [some (.ref 13), some (.int (nI p)), some (.int (nI 13)), some (.int (x)), none] [] (σ) P
  refine er_iload_n d_Ma_step_40 rfl ?_
  refine er_tableIn (off := 112) 153 d_Ma_step_41 (by decide +kernel) (by decide +kernel) (by decide +kernel) (by decide) ?_
  refine er_aload_n d_Ma_step_153 rfl ?_
  refine er_iload_n d_Ma_step_154 rfl ?_
  refine er_iload_n d_Ma_step_155 rfl ?_
  refine er_callVE (As := [.int (nI 13), .int (x)]) d_Ma_step_156 k_Ma_step_114 hX rfl rfl rfl (Nat.le_of_ble_eq_true rfl) (by decide) (by decide) (ma_ins_13 hl hwx hmt hok hft ht hm40 hz18 hk hh hb hpt hf (fun R1 V1 H1 σ e1 hk1 => ⟨_, rfl, ?_⟩) (fun n σ e1 hk1 => ⟨_, rfl, ?_⟩) (fun σ e1 hk1 => ⟨_, rfl, ?_⟩))
  · skip
    obtain ⟨uw, ps, ty, va, hX, u1, u2, t1, t2, hS, hx, hto, hF⟩ := id hk1
    obtain ⟨s0, s1, s2, s3⟩ := id hS
    show jl_E l G m_Ma_step (0, 0) 159 [some (.ref 13), some (.int (nI p)), some (.int (nI 13)), some (.int (x)), none] [.int (nI 0)] (σ) P
    refine er_istore d_Ma_step_159 (by decide) ?_
    show jl_E l G m_Ma_step (0, 0) 161 [some (.ref 13), some (.int (nI p)), some (.int (nI 13)), some (.int (x)), some (.int (nI 0))] [] (σ) P
    refine er_iload d_Ma_step_161 rfl ?_
    refine er_if_ne 181 d_Ma_step_163 (by decide) (fun z => absurd rfl z) (fun _ => ?_)
    refine er_aload_n d_Ma_step_166 rfl ?_
    refine er_getf d_Ma_step_167 f_Ma_step_24 hX rfl ?_
    refine er_aload_n d_Ma_step_170 rfl ?_
    refine er_getf d_Ma_step_171 f_Ma_step_34 hX rfl ?_
    refine er_iload_n d_Ma_step_174 rfl ?_
    refine er_iconst ((nI (1))) d_Ma_step_175 (by decide) ?_
    refine er_iaddN d_Ma_step_176 ?_
    refine er_iastN d_Ma_step_177 u2 (by omega) (by omega) ?_
    rw [show upd (fun j => nI (ps j)) (t) ((nI ((p) + (1)))) = (fun j => nI ((va_up ps (t) ((p) + (1))) j)) from nI_up ps (t) ((p) + (1))]
    show jl_E l G m_Ma_step (0, 0) 178 [some (.ref 13), some (.int (nI p)), some (.int (nI 13)), some (.int (x)), some (.int (nI 0))] [] (σ.set (19) (.inl (0, 12, .inl (fun j => nI ((va_up ps (t) ((p) + (1))) j))))) P
    refine er_goto 189 d_Ma_step_178 (by decide) ?_
    exact er_vret d_Ma_step_189 rfl (hO R1 V1 H1 _ e1 ⟨_, _, _, _, (jl_sn (by decide) hX), (jl_sn (by decide) u1), (jl_ss u2), (jl_sn (by decide) t1), (jl_sn (by decide) t2), ⟨(jl_sn (by decide) s0), (jl_sn (by decide) s1), (jl_sn (by decide) s2), (jl_sn (by decide) s3)⟩, (hx.pc), hto, (hF.set (by omega))⟩) (by decide) (by decide)
  · skip
    have hn14 := ins_sg e1
    obtain ⟨uw, ps, ty, va, hX, u1, u2, t1, t2, hS, hx, hto, hF⟩ := id hk1
    obtain ⟨s0, s1, s2, s3⟩ := id hS
    show jl_E l G m_Ma_step (0, 0) 159 [some (.ref 13), some (.int (nI p)), some (.int (nI 13)), some (.int (x)), none] [.int (nI n)] (σ) P
    refine er_istore d_Ma_step_159 (by decide) ?_
    show jl_E l G m_Ma_step (0, 0) 161 [some (.ref 13), some (.int (nI p)), some (.int (nI 13)), some (.int (x)), some (.int (nI n))] [] (σ) P
    refine er_iload d_Ma_step_161 rfl ?_
    refine er_if_ne 181 d_Ma_step_163 (by decide) (fun _ => ?_) (fun z => absurd z ((fun z => by have z2 : nI n = nI 0 := z.trans nI_0k.symm; rw [nI_eq (by omega) (by omega)] at z2; omega)))
    refine er_aload_n d_Ma_step_181 rfl ?_
    refine er_iload d_Ma_step_182 rfl ?_
    refine er_iconst ((-1)) d_Ma_step_184 (by decide) ?_
    refine er_iconst ((-1)) d_Ma_step_185 (by decide) ?_
    refine er_callVE (As := [.int (nI n), .int (-1), .int (-1)]) d_Ma_step_186 k_Ma_step_118 hX rfl rfl rfl (Nat.le_of_ble_eq_true rfl) (by decide) (by decide) (ma_raise (y := none) (v := -1) (n := n) (R := R) (V := V) hl hk1 hwx hmt hok hD (fun _ q => by cases q) (by omega) ht hp hpf (fun f1 fs1 σ e2 h1 => ⟨_, rfl, ?_⟩) (fun e2 σ h1 => ⟨_, rfl, ?_⟩))
    · skip
      show jl_E l G m_Ma_step (0, 0) 189 [some (.ref 13), some (.int (nI p)), some (.int (nI 13)), some (.int (x)), some (.int (nI n))] [] (σ) P
      exact er_vret d_Ma_step_189 rfl (hG n f1 fs1 _ e1 e2 h1) (by decide) (by decide)
    · skip
      show jl_E l G m_Ma_step (0, 0) 189 [some (.ref 13), some (.int (nI p)), some (.int (nI 13)), some (.int (x)), some (.int (nI n))] [] (σ) P
      exact er_vret d_Ma_step_189 rfl (hE n _ e1 e2 (by have z := h1; rw [if_neg (by omega)] at z; exact z)) (by decide) (by decide)
  · skip
    obtain ⟨uw, ps, ty, va, hX, u1, u2, t1, t2, hS, hx, hto, hF⟩ := id hk1
    obtain ⟨s0, s1, s2, s3⟩ := id hS
    show jl_E l G m_Ma_step (0, 0) 159 [some (.ref 13), some (.int (nI p)), some (.int (nI 13)), some (.int (x)), none] [.int (nI 0)] (σ) P
    refine er_istore d_Ma_step_159 (by decide) ?_
    show jl_E l G m_Ma_step (0, 0) 161 [some (.ref 13), some (.int (nI p)), some (.int (nI 13)), some (.int (x)), some (.int (nI 0))] [] (σ) P
    refine er_iload d_Ma_step_161 rfl ?_
    refine er_if_ne 181 d_Ma_step_163 (by decide) (fun z => absurd rfl z) (fun _ => ?_)
    refine er_aload_n d_Ma_step_166 rfl ?_
    refine er_getf d_Ma_step_167 f_Ma_step_24 hX rfl ?_
    refine er_aload_n d_Ma_step_170 rfl ?_
    refine er_getf d_Ma_step_171 f_Ma_step_34 hX rfl ?_
    refine er_iload_n d_Ma_step_174 rfl ?_
    refine er_iconst ((nI (1))) d_Ma_step_175 (by decide) ?_
    refine er_iaddN d_Ma_step_176 ?_
    refine er_iastN d_Ma_step_177 u2 (by omega) (by omega) ?_
    rw [show upd (fun j => nI (ps j)) (t) ((nI ((p) + (1)))) = (fun j => nI ((va_up ps (t) ((p) + (1))) j)) from nI_up ps (t) ((p) + (1))]
    show jl_E l G m_Ma_step (0, 0) 178 [some (.ref 13), some (.int (nI p)), some (.int (nI 13)), some (.int (x)), some (.int (nI 0))] [] (σ.set (19) (.inl (0, 12, .inl (fun j => nI ((va_up ps (t) ((p) + (1))) j))))) P
    refine er_goto 189 d_Ma_step_178 (by decide) ?_
    exact er_vret d_Ma_step_189 rfl (hF6 _ e1 (KB.kz (N := 6) (R := R) (V := V) (mt := mt) (m := m) (p := p + 1) (t := t) (fs := fs) ⟨_, _, _, _, (jl_sn (by decide) hX), (jl_sn (by decide) u1), (jl_ss u2), (jl_sn (by decide) t1), (jl_sn (by decide) t2), ⟨(jl_sn (by decide) s0), (jl_sn (by decide) s1), (jl_sn (by decide) s2), (jl_sn (by decide) s3)⟩, (hx.pc), hto, (hF.set (by omega))⟩)) (by decide) (by decide)
theorem ma_st_15 (hl : l.stackTraces = false) {P : jl_O → jl_S → Prop}  (hk : KB σ0 mt σ (7 + (b + 1)) t m p (R) (V) (fs) (H) su dt dq aw) (hwx : WX σ0 tb pr ow fi ft mt sg D MP FH) (hmt : MtOk mt) (hok : WoOk tb pr ow fi) (ht : t < 12) (hp : p < 24) (hop : dop (D m) p = 15) (hag : dag (D m) p = (x)) (hD : ∀ m, mt m ≠ none → MdOk (D m)) (hpf : ∀ k ∈ fs, k.p < 24) (hft : ∀ k f, tyv (some (fty pr fi ft k f))) (hm40 : H.n ≤ 40) (hz18 : ∀ j, H.sz j ≤ 18) (hh : R 6 = some (b + 1)) (hb : b + 1 ≤ 5) (hpt : b + pts 15 ≤ 5) (hf : fit tb 15 x R V b H) (hO : ∀ R' V' H' σ', ins pr ow fi ft 15 x R V b H = .ok R' V' H' → KB σ0 mt σ' (7 + hgt R') t m (p + 1) R' V' fs H' su dt dq aw → P (.inl none) σ') (hG : ∀ n f' fs' σ', ins pr ow fi ft 15 x R V b H = .sg n → rse pr D none (-1) (⟨m, p, R, V⟩ :: fs) = some (f' :: fs') → KB σ0 mt σ' (7 + hgt f'.R) fs'.length f'.m f'.p f'.R f'.V fs' H su dt dq aw → P (.inl none) σ') (hE : ∀ n σ', ins pr ow fi ft 15 x R V b H = .sg n → rse pr D none (-1) (⟨m, p, R, V⟩ :: fs) = none → KZ σ0 σ' H (nI n) (nI 0) dq aw → P (.inl none) σ') (hF6 : ∀ σ', ins pr ow fi ft 15 x R V b H = .full → KZ σ0 σ' H (nI 6) (nI 0) dq aw → P (.inl none) σ') : jl_mE l G m_Ma_step [.ref 13] σ P := by
  obtain ⟨uw, ps, ty, va, hX, u1, u2, t1, t2, hS, hx, hto, hF⟩ := id hk
  obtain ⟨s0, s1, s2, s3⟩ := id hS
  obtain ⟨⟨⟨a, hma, hua⟩, hps1, hty, hva⟩, hfs, hln, hob⟩ := id hx
  have hma : mt m = some a := hma
  have hps1 : ps t = p := hps1
  have hty : ∀ j, j < _ → ty (t * 12 + j) = R j := hty
  have hva : ∀ j, j < _ → j ≠ 6 → va (t * 12 + j) = V j := hva
  have hRo := hx.rob
  obtain ⟨hM, g1, g2, g3, g4, g5, g6, g7, g8⟩ : MeD σ a (D m) (MP m) (FH m) := (hwx.fr hF hmt).2.2.2 m a hma
  refine jl_ofE (as := [.ref 13]) rfl (by decide) hl (jl_cc rfl jl_ca) (Nat.le_of_ble_eq_true rfl) ?_
  show jl_E l G m_Ma_step (0, 0) 0 [some (.ref 13), none, none, none, none] [] (σ) P
  refine er_aload_n d_Ma_step_0 rfl ?_
  refine er_getf d_Ma_step_1 f_Ma_step_24 hX rfl ?_
  refine er_aload_n d_Ma_step_4 rfl ?_
  refine er_getf d_Ma_step_5 f_Ma_step_34 hX rfl ?_
  refine er_ialdQ (v := (nI (p))) d_Ma_step_8 u2 (by omega) (by omega) (congrArg nI hps1) ?_
  refine er_istore_n d_Ma_step_9 (by decide) ?_
  show jl_E l G m_Ma_step (0, 0) 10 [some (.ref 13), some (.int (nI p)), none, none, none] [] (σ) P
  refine er_aload_n d_Ma_step_10 rfl ?_
  refine er_getf d_Ma_step_11 f_Ma_step_20 hX rfl ?_
  refine er_aload_n d_Ma_step_14 rfl ?_
  refine er_getf d_Ma_step_15 f_Ma_step_34 hX rfl ?_
  refine er_aaldQ (v := some (a)) d_Ma_step_18 u1 (by omega) (by omega) (hua) ?_
  show jl_E l G m_Ma_step (0, 0) 19 [some (.ref 13), some (.int (nI p)), none, none, none] [.ref a] (σ) P
  refine er_getf d_Ma_step_19 f_Ma_step_94 hM rfl ?_
  refine er_iload_n d_Ma_step_22 rfl ?_
  refine er_ialdQ (v := (nI (15))) d_Ma_step_23 g1 (by omega) (by omega) (congrArg nI hop) ?_
  refine er_istore_n d_Ma_step_24 (by decide) ?_
  show jl_E l G m_Ma_step (0, 0) 25 [some (.ref 13), some (.int (nI p)), some (.int (nI 15)), none, none] [] (σ) P
  refine er_aload_n d_Ma_step_25 rfl ?_
  refine er_getf d_Ma_step_26 f_Ma_step_20 hX rfl ?_
  refine er_aload_n d_Ma_step_29 rfl ?_
  refine er_getf d_Ma_step_30 f_Ma_step_34 hX rfl ?_
  refine er_aaldQ (v := some (a)) d_Ma_step_33 u1 (by omega) (by omega) (hua) ?_
  show jl_E l G m_Ma_step (0, 0) 34 [some (.ref 13), some (.int (nI p)), some (.int (nI 15)), none, none] [.ref a] (σ) P
  refine er_getf d_Ma_step_34 f_Ma_step_97 hM rfl ?_
  refine er_iload_n d_Ma_step_37 rfl ?_
  refine er_ialdQ (v := (x)) d_Ma_step_38 g2 (by omega) (by omega) (hag) ?_
  refine er_istore_n d_Ma_step_39 (by decide) ?_
  show jl_E l G m_Ma_step (0, 0) 40 [some (.ref 13), some (.int (nI p)), some (.int (nI 15)), some (.int (x)), none] [] (σ) P
  refine er_iload_n d_Ma_step_40 rfl ?_
  refine er_tableIn (off := 112) 153 d_Ma_step_41 (by decide +kernel) (by decide +kernel) (by decide +kernel) (by decide) ?_
  refine er_aload_n d_Ma_step_153 rfl ?_
  refine er_iload_n d_Ma_step_154 rfl ?_
  refine er_iload_n d_Ma_step_155 rfl ?_
  refine er_callVE (As := [.int (nI 15), .int (x)]) d_Ma_step_156 k_Ma_step_114 hX rfl rfl rfl (Nat.le_of_ble_eq_true rfl) (by decide) (by decide) (ma_ins_15 hl hwx hmt hok hft ht hm40 hz18 hk hh hb hpt hf (fun R1 V1 H1 σ e1 hk1 => ⟨_, rfl, ?_⟩) (fun n σ e1 hk1 => ⟨_, rfl, ?_⟩) (fun σ e1 hk1 => ⟨_, rfl, ?_⟩))
  · skip
    obtain ⟨uw, ps, ty, va, hX, u1, u2, t1, t2, hS, hx, hto, hF⟩ := id hk1
    obtain ⟨s0, s1, s2, s3⟩ := id hS
    show jl_E l G m_Ma_step (0, 0) 159 [some (.ref 13), some (.int (nI p)), some (.int (nI 15)), some (.int (x)), none] [.int (nI 0)] (σ) P
    refine er_istore d_Ma_step_159 (by decide) ?_
    show jl_E l G m_Ma_step (0, 0) 161 [some (.ref 13), some (.int (nI p)), some (.int (nI 15)), some (.int (x)), some (.int (nI 0))] [] (σ) P
    refine er_iload d_Ma_step_161 rfl ?_
    refine er_if_ne 181 d_Ma_step_163 (by decide) (fun z => absurd rfl z) (fun _ => ?_)
    refine er_aload_n d_Ma_step_166 rfl ?_
    refine er_getf d_Ma_step_167 f_Ma_step_24 hX rfl ?_
    refine er_aload_n d_Ma_step_170 rfl ?_
    refine er_getf d_Ma_step_171 f_Ma_step_34 hX rfl ?_
    refine er_iload_n d_Ma_step_174 rfl ?_
    refine er_iconst ((nI (1))) d_Ma_step_175 (by decide) ?_
    refine er_iaddN d_Ma_step_176 ?_
    refine er_iastN d_Ma_step_177 u2 (by omega) (by omega) ?_
    rw [show upd (fun j => nI (ps j)) (t) ((nI ((p) + (1)))) = (fun j => nI ((va_up ps (t) ((p) + (1))) j)) from nI_up ps (t) ((p) + (1))]
    show jl_E l G m_Ma_step (0, 0) 178 [some (.ref 13), some (.int (nI p)), some (.int (nI 15)), some (.int (x)), some (.int (nI 0))] [] (σ.set (19) (.inl (0, 12, .inl (fun j => nI ((va_up ps (t) ((p) + (1))) j))))) P
    refine er_goto 189 d_Ma_step_178 (by decide) ?_
    exact er_vret d_Ma_step_189 rfl (hO R1 V1 H1 _ e1 ⟨_, _, _, _, (jl_sn (by decide) hX), (jl_sn (by decide) u1), (jl_ss u2), (jl_sn (by decide) t1), (jl_sn (by decide) t2), ⟨(jl_sn (by decide) s0), (jl_sn (by decide) s1), (jl_sn (by decide) s2), (jl_sn (by decide) s3)⟩, (hx.pc), hto, (hF.set (by omega))⟩) (by decide) (by decide)
  · skip
    have hn14 := ins_sg e1
    obtain ⟨uw, ps, ty, va, hX, u1, u2, t1, t2, hS, hx, hto, hF⟩ := id hk1
    obtain ⟨s0, s1, s2, s3⟩ := id hS
    show jl_E l G m_Ma_step (0, 0) 159 [some (.ref 13), some (.int (nI p)), some (.int (nI 15)), some (.int (x)), none] [.int (nI n)] (σ) P
    refine er_istore d_Ma_step_159 (by decide) ?_
    show jl_E l G m_Ma_step (0, 0) 161 [some (.ref 13), some (.int (nI p)), some (.int (nI 15)), some (.int (x)), some (.int (nI n))] [] (σ) P
    refine er_iload d_Ma_step_161 rfl ?_
    refine er_if_ne 181 d_Ma_step_163 (by decide) (fun _ => ?_) (fun z => absurd z ((fun z => by have z2 : nI n = nI 0 := z.trans nI_0k.symm; rw [nI_eq (by omega) (by omega)] at z2; omega)))
    refine er_aload_n d_Ma_step_181 rfl ?_
    refine er_iload d_Ma_step_182 rfl ?_
    refine er_iconst ((-1)) d_Ma_step_184 (by decide) ?_
    refine er_iconst ((-1)) d_Ma_step_185 (by decide) ?_
    refine er_callVE (As := [.int (nI n), .int (-1), .int (-1)]) d_Ma_step_186 k_Ma_step_118 hX rfl rfl rfl (Nat.le_of_ble_eq_true rfl) (by decide) (by decide) (ma_raise (y := none) (v := -1) (n := n) (R := R) (V := V) hl hk1 hwx hmt hok hD (fun _ q => by cases q) (by omega) ht hp hpf (fun f1 fs1 σ e2 h1 => ⟨_, rfl, ?_⟩) (fun e2 σ h1 => ⟨_, rfl, ?_⟩))
    · skip
      show jl_E l G m_Ma_step (0, 0) 189 [some (.ref 13), some (.int (nI p)), some (.int (nI 15)), some (.int (x)), some (.int (nI n))] [] (σ) P
      exact er_vret d_Ma_step_189 rfl (hG n f1 fs1 _ e1 e2 h1) (by decide) (by decide)
    · skip
      show jl_E l G m_Ma_step (0, 0) 189 [some (.ref 13), some (.int (nI p)), some (.int (nI 15)), some (.int (x)), some (.int (nI n))] [] (σ) P
      exact er_vret d_Ma_step_189 rfl (hE n _ e1 e2 (by have z := h1; rw [if_neg (by omega)] at z; exact z)) (by decide) (by decide)
  · skip
    obtain ⟨uw, ps, ty, va, hX, u1, u2, t1, t2, hS, hx, hto, hF⟩ := id hk1
    obtain ⟨s0, s1, s2, s3⟩ := id hS
    show jl_E l G m_Ma_step (0, 0) 159 [some (.ref 13), some (.int (nI p)), some (.int (nI 15)), some (.int (x)), none] [.int (nI 0)] (σ) P
    refine er_istore d_Ma_step_159 (by decide) ?_
    show jl_E l G m_Ma_step (0, 0) 161 [some (.ref 13), some (.int (nI p)), some (.int (nI 15)), some (.int (x)), some (.int (nI 0))] [] (σ) P
    refine er_iload d_Ma_step_161 rfl ?_
    refine er_if_ne 181 d_Ma_step_163 (by decide) (fun z => absurd rfl z) (fun _ => ?_)
    refine er_aload_n d_Ma_step_166 rfl ?_
    refine er_getf d_Ma_step_167 f_Ma_step_24 hX rfl ?_
    refine er_aload_n d_Ma_step_170 rfl ?_
    refine er_getf d_Ma_step_171 f_Ma_step_34 hX rfl ?_
    refine er_iload_n d_Ma_step_174 rfl ?_
    refine er_iconst ((nI (1))) d_Ma_step_175 (by decide) ?_
    refine er_iaddN d_Ma_step_176 ?_
    refine er_iastN d_Ma_step_177 u2 (by omega) (by omega) ?_
    rw [show upd (fun j => nI (ps j)) (t) ((nI ((p) + (1)))) = (fun j => nI ((va_up ps (t) ((p) + (1))) j)) from nI_up ps (t) ((p) + (1))]
    show jl_E l G m_Ma_step (0, 0) 178 [some (.ref 13), some (.int (nI p)), some (.int (nI 15)), some (.int (x)), some (.int (nI 0))] [] (σ.set (19) (.inl (0, 12, .inl (fun j => nI ((va_up ps (t) ((p) + (1))) j))))) P
    refine er_goto 189 d_Ma_step_178 (by decide) ?_
    exact er_vret d_Ma_step_189 rfl (hF6 _ e1 (KB.kz (N := 6) (R := R) (V := V) (mt := mt) (m := m) (p := p + 1) (t := t) (fs := fs) ⟨_, _, _, _, (jl_sn (by decide) hX), (jl_sn (by decide) u1), (jl_ss u2), (jl_sn (by decide) t1), (jl_sn (by decide) t2), ⟨(jl_sn (by decide) s0), (jl_sn (by decide) s1), (jl_sn (by decide) s2), (jl_sn (by decide) s3)⟩, (hx.pc), hto, (hF.set (by omega))⟩)) (by decide) (by decide)
theorem ma_st_19 (hl : l.stackTraces = false) {P : jl_O → jl_S → Prop}  (hk : KB σ0 mt σ (7 + (b + 1)) t m p (R) (V) (fs) (H) su dt dq aw) (hwx : WX σ0 tb pr ow fi ft mt sg D MP FH) (hmt : MtOk mt) (hok : WoOk tb pr ow fi) (ht : t < 12) (hp : p < 24) (hop : dop (D m) p = 19) (hag : dag (D m) p = (x)) (hD : ∀ m, mt m ≠ none → MdOk (D m)) (hpf : ∀ k ∈ fs, k.p < 24) (hft : ∀ k f, tyv (some (fty pr fi ft k f))) (hm40 : H.n ≤ 40) (hz18 : ∀ j, H.sz j ≤ 18) (hh : R 6 = some (b + 1)) (hb : b + 1 ≤ 5) (hpt : b + pts 19 ≤ 5) (hf : fit tb 19 x R V b H) (hO : ∀ R' V' H' σ', ins pr ow fi ft 19 x R V b H = .ok R' V' H' → KB σ0 mt σ' (7 + hgt R') t m (p + 1) R' V' fs H' su dt dq aw → P (.inl none) σ') (hG : ∀ n f' fs' σ', ins pr ow fi ft 19 x R V b H = .sg n → rse pr D none (-1) (⟨m, p, R, V⟩ :: fs) = some (f' :: fs') → KB σ0 mt σ' (7 + hgt f'.R) fs'.length f'.m f'.p f'.R f'.V fs' H su dt dq aw → P (.inl none) σ') (hE : ∀ n σ', ins pr ow fi ft 19 x R V b H = .sg n → rse pr D none (-1) (⟨m, p, R, V⟩ :: fs) = none → KZ σ0 σ' H (nI n) (nI 0) dq aw → P (.inl none) σ') (hF6 : ∀ σ', ins pr ow fi ft 19 x R V b H = .full → KZ σ0 σ' H (nI 6) (nI 0) dq aw → P (.inl none) σ') : jl_mE l G m_Ma_step [.ref 13] σ P := by
  obtain ⟨uw, ps, ty, va, hX, u1, u2, t1, t2, hS, hx, hto, hF⟩ := id hk
  obtain ⟨s0, s1, s2, s3⟩ := id hS
  obtain ⟨⟨⟨a, hma, hua⟩, hps1, hty, hva⟩, hfs, hln, hob⟩ := id hx
  have hma : mt m = some a := hma
  have hps1 : ps t = p := hps1
  have hty : ∀ j, j < _ → ty (t * 12 + j) = R j := hty
  have hva : ∀ j, j < _ → j ≠ 6 → va (t * 12 + j) = V j := hva
  have hRo := hx.rob
  obtain ⟨hM, g1, g2, g3, g4, g5, g6, g7, g8⟩ : MeD σ a (D m) (MP m) (FH m) := (hwx.fr hF hmt).2.2.2 m a hma
  refine jl_ofE (as := [.ref 13]) rfl (by decide) hl (jl_cc rfl jl_ca) (Nat.le_of_ble_eq_true rfl) ?_
  show jl_E l G m_Ma_step (0, 0) 0 [some (.ref 13), none, none, none, none] [] (σ) P
  refine er_aload_n d_Ma_step_0 rfl ?_
  refine er_getf d_Ma_step_1 f_Ma_step_24 hX rfl ?_
  refine er_aload_n d_Ma_step_4 rfl ?_
  refine er_getf d_Ma_step_5 f_Ma_step_34 hX rfl ?_
  refine er_ialdQ (v := (nI (p))) d_Ma_step_8 u2 (by omega) (by omega) (congrArg nI hps1) ?_
  refine er_istore_n d_Ma_step_9 (by decide) ?_
  show jl_E l G m_Ma_step (0, 0) 10 [some (.ref 13), some (.int (nI p)), none, none, none] [] (σ) P
  refine er_aload_n d_Ma_step_10 rfl ?_
  refine er_getf d_Ma_step_11 f_Ma_step_20 hX rfl ?_
  refine er_aload_n d_Ma_step_14 rfl ?_
  refine er_getf d_Ma_step_15 f_Ma_step_34 hX rfl ?_
  refine er_aaldQ (v := some (a)) d_Ma_step_18 u1 (by omega) (by omega) (hua) ?_
  show jl_E l G m_Ma_step (0, 0) 19 [some (.ref 13), some (.int (nI p)), none, none, none] [.ref a] (σ) P
  refine er_getf d_Ma_step_19 f_Ma_step_94 hM rfl ?_
  refine er_iload_n d_Ma_step_22 rfl ?_
  refine er_ialdQ (v := (nI (19))) d_Ma_step_23 g1 (by omega) (by omega) (congrArg nI hop) ?_
  refine er_istore_n d_Ma_step_24 (by decide) ?_
  show jl_E l G m_Ma_step (0, 0) 25 [some (.ref 13), some (.int (nI p)), some (.int (nI 19)), none, none] [] (σ) P
  refine er_aload_n d_Ma_step_25 rfl ?_
  refine er_getf d_Ma_step_26 f_Ma_step_20 hX rfl ?_
  refine er_aload_n d_Ma_step_29 rfl ?_
  refine er_getf d_Ma_step_30 f_Ma_step_34 hX rfl ?_
  refine er_aaldQ (v := some (a)) d_Ma_step_33 u1 (by omega) (by omega) (hua) ?_
  show jl_E l G m_Ma_step (0, 0) 34 [some (.ref 13), some (.int (nI p)), some (.int (nI 19)), none, none] [.ref a] (σ) P
  refine er_getf d_Ma_step_34 f_Ma_step_97 hM rfl ?_
  refine er_iload_n d_Ma_step_37 rfl ?_
  refine er_ialdQ (v := (x)) d_Ma_step_38 g2 (by omega) (by omega) (hag) ?_
  refine er_istore_n d_Ma_step_39 (by decide) ?_
  show jl_E l G m_Ma_step (0, 0) 40 [some (.ref 13), some (.int (nI p)), some (.int (nI 19)), some (.int (x)), none] [] (σ) P
  refine er_iload_n d_Ma_step_40 rfl ?_
  refine er_tableOut 153 d_Ma_step_41 (by decide +kernel) (by decide) ?_
  refine er_aload_n d_Ma_step_153 rfl ?_
  refine er_iload_n d_Ma_step_154 rfl ?_
  refine er_iload_n d_Ma_step_155 rfl ?_
  refine er_callVE (As := [.int (nI 19), .int (x)]) d_Ma_step_156 k_Ma_step_114 hX rfl rfl rfl (Nat.le_of_ble_eq_true rfl) (by decide) (by decide) (ma_ins_19 hl hwx hmt hok hft ht hm40 hz18 hk hh hb hpt hf (fun R1 V1 H1 σ e1 hk1 => ⟨_, rfl, ?_⟩) (fun n σ e1 hk1 => ⟨_, rfl, ?_⟩) (fun σ e1 hk1 => ⟨_, rfl, ?_⟩))
  · skip
    obtain ⟨uw, ps, ty, va, hX, u1, u2, t1, t2, hS, hx, hto, hF⟩ := id hk1
    obtain ⟨s0, s1, s2, s3⟩ := id hS
    show jl_E l G m_Ma_step (0, 0) 159 [some (.ref 13), some (.int (nI p)), some (.int (nI 19)), some (.int (x)), none] [.int (nI 0)] (σ) P
    refine er_istore d_Ma_step_159 (by decide) ?_
    show jl_E l G m_Ma_step (0, 0) 161 [some (.ref 13), some (.int (nI p)), some (.int (nI 19)), some (.int (x)), some (.int (nI 0))] [] (σ) P
    refine er_iload d_Ma_step_161 rfl ?_
    refine er_if_ne 181 d_Ma_step_163 (by decide) (fun z => absurd rfl z) (fun _ => ?_)
    refine er_aload_n d_Ma_step_166 rfl ?_
    refine er_getf d_Ma_step_167 f_Ma_step_24 hX rfl ?_
    refine er_aload_n d_Ma_step_170 rfl ?_
    refine er_getf d_Ma_step_171 f_Ma_step_34 hX rfl ?_
    refine er_iload_n d_Ma_step_174 rfl ?_
    refine er_iconst ((nI (1))) d_Ma_step_175 (by decide) ?_
    refine er_iaddN d_Ma_step_176 ?_
    refine er_iastN d_Ma_step_177 u2 (by omega) (by omega) ?_
    rw [show upd (fun j => nI (ps j)) (t) ((nI ((p) + (1)))) = (fun j => nI ((va_up ps (t) ((p) + (1))) j)) from nI_up ps (t) ((p) + (1))]
    show jl_E l G m_Ma_step (0, 0) 178 [some (.ref 13), some (.int (nI p)), some (.int (nI 19)), some (.int (x)), some (.int (nI 0))] [] (σ.set (19) (.inl (0, 12, .inl (fun j => nI ((va_up ps (t) ((p) + (1))) j))))) P
    refine er_goto 189 d_Ma_step_178 (by decide) ?_
    exact er_vret d_Ma_step_189 rfl (hO R1 V1 H1 _ e1 ⟨_, _, _, _, (jl_sn (by decide) hX), (jl_sn (by decide) u1), (jl_ss u2), (jl_sn (by decide) t1), (jl_sn (by decide) t2), ⟨(jl_sn (by decide) s0), (jl_sn (by decide) s1), (jl_sn (by decide) s2), (jl_sn (by decide) s3)⟩, (hx.pc), hto, (hF.set (by omega))⟩) (by decide) (by decide)
  · skip
    have hn14 := ins_sg e1
    obtain ⟨uw, ps, ty, va, hX, u1, u2, t1, t2, hS, hx, hto, hF⟩ := id hk1
    obtain ⟨s0, s1, s2, s3⟩ := id hS
    show jl_E l G m_Ma_step (0, 0) 159 [some (.ref 13), some (.int (nI p)), some (.int (nI 19)), some (.int (x)), none] [.int (nI n)] (σ) P
    refine er_istore d_Ma_step_159 (by decide) ?_
    show jl_E l G m_Ma_step (0, 0) 161 [some (.ref 13), some (.int (nI p)), some (.int (nI 19)), some (.int (x)), some (.int (nI n))] [] (σ) P
    refine er_iload d_Ma_step_161 rfl ?_
    refine er_if_ne 181 d_Ma_step_163 (by decide) (fun _ => ?_) (fun z => absurd z ((fun z => by have z2 : nI n = nI 0 := z.trans nI_0k.symm; rw [nI_eq (by omega) (by omega)] at z2; omega)))
    refine er_aload_n d_Ma_step_181 rfl ?_
    refine er_iload d_Ma_step_182 rfl ?_
    refine er_iconst ((-1)) d_Ma_step_184 (by decide) ?_
    refine er_iconst ((-1)) d_Ma_step_185 (by decide) ?_
    refine er_callVE (As := [.int (nI n), .int (-1), .int (-1)]) d_Ma_step_186 k_Ma_step_118 hX rfl rfl rfl (Nat.le_of_ble_eq_true rfl) (by decide) (by decide) (ma_raise (y := none) (v := -1) (n := n) (R := R) (V := V) hl hk1 hwx hmt hok hD (fun _ q => by cases q) (by omega) ht hp hpf (fun f1 fs1 σ e2 h1 => ⟨_, rfl, ?_⟩) (fun e2 σ h1 => ⟨_, rfl, ?_⟩))
    · skip
      show jl_E l G m_Ma_step (0, 0) 189 [some (.ref 13), some (.int (nI p)), some (.int (nI 19)), some (.int (x)), some (.int (nI n))] [] (σ) P
      exact er_vret d_Ma_step_189 rfl (hG n f1 fs1 _ e1 e2 h1) (by decide) (by decide)
    · skip
      show jl_E l G m_Ma_step (0, 0) 189 [some (.ref 13), some (.int (nI p)), some (.int (nI 19)), some (.int (x)), some (.int (nI n))] [] (σ) P
      exact er_vret d_Ma_step_189 rfl (hE n _ e1 e2 (by have z := h1; rw [if_neg (by omega)] at z; exact z)) (by decide) (by decide)
  · skip
    obtain ⟨uw, ps, ty, va, hX, u1, u2, t1, t2, hS, hx, hto, hF⟩ := id hk1
    obtain ⟨s0, s1, s2, s3⟩ := id hS
    show jl_E l G m_Ma_step (0, 0) 159 [some (.ref 13), some (.int (nI p)), some (.int (nI 19)), some (.int (x)), none] [.int (nI 0)] (σ) P
    refine er_istore d_Ma_step_159 (by decide) ?_
    show jl_E l G m_Ma_step (0, 0) 161 [some (.ref 13), some (.int (nI p)), some (.int (nI 19)), some (.int (x)), some (.int (nI 0))] [] (σ) P
    refine er_iload d_Ma_step_161 rfl ?_
    refine er_if_ne 181 d_Ma_step_163 (by decide) (fun z => absurd rfl z) (fun _ => ?_)
    refine er_aload_n d_Ma_step_166 rfl ?_
    refine er_getf d_Ma_step_167 f_Ma_step_24 hX rfl ?_
    refine er_aload_n d_Ma_step_170 rfl ?_
    refine er_getf d_Ma_step_171 f_Ma_step_34 hX rfl ?_
    refine er_iload_n d_Ma_step_174 rfl ?_
    refine er_iconst ((nI (1))) d_Ma_step_175 (by decide) ?_
    refine er_iaddN d_Ma_step_176 ?_
    refine er_iastN d_Ma_step_177 u2 (by omega) (by omega) ?_
    rw [show upd (fun j => nI (ps j)) (t) ((nI ((p) + (1)))) = (fun j => nI ((va_up ps (t) ((p) + (1))) j)) from nI_up ps (t) ((p) + (1))]
    show jl_E l G m_Ma_step (0, 0) 178 [some (.ref 13), some (.int (nI p)), some (.int (nI 19)), some (.int (x)), some (.int (nI 0))] [] (σ.set (19) (.inl (0, 12, .inl (fun j => nI ((va_up ps (t) ((p) + (1))) j))))) P
    refine er_goto 189 d_Ma_step_178 (by decide) ?_
    exact er_vret d_Ma_step_189 rfl (hF6 _ e1 (KB.kz (N := 6) (R := R) (V := V) (mt := mt) (m := m) (p := p + 1) (t := t) (fs := fs) ⟨_, _, _, _, (jl_sn (by decide) hX), (jl_sn (by decide) u1), (jl_ss u2), (jl_sn (by decide) t1), (jl_sn (by decide) t2), ⟨(jl_sn (by decide) s0), (jl_sn (by decide) s1), (jl_sn (by decide) s2), (jl_sn (by decide) s3)⟩, (hx.pc), hto, (hF.set (by omega))⟩)) (by decide) (by decide)
theorem ma_st_20 (hl : l.stackTraces = false) {P : jl_O → jl_S → Prop}  (hk : KB σ0 mt σ (7 + (b + 2)) t m p (R) (V) (fs) (H) su dt dq aw) (hwx : WX σ0 tb pr ow fi ft mt sg D MP FH) (hmt : MtOk mt) (hok : WoOk tb pr ow fi) (ht : t < 12) (hp : p < 24) (hop : dop (D m) p = 20) (hag : dag (D m) p = (x)) (hD : ∀ m, mt m ≠ none → MdOk (D m)) (hpf : ∀ k ∈ fs, k.p < 24) (hft : ∀ k f, tyv (some (fty pr fi ft k f))) (hm40 : H.n ≤ 40) (hz18 : ∀ j, H.sz j ≤ 18) (hh : R 6 = some (b + 2)) (hb : b + 2 ≤ 5) (hpt : b + pts 20 ≤ 5) (hf : fit tb 20 x R V b H) (hO : ∀ R' V' H' σ', ins pr ow fi ft 20 x R V b H = .ok R' V' H' → KB σ0 mt σ' (7 + hgt R') t m (p + 1) R' V' fs H' su dt dq aw → P (.inl none) σ') (hG : ∀ n f' fs' σ', ins pr ow fi ft 20 x R V b H = .sg n → rse pr D none (-1) (⟨m, p, R, V⟩ :: fs) = some (f' :: fs') → KB σ0 mt σ' (7 + hgt f'.R) fs'.length f'.m f'.p f'.R f'.V fs' H su dt dq aw → P (.inl none) σ') (hE : ∀ n σ', ins pr ow fi ft 20 x R V b H = .sg n → rse pr D none (-1) (⟨m, p, R, V⟩ :: fs) = none → KZ σ0 σ' H (nI n) (nI 0) dq aw → P (.inl none) σ') (hF6 : ∀ σ', ins pr ow fi ft 20 x R V b H = .full → KZ σ0 σ' H (nI 6) (nI 0) dq aw → P (.inl none) σ') : jl_mE l G m_Ma_step [.ref 13] σ P := by
  obtain ⟨uw, ps, ty, va, hX, u1, u2, t1, t2, hS, hx, hto, hF⟩ := id hk
  obtain ⟨s0, s1, s2, s3⟩ := id hS
  obtain ⟨⟨⟨a, hma, hua⟩, hps1, hty, hva⟩, hfs, hln, hob⟩ := id hx
  have hma : mt m = some a := hma
  have hps1 : ps t = p := hps1
  have hty : ∀ j, j < _ → ty (t * 12 + j) = R j := hty
  have hva : ∀ j, j < _ → j ≠ 6 → va (t * 12 + j) = V j := hva
  have hRo := hx.rob
  obtain ⟨hM, g1, g2, g3, g4, g5, g6, g7, g8⟩ : MeD σ a (D m) (MP m) (FH m) := (hwx.fr hF hmt).2.2.2 m a hma
  refine jl_ofE (as := [.ref 13]) rfl (by decide) hl (jl_cc rfl jl_ca) (Nat.le_of_ble_eq_true rfl) ?_
  show jl_E l G m_Ma_step (0, 0) 0 [some (.ref 13), none, none, none, none] [] (σ) P
  refine er_aload_n d_Ma_step_0 rfl ?_
  refine er_getf d_Ma_step_1 f_Ma_step_24 hX rfl ?_
  refine er_aload_n d_Ma_step_4 rfl ?_
  refine er_getf d_Ma_step_5 f_Ma_step_34 hX rfl ?_
  refine er_ialdQ (v := (nI (p))) d_Ma_step_8 u2 (by omega) (by omega) (congrArg nI hps1) ?_
  refine er_istore_n d_Ma_step_9 (by decide) ?_
  show jl_E l G m_Ma_step (0, 0) 10 [some (.ref 13), some (.int (nI p)), none, none, none] [] (σ) P
  refine er_aload_n d_Ma_step_10 rfl ?_
  refine er_getf d_Ma_step_11 f_Ma_step_20 hX rfl ?_
  refine er_aload_n d_Ma_step_14 rfl ?_
  refine er_getf d_Ma_step_15 f_Ma_step_34 hX rfl ?_
  refine er_aaldQ (v := some (a)) d_Ma_step_18 u1 (by omega) (by omega) (hua) ?_
  show jl_E l G m_Ma_step (0, 0) 19 [some (.ref 13), some (.int (nI p)), none, none, none] [.ref a] (σ) P
  refine er_getf d_Ma_step_19 f_Ma_step_94 hM rfl ?_
  refine er_iload_n d_Ma_step_22 rfl ?_
  refine er_ialdQ (v := (nI (20))) d_Ma_step_23 g1 (by omega) (by omega) (congrArg nI hop) ?_
  refine er_istore_n d_Ma_step_24 (by decide) ?_
  show jl_E l G m_Ma_step (0, 0) 25 [some (.ref 13), some (.int (nI p)), some (.int (nI 20)), none, none] [] (σ) P
  refine er_aload_n d_Ma_step_25 rfl ?_
  refine er_getf d_Ma_step_26 f_Ma_step_20 hX rfl ?_
  refine er_aload_n d_Ma_step_29 rfl ?_
  refine er_getf d_Ma_step_30 f_Ma_step_34 hX rfl ?_
  refine er_aaldQ (v := some (a)) d_Ma_step_33 u1 (by omega) (by omega) (hua) ?_
  show jl_E l G m_Ma_step (0, 0) 34 [some (.ref 13), some (.int (nI p)), some (.int (nI 20)), none, none] [.ref a] (σ) P
  refine er_getf d_Ma_step_34 f_Ma_step_97 hM rfl ?_
  refine er_iload_n d_Ma_step_37 rfl ?_
  refine er_ialdQ (v := (x)) d_Ma_step_38 g2 (by omega) (by omega) (hag) ?_
  refine er_istore_n d_Ma_step_39 (by decide) ?_
  show jl_E l G m_Ma_step (0, 0) 40 [some (.ref 13), some (.int (nI p)), some (.int (nI 20)), some (.int (x)), none] [] (σ) P
  refine er_iload_n d_Ma_step_40 rfl ?_
  refine er_tableOut 153 d_Ma_step_41 (by decide +kernel) (by decide) ?_
  refine er_aload_n d_Ma_step_153 rfl ?_
  refine er_iload_n d_Ma_step_154 rfl ?_
  refine er_iload_n d_Ma_step_155 rfl ?_
  refine er_callVE (As := [.int (nI 20), .int (x)]) d_Ma_step_156 k_Ma_step_114 hX rfl rfl rfl (Nat.le_of_ble_eq_true rfl) (by decide) (by decide) (ma_ins_20 hl hwx hmt hok hft ht hm40 hz18 hk hh hb hpt hf (fun R1 V1 H1 σ e1 hk1 => ⟨_, rfl, ?_⟩) (fun n σ e1 hk1 => ⟨_, rfl, ?_⟩) (fun σ e1 hk1 => ⟨_, rfl, ?_⟩))
  · skip
    obtain ⟨uw, ps, ty, va, hX, u1, u2, t1, t2, hS, hx, hto, hF⟩ := id hk1
    obtain ⟨s0, s1, s2, s3⟩ := id hS
    show jl_E l G m_Ma_step (0, 0) 159 [some (.ref 13), some (.int (nI p)), some (.int (nI 20)), some (.int (x)), none] [.int (nI 0)] (σ) P
    refine er_istore d_Ma_step_159 (by decide) ?_
    show jl_E l G m_Ma_step (0, 0) 161 [some (.ref 13), some (.int (nI p)), some (.int (nI 20)), some (.int (x)), some (.int (nI 0))] [] (σ) P
    refine er_iload d_Ma_step_161 rfl ?_
    refine er_if_ne 181 d_Ma_step_163 (by decide) (fun z => absurd rfl z) (fun _ => ?_)
    refine er_aload_n d_Ma_step_166 rfl ?_
    refine er_getf d_Ma_step_167 f_Ma_step_24 hX rfl ?_
    refine er_aload_n d_Ma_step_170 rfl ?_
    refine er_getf d_Ma_step_171 f_Ma_step_34 hX rfl ?_
    refine er_iload_n d_Ma_step_174 rfl ?_
    refine er_iconst ((nI (1))) d_Ma_step_175 (by decide) ?_
    refine er_iaddN d_Ma_step_176 ?_
    refine er_iastN d_Ma_step_177 u2 (by omega) (by omega) ?_
    rw [show upd (fun j => nI (ps j)) (t) ((nI ((p) + (1)))) = (fun j => nI ((va_up ps (t) ((p) + (1))) j)) from nI_up ps (t) ((p) + (1))]
    show jl_E l G m_Ma_step (0, 0) 178 [some (.ref 13), some (.int (nI p)), some (.int (nI 20)), some (.int (x)), some (.int (nI 0))] [] (σ.set (19) (.inl (0, 12, .inl (fun j => nI ((va_up ps (t) ((p) + (1))) j))))) P
    refine er_goto 189 d_Ma_step_178 (by decide) ?_
    exact er_vret d_Ma_step_189 rfl (hO R1 V1 H1 _ e1 ⟨_, _, _, _, (jl_sn (by decide) hX), (jl_sn (by decide) u1), (jl_ss u2), (jl_sn (by decide) t1), (jl_sn (by decide) t2), ⟨(jl_sn (by decide) s0), (jl_sn (by decide) s1), (jl_sn (by decide) s2), (jl_sn (by decide) s3)⟩, (hx.pc), hto, (hF.set (by omega))⟩) (by decide) (by decide)
  · skip
    have hn14 := ins_sg e1
    obtain ⟨uw, ps, ty, va, hX, u1, u2, t1, t2, hS, hx, hto, hF⟩ := id hk1
    obtain ⟨s0, s1, s2, s3⟩ := id hS
    show jl_E l G m_Ma_step (0, 0) 159 [some (.ref 13), some (.int (nI p)), some (.int (nI 20)), some (.int (x)), none] [.int (nI n)] (σ) P
    refine er_istore d_Ma_step_159 (by decide) ?_
    show jl_E l G m_Ma_step (0, 0) 161 [some (.ref 13), some (.int (nI p)), some (.int (nI 20)), some (.int (x)), some (.int (nI n))] [] (σ) P
    refine er_iload d_Ma_step_161 rfl ?_
    refine er_if_ne 181 d_Ma_step_163 (by decide) (fun _ => ?_) (fun z => absurd z ((fun z => by have z2 : nI n = nI 0 := z.trans nI_0k.symm; rw [nI_eq (by omega) (by omega)] at z2; omega)))
    refine er_aload_n d_Ma_step_181 rfl ?_
    refine er_iload d_Ma_step_182 rfl ?_
    refine er_iconst ((-1)) d_Ma_step_184 (by decide) ?_
    refine er_iconst ((-1)) d_Ma_step_185 (by decide) ?_
    refine er_callVE (As := [.int (nI n), .int (-1), .int (-1)]) d_Ma_step_186 k_Ma_step_118 hX rfl rfl rfl (Nat.le_of_ble_eq_true rfl) (by decide) (by decide) (ma_raise (y := none) (v := -1) (n := n) (R := R) (V := V) hl hk1 hwx hmt hok hD (fun _ q => by cases q) (by omega) ht hp hpf (fun f1 fs1 σ e2 h1 => ⟨_, rfl, ?_⟩) (fun e2 σ h1 => ⟨_, rfl, ?_⟩))
    · skip
      show jl_E l G m_Ma_step (0, 0) 189 [some (.ref 13), some (.int (nI p)), some (.int (nI 20)), some (.int (x)), some (.int (nI n))] [] (σ) P
      exact er_vret d_Ma_step_189 rfl (hG n f1 fs1 _ e1 e2 h1) (by decide) (by decide)
    · skip
      show jl_E l G m_Ma_step (0, 0) 189 [some (.ref 13), some (.int (nI p)), some (.int (nI 20)), some (.int (x)), some (.int (nI n))] [] (σ) P
      exact er_vret d_Ma_step_189 rfl (hE n _ e1 e2 (by have z := h1; rw [if_neg (by omega)] at z; exact z)) (by decide) (by decide)
  · skip
    obtain ⟨uw, ps, ty, va, hX, u1, u2, t1, t2, hS, hx, hto, hF⟩ := id hk1
    obtain ⟨s0, s1, s2, s3⟩ := id hS
    show jl_E l G m_Ma_step (0, 0) 159 [some (.ref 13), some (.int (nI p)), some (.int (nI 20)), some (.int (x)), none] [.int (nI 0)] (σ) P
    refine er_istore d_Ma_step_159 (by decide) ?_
    show jl_E l G m_Ma_step (0, 0) 161 [some (.ref 13), some (.int (nI p)), some (.int (nI 20)), some (.int (x)), some (.int (nI 0))] [] (σ) P
    refine er_iload d_Ma_step_161 rfl ?_
    refine er_if_ne 181 d_Ma_step_163 (by decide) (fun z => absurd rfl z) (fun _ => ?_)
    refine er_aload_n d_Ma_step_166 rfl ?_
    refine er_getf d_Ma_step_167 f_Ma_step_24 hX rfl ?_
    refine er_aload_n d_Ma_step_170 rfl ?_
    refine er_getf d_Ma_step_171 f_Ma_step_34 hX rfl ?_
    refine er_iload_n d_Ma_step_174 rfl ?_
    refine er_iconst ((nI (1))) d_Ma_step_175 (by decide) ?_
    refine er_iaddN d_Ma_step_176 ?_
    refine er_iastN d_Ma_step_177 u2 (by omega) (by omega) ?_
    rw [show upd (fun j => nI (ps j)) (t) ((nI ((p) + (1)))) = (fun j => nI ((va_up ps (t) ((p) + (1))) j)) from nI_up ps (t) ((p) + (1))]
    show jl_E l G m_Ma_step (0, 0) 178 [some (.ref 13), some (.int (nI p)), some (.int (nI 20)), some (.int (x)), some (.int (nI 0))] [] (σ.set (19) (.inl (0, 12, .inl (fun j => nI ((va_up ps (t) ((p) + (1))) j))))) P
    refine er_goto 189 d_Ma_step_178 (by decide) ?_
    exact er_vret d_Ma_step_189 rfl (hF6 _ e1 (KB.kz (N := 6) (R := R) (V := V) (mt := mt) (m := m) (p := p + 1) (t := t) (fs := fs) ⟨_, _, _, _, (jl_sn (by decide) hX), (jl_sn (by decide) u1), (jl_ss u2), (jl_sn (by decide) t1), (jl_sn (by decide) t2), ⟨(jl_sn (by decide) s0), (jl_sn (by decide) s1), (jl_sn (by decide) s2), (jl_sn (by decide) s3)⟩, (hx.pc), hto, (hF.set (by omega))⟩)) (by decide) (by decide)
theorem ma_st_21 (hl : l.stackTraces = false) {P : jl_O → jl_S → Prop}  (hk : KB σ0 mt σ (7 + (b + 3)) t m p (R) (V) (fs) (H) su dt dq aw) (hwx : WX σ0 tb pr ow fi ft mt sg D MP FH) (hmt : MtOk mt) (hok : WoOk tb pr ow fi) (ht : t < 12) (hp : p < 24) (hop : dop (D m) p = 21) (hag : dag (D m) p = (x)) (hD : ∀ m, mt m ≠ none → MdOk (D m)) (hpf : ∀ k ∈ fs, k.p < 24) (hft : ∀ k f, tyv (some (fty pr fi ft k f))) (hm40 : H.n ≤ 40) (hz18 : ∀ j, H.sz j ≤ 18) (hh : R 6 = some (b + 3)) (hb : b + 3 ≤ 5) (hpt : b + pts 21 ≤ 5) (hf : fit tb 21 x R V b H) (hO : ∀ R' V' H' σ', ins pr ow fi ft 21 x R V b H = .ok R' V' H' → KB σ0 mt σ' (7 + hgt R') t m (p + 1) R' V' fs H' su dt dq aw → P (.inl none) σ') (hG : ∀ n f' fs' σ', ins pr ow fi ft 21 x R V b H = .sg n → rse pr D none (-1) (⟨m, p, R, V⟩ :: fs) = some (f' :: fs') → KB σ0 mt σ' (7 + hgt f'.R) fs'.length f'.m f'.p f'.R f'.V fs' H su dt dq aw → P (.inl none) σ') (hE : ∀ n σ', ins pr ow fi ft 21 x R V b H = .sg n → rse pr D none (-1) (⟨m, p, R, V⟩ :: fs) = none → KZ σ0 σ' H (nI n) (nI 0) dq aw → P (.inl none) σ') (hF6 : ∀ σ', ins pr ow fi ft 21 x R V b H = .full → KZ σ0 σ' H (nI 6) (nI 0) dq aw → P (.inl none) σ') : jl_mE l G m_Ma_step [.ref 13] σ P := by
  obtain ⟨uw, ps, ty, va, hX, u1, u2, t1, t2, hS, hx, hto, hF⟩ := id hk
  obtain ⟨s0, s1, s2, s3⟩ := id hS
  obtain ⟨⟨⟨a, hma, hua⟩, hps1, hty, hva⟩, hfs, hln, hob⟩ := id hx
  have hma : mt m = some a := hma
  have hps1 : ps t = p := hps1
  have hty : ∀ j, j < _ → ty (t * 12 + j) = R j := hty
  have hva : ∀ j, j < _ → j ≠ 6 → va (t * 12 + j) = V j := hva
  have hRo := hx.rob
  obtain ⟨hM, g1, g2, g3, g4, g5, g6, g7, g8⟩ : MeD σ a (D m) (MP m) (FH m) := (hwx.fr hF hmt).2.2.2 m a hma
  refine jl_ofE (as := [.ref 13]) rfl (by decide) hl (jl_cc rfl jl_ca) (Nat.le_of_ble_eq_true rfl) ?_
  show jl_E l G m_Ma_step (0, 0) 0 [some (.ref 13), none, none, none, none] [] (σ) P
  refine er_aload_n d_Ma_step_0 rfl ?_
  refine er_getf d_Ma_step_1 f_Ma_step_24 hX rfl ?_
  refine er_aload_n d_Ma_step_4 rfl ?_
  refine er_getf d_Ma_step_5 f_Ma_step_34 hX rfl ?_
  refine er_ialdQ (v := (nI (p))) d_Ma_step_8 u2 (by omega) (by omega) (congrArg nI hps1) ?_
  refine er_istore_n d_Ma_step_9 (by decide) ?_
  show jl_E l G m_Ma_step (0, 0) 10 [some (.ref 13), some (.int (nI p)), none, none, none] [] (σ) P
  refine er_aload_n d_Ma_step_10 rfl ?_
  refine er_getf d_Ma_step_11 f_Ma_step_20 hX rfl ?_
  refine er_aload_n d_Ma_step_14 rfl ?_
  refine er_getf d_Ma_step_15 f_Ma_step_34 hX rfl ?_
  refine er_aaldQ (v := some (a)) d_Ma_step_18 u1 (by omega) (by omega) (hua) ?_
  show jl_E l G m_Ma_step (0, 0) 19 [some (.ref 13), some (.int (nI p)), none, none, none] [.ref a] (σ) P
  refine er_getf d_Ma_step_19 f_Ma_step_94 hM rfl ?_
  refine er_iload_n d_Ma_step_22 rfl ?_
  refine er_ialdQ (v := (nI (21))) d_Ma_step_23 g1 (by omega) (by omega) (congrArg nI hop) ?_
  refine er_istore_n d_Ma_step_24 (by decide) ?_
  show jl_E l G m_Ma_step (0, 0) 25 [some (.ref 13), some (.int (nI p)), some (.int (nI 21)), none, none] [] (σ) P
  refine er_aload_n d_Ma_step_25 rfl ?_
  refine er_getf d_Ma_step_26 f_Ma_step_20 hX rfl ?_
  refine er_aload_n d_Ma_step_29 rfl ?_
  refine er_getf d_Ma_step_30 f_Ma_step_34 hX rfl ?_
  refine er_aaldQ (v := some (a)) d_Ma_step_33 u1 (by omega) (by omega) (hua) ?_
  show jl_E l G m_Ma_step (0, 0) 34 [some (.ref 13), some (.int (nI p)), some (.int (nI 21)), none, none] [.ref a] (σ) P
  refine er_getf d_Ma_step_34 f_Ma_step_97 hM rfl ?_
  refine er_iload_n d_Ma_step_37 rfl ?_
  refine er_ialdQ (v := (x)) d_Ma_step_38 g2 (by omega) (by omega) (hag) ?_
  refine er_istore_n d_Ma_step_39 (by decide) ?_
  show jl_E l G m_Ma_step (0, 0) 40 [some (.ref 13), some (.int (nI p)), some (.int (nI 21)), some (.int (x)), none] [] (σ) P
  refine er_iload_n d_Ma_step_40 rfl ?_
  refine er_tableOut 153 d_Ma_step_41 (by decide +kernel) (by decide) ?_
  refine er_aload_n d_Ma_step_153 rfl ?_
  refine er_iload_n d_Ma_step_154 rfl ?_
  refine er_iload_n d_Ma_step_155 rfl ?_
  refine er_callVE (As := [.int (nI 21), .int (x)]) d_Ma_step_156 k_Ma_step_114 hX rfl rfl rfl (Nat.le_of_ble_eq_true rfl) (by decide) (by decide) (ma_ins_21 hl hwx hmt hok hft ht hm40 hz18 hk hh hb hpt hf (fun R1 V1 H1 σ e1 hk1 => ⟨_, rfl, ?_⟩) (fun n σ e1 hk1 => ⟨_, rfl, ?_⟩) (fun σ e1 hk1 => ⟨_, rfl, ?_⟩))
  · skip
    obtain ⟨uw, ps, ty, va, hX, u1, u2, t1, t2, hS, hx, hto, hF⟩ := id hk1
    obtain ⟨s0, s1, s2, s3⟩ := id hS
    show jl_E l G m_Ma_step (0, 0) 159 [some (.ref 13), some (.int (nI p)), some (.int (nI 21)), some (.int (x)), none] [.int (nI 0)] (σ) P
    refine er_istore d_Ma_step_159 (by decide) ?_
    show jl_E l G m_Ma_step (0, 0) 161 [some (.ref 13), some (.int (nI p)), some (.int (nI 21)), some (.int (x)), some (.int (nI 0))] [] (σ) P
    refine er_iload d_Ma_step_161 rfl ?_
    refine er_if_ne 181 d_Ma_step_163 (by decide) (fun z => absurd rfl z) (fun _ => ?_)
    refine er_aload_n d_Ma_step_166 rfl ?_
    refine er_getf d_Ma_step_167 f_Ma_step_24 hX rfl ?_
    refine er_aload_n d_Ma_step_170 rfl ?_
    refine er_getf d_Ma_step_171 f_Ma_step_34 hX rfl ?_
    refine er_iload_n d_Ma_step_174 rfl ?_
    refine er_iconst ((nI (1))) d_Ma_step_175 (by decide) ?_
    refine er_iaddN d_Ma_step_176 ?_
    refine er_iastN d_Ma_step_177 u2 (by omega) (by omega) ?_
    rw [show upd (fun j => nI (ps j)) (t) ((nI ((p) + (1)))) = (fun j => nI ((va_up ps (t) ((p) + (1))) j)) from nI_up ps (t) ((p) + (1))]
    show jl_E l G m_Ma_step (0, 0) 178 [some (.ref 13), some (.int (nI p)), some (.int (nI 21)), some (.int (x)), some (.int (nI 0))] [] (σ.set (19) (.inl (0, 12, .inl (fun j => nI ((va_up ps (t) ((p) + (1))) j))))) P
    refine er_goto 189 d_Ma_step_178 (by decide) ?_
    exact er_vret d_Ma_step_189 rfl (hO R1 V1 H1 _ e1 ⟨_, _, _, _, (jl_sn (by decide) hX), (jl_sn (by decide) u1), (jl_ss u2), (jl_sn (by decide) t1), (jl_sn (by decide) t2), ⟨(jl_sn (by decide) s0), (jl_sn (by decide) s1), (jl_sn (by decide) s2), (jl_sn (by decide) s3)⟩, (hx.pc), hto, (hF.set (by omega))⟩) (by decide) (by decide)
  · skip
    have hn14 := ins_sg e1
    obtain ⟨uw, ps, ty, va, hX, u1, u2, t1, t2, hS, hx, hto, hF⟩ := id hk1
    obtain ⟨s0, s1, s2, s3⟩ := id hS
    show jl_E l G m_Ma_step (0, 0) 159 [some (.ref 13), some (.int (nI p)), some (.int (nI 21)), some (.int (x)), none] [.int (nI n)] (σ) P
    refine er_istore d_Ma_step_159 (by decide) ?_
    show jl_E l G m_Ma_step (0, 0) 161 [some (.ref 13), some (.int (nI p)), some (.int (nI 21)), some (.int (x)), some (.int (nI n))] [] (σ) P
    refine er_iload d_Ma_step_161 rfl ?_
    refine er_if_ne 181 d_Ma_step_163 (by decide) (fun _ => ?_) (fun z => absurd z ((fun z => by have z2 : nI n = nI 0 := z.trans nI_0k.symm; rw [nI_eq (by omega) (by omega)] at z2; omega)))
    refine er_aload_n d_Ma_step_181 rfl ?_
    refine er_iload d_Ma_step_182 rfl ?_
    refine er_iconst ((-1)) d_Ma_step_184 (by decide) ?_
    refine er_iconst ((-1)) d_Ma_step_185 (by decide) ?_
    refine er_callVE (As := [.int (nI n), .int (-1), .int (-1)]) d_Ma_step_186 k_Ma_step_118 hX rfl rfl rfl (Nat.le_of_ble_eq_true rfl) (by decide) (by decide) (ma_raise (y := none) (v := -1) (n := n) (R := R) (V := V) hl hk1 hwx hmt hok hD (fun _ q => by cases q) (by omega) ht hp hpf (fun f1 fs1 σ e2 h1 => ⟨_, rfl, ?_⟩) (fun e2 σ h1 => ⟨_, rfl, ?_⟩))
    · skip
      show jl_E l G m_Ma_step (0, 0) 189 [some (.ref 13), some (.int (nI p)), some (.int (nI 21)), some (.int (x)), some (.int (nI n))] [] (σ) P
      exact er_vret d_Ma_step_189 rfl (hG n f1 fs1 _ e1 e2 h1) (by decide) (by decide)
    · skip
      show jl_E l G m_Ma_step (0, 0) 189 [some (.ref 13), some (.int (nI p)), some (.int (nI 21)), some (.int (x)), some (.int (nI n))] [] (σ) P
      exact er_vret d_Ma_step_189 rfl (hE n _ e1 e2 (by have z := h1; rw [if_neg (by omega)] at z; exact z)) (by decide) (by decide)
  · skip
    obtain ⟨uw, ps, ty, va, hX, u1, u2, t1, t2, hS, hx, hto, hF⟩ := id hk1
    obtain ⟨s0, s1, s2, s3⟩ := id hS
    show jl_E l G m_Ma_step (0, 0) 159 [some (.ref 13), some (.int (nI p)), some (.int (nI 21)), some (.int (x)), none] [.int (nI 0)] (σ) P
    refine er_istore d_Ma_step_159 (by decide) ?_
    show jl_E l G m_Ma_step (0, 0) 161 [some (.ref 13), some (.int (nI p)), some (.int (nI 21)), some (.int (x)), some (.int (nI 0))] [] (σ) P
    refine er_iload d_Ma_step_161 rfl ?_
    refine er_if_ne 181 d_Ma_step_163 (by decide) (fun z => absurd rfl z) (fun _ => ?_)
    refine er_aload_n d_Ma_step_166 rfl ?_
    refine er_getf d_Ma_step_167 f_Ma_step_24 hX rfl ?_
    refine er_aload_n d_Ma_step_170 rfl ?_
    refine er_getf d_Ma_step_171 f_Ma_step_34 hX rfl ?_
    refine er_iload_n d_Ma_step_174 rfl ?_
    refine er_iconst ((nI (1))) d_Ma_step_175 (by decide) ?_
    refine er_iaddN d_Ma_step_176 ?_
    refine er_iastN d_Ma_step_177 u2 (by omega) (by omega) ?_
    rw [show upd (fun j => nI (ps j)) (t) ((nI ((p) + (1)))) = (fun j => nI ((va_up ps (t) ((p) + (1))) j)) from nI_up ps (t) ((p) + (1))]
    show jl_E l G m_Ma_step (0, 0) 178 [some (.ref 13), some (.int (nI p)), some (.int (nI 21)), some (.int (x)), some (.int (nI 0))] [] (σ.set (19) (.inl (0, 12, .inl (fun j => nI ((va_up ps (t) ((p) + (1))) j))))) P
    refine er_goto 189 d_Ma_step_178 (by decide) ?_
    exact er_vret d_Ma_step_189 rfl (hF6 _ e1 (KB.kz (N := 6) (R := R) (V := V) (mt := mt) (m := m) (p := p + 1) (t := t) (fs := fs) ⟨_, _, _, _, (jl_sn (by decide) hX), (jl_sn (by decide) u1), (jl_ss u2), (jl_sn (by decide) t1), (jl_sn (by decide) t2), ⟨(jl_sn (by decide) s0), (jl_sn (by decide) s1), (jl_sn (by decide) s2), (jl_sn (by decide) s3)⟩, (hx.pc), hto, (hF.set (by omega))⟩)) (by decide) (by decide)
theorem ma_st_22 (hl : l.stackTraces = false) {P : jl_O → jl_S → Prop}  (hk : KB σ0 mt σ (7 + (b + 1)) t m p (R) (V) (fs) (H) su dt dq aw) (hwx : WX σ0 tb pr ow fi ft mt sg D MP FH) (hmt : MtOk mt) (hok : WoOk tb pr ow fi) (ht : t < 12) (hp : p < 24) (hop : dop (D m) p = 22) (hag : dag (D m) p = (x)) (hD : ∀ m, mt m ≠ none → MdOk (D m)) (hpf : ∀ k ∈ fs, k.p < 24) (hft : ∀ k f, tyv (some (fty pr fi ft k f))) (hm40 : H.n ≤ 40) (hz18 : ∀ j, H.sz j ≤ 18) (hh : R 6 = some (b + 1)) (hb : b + 1 ≤ 5) (hpt : b + pts 22 ≤ 5) (hf : fit tb 22 x R V b H) (hO : ∀ R' V' H' σ', ins pr ow fi ft 22 x R V b H = .ok R' V' H' → KB σ0 mt σ' (7 + hgt R') t m (p + 1) R' V' fs H' su dt dq aw → P (.inl none) σ') (hG : ∀ n f' fs' σ', ins pr ow fi ft 22 x R V b H = .sg n → rse pr D none (-1) (⟨m, p, R, V⟩ :: fs) = some (f' :: fs') → KB σ0 mt σ' (7 + hgt f'.R) fs'.length f'.m f'.p f'.R f'.V fs' H su dt dq aw → P (.inl none) σ') (hE : ∀ n σ', ins pr ow fi ft 22 x R V b H = .sg n → rse pr D none (-1) (⟨m, p, R, V⟩ :: fs) = none → KZ σ0 σ' H (nI n) (nI 0) dq aw → P (.inl none) σ') (hF6 : ∀ σ', ins pr ow fi ft 22 x R V b H = .full → KZ σ0 σ' H (nI 6) (nI 0) dq aw → P (.inl none) σ') : jl_mE l G m_Ma_step [.ref 13] σ P := by
  obtain ⟨uw, ps, ty, va, hX, u1, u2, t1, t2, hS, hx, hto, hF⟩ := id hk
  obtain ⟨s0, s1, s2, s3⟩ := id hS
  obtain ⟨⟨⟨a, hma, hua⟩, hps1, hty, hva⟩, hfs, hln, hob⟩ := id hx
  have hma : mt m = some a := hma
  have hps1 : ps t = p := hps1
  have hty : ∀ j, j < _ → ty (t * 12 + j) = R j := hty
  have hva : ∀ j, j < _ → j ≠ 6 → va (t * 12 + j) = V j := hva
  have hRo := hx.rob
  obtain ⟨hM, g1, g2, g3, g4, g5, g6, g7, g8⟩ : MeD σ a (D m) (MP m) (FH m) := (hwx.fr hF hmt).2.2.2 m a hma
  refine jl_ofE (as := [.ref 13]) rfl (by decide) hl (jl_cc rfl jl_ca) (Nat.le_of_ble_eq_true rfl) ?_
  show jl_E l G m_Ma_step (0, 0) 0 [some (.ref 13), none, none, none, none] [] (σ) P
  refine er_aload_n d_Ma_step_0 rfl ?_
  refine er_getf d_Ma_step_1 f_Ma_step_24 hX rfl ?_
  refine er_aload_n d_Ma_step_4 rfl ?_
  refine er_getf d_Ma_step_5 f_Ma_step_34 hX rfl ?_
  refine er_ialdQ (v := (nI (p))) d_Ma_step_8 u2 (by omega) (by omega) (congrArg nI hps1) ?_
  refine er_istore_n d_Ma_step_9 (by decide) ?_
  show jl_E l G m_Ma_step (0, 0) 10 [some (.ref 13), some (.int (nI p)), none, none, none] [] (σ) P
  refine er_aload_n d_Ma_step_10 rfl ?_
  refine er_getf d_Ma_step_11 f_Ma_step_20 hX rfl ?_
  refine er_aload_n d_Ma_step_14 rfl ?_
  refine er_getf d_Ma_step_15 f_Ma_step_34 hX rfl ?_
  refine er_aaldQ (v := some (a)) d_Ma_step_18 u1 (by omega) (by omega) (hua) ?_
  show jl_E l G m_Ma_step (0, 0) 19 [some (.ref 13), some (.int (nI p)), none, none, none] [.ref a] (σ) P
  refine er_getf d_Ma_step_19 f_Ma_step_94 hM rfl ?_
  refine er_iload_n d_Ma_step_22 rfl ?_
  refine er_ialdQ (v := (nI (22))) d_Ma_step_23 g1 (by omega) (by omega) (congrArg nI hop) ?_
  refine er_istore_n d_Ma_step_24 (by decide) ?_
  show jl_E l G m_Ma_step (0, 0) 25 [some (.ref 13), some (.int (nI p)), some (.int (nI 22)), none, none] [] (σ) P
  refine er_aload_n d_Ma_step_25 rfl ?_
  refine er_getf d_Ma_step_26 f_Ma_step_20 hX rfl ?_
  refine er_aload_n d_Ma_step_29 rfl ?_
  refine er_getf d_Ma_step_30 f_Ma_step_34 hX rfl ?_
  refine er_aaldQ (v := some (a)) d_Ma_step_33 u1 (by omega) (by omega) (hua) ?_
  show jl_E l G m_Ma_step (0, 0) 34 [some (.ref 13), some (.int (nI p)), some (.int (nI 22)), none, none] [.ref a] (σ) P
  refine er_getf d_Ma_step_34 f_Ma_step_97 hM rfl ?_
  refine er_iload_n d_Ma_step_37 rfl ?_
  refine er_ialdQ (v := (x)) d_Ma_step_38 g2 (by omega) (by omega) (hag) ?_
  refine er_istore_n d_Ma_step_39 (by decide) ?_
  show jl_E l G m_Ma_step (0, 0) 40 [some (.ref 13), some (.int (nI p)), some (.int (nI 22)), some (.int (x)), none] [] (σ) P
  refine er_iload_n d_Ma_step_40 rfl ?_
  refine er_tableOut 153 d_Ma_step_41 (by decide +kernel) (by decide) ?_
  refine er_aload_n d_Ma_step_153 rfl ?_
  refine er_iload_n d_Ma_step_154 rfl ?_
  refine er_iload_n d_Ma_step_155 rfl ?_
  refine er_callVE (As := [.int (nI 22), .int (x)]) d_Ma_step_156 k_Ma_step_114 hX rfl rfl rfl (Nat.le_of_ble_eq_true rfl) (by decide) (by decide) (ma_ins_22 hl hwx hmt hok hft ht hm40 hz18 hk hh hb hpt hf (fun R1 V1 H1 σ e1 hk1 => ⟨_, rfl, ?_⟩) (fun n σ e1 hk1 => ⟨_, rfl, ?_⟩) (fun σ e1 hk1 => ⟨_, rfl, ?_⟩))
  · skip
    obtain ⟨uw, ps, ty, va, hX, u1, u2, t1, t2, hS, hx, hto, hF⟩ := id hk1
    obtain ⟨s0, s1, s2, s3⟩ := id hS
    show jl_E l G m_Ma_step (0, 0) 159 [some (.ref 13), some (.int (nI p)), some (.int (nI 22)), some (.int (x)), none] [.int (nI 0)] (σ) P
    refine er_istore d_Ma_step_159 (by decide) ?_
    show jl_E l G m_Ma_step (0, 0) 161 [some (.ref 13), some (.int (nI p)), some (.int (nI 22)), some (.int (x)), some (.int (nI 0))] [] (σ) P
    refine er_iload d_Ma_step_161 rfl ?_
    refine er_if_ne 181 d_Ma_step_163 (by decide) (fun z => absurd rfl z) (fun _ => ?_)
    refine er_aload_n d_Ma_step_166 rfl ?_
    refine er_getf d_Ma_step_167 f_Ma_step_24 hX rfl ?_
    refine er_aload_n d_Ma_step_170 rfl ?_
    refine er_getf d_Ma_step_171 f_Ma_step_34 hX rfl ?_
    refine er_iload_n d_Ma_step_174 rfl ?_
    refine er_iconst ((nI (1))) d_Ma_step_175 (by decide) ?_
    refine er_iaddN d_Ma_step_176 ?_
    refine er_iastN d_Ma_step_177 u2 (by omega) (by omega) ?_
    rw [show upd (fun j => nI (ps j)) (t) ((nI ((p) + (1)))) = (fun j => nI ((va_up ps (t) ((p) + (1))) j)) from nI_up ps (t) ((p) + (1))]
    show jl_E l G m_Ma_step (0, 0) 178 [some (.ref 13), some (.int (nI p)), some (.int (nI 22)), some (.int (x)), some (.int (nI 0))] [] (σ.set (19) (.inl (0, 12, .inl (fun j => nI ((va_up ps (t) ((p) + (1))) j))))) P
    refine er_goto 189 d_Ma_step_178 (by decide) ?_
    exact er_vret d_Ma_step_189 rfl (hO R1 V1 H1 _ e1 ⟨_, _, _, _, (jl_sn (by decide) hX), (jl_sn (by decide) u1), (jl_ss u2), (jl_sn (by decide) t1), (jl_sn (by decide) t2), ⟨(jl_sn (by decide) s0), (jl_sn (by decide) s1), (jl_sn (by decide) s2), (jl_sn (by decide) s3)⟩, (hx.pc), hto, (hF.set (by omega))⟩) (by decide) (by decide)
  · skip
    have hn14 := ins_sg e1
    obtain ⟨uw, ps, ty, va, hX, u1, u2, t1, t2, hS, hx, hto, hF⟩ := id hk1
    obtain ⟨s0, s1, s2, s3⟩ := id hS
    show jl_E l G m_Ma_step (0, 0) 159 [some (.ref 13), some (.int (nI p)), some (.int (nI 22)), some (.int (x)), none] [.int (nI n)] (σ) P
    refine er_istore d_Ma_step_159 (by decide) ?_
    show jl_E l G m_Ma_step (0, 0) 161 [some (.ref 13), some (.int (nI p)), some (.int (nI 22)), some (.int (x)), some (.int (nI n))] [] (σ) P
    refine er_iload d_Ma_step_161 rfl ?_
    refine er_if_ne 181 d_Ma_step_163 (by decide) (fun _ => ?_) (fun z => absurd z ((fun z => by have z2 : nI n = nI 0 := z.trans nI_0k.symm; rw [nI_eq (by omega) (by omega)] at z2; omega)))
    refine er_aload_n d_Ma_step_181 rfl ?_
    refine er_iload d_Ma_step_182 rfl ?_
    refine er_iconst ((-1)) d_Ma_step_184 (by decide) ?_
    refine er_iconst ((-1)) d_Ma_step_185 (by decide) ?_
    refine er_callVE (As := [.int (nI n), .int (-1), .int (-1)]) d_Ma_step_186 k_Ma_step_118 hX rfl rfl rfl (Nat.le_of_ble_eq_true rfl) (by decide) (by decide) (ma_raise (y := none) (v := -1) (n := n) (R := R) (V := V) hl hk1 hwx hmt hok hD (fun _ q => by cases q) (by omega) ht hp hpf (fun f1 fs1 σ e2 h1 => ⟨_, rfl, ?_⟩) (fun e2 σ h1 => ⟨_, rfl, ?_⟩))
    · skip
      show jl_E l G m_Ma_step (0, 0) 189 [some (.ref 13), some (.int (nI p)), some (.int (nI 22)), some (.int (x)), some (.int (nI n))] [] (σ) P
      exact er_vret d_Ma_step_189 rfl (hG n f1 fs1 _ e1 e2 h1) (by decide) (by decide)
    · skip
      show jl_E l G m_Ma_step (0, 0) 189 [some (.ref 13), some (.int (nI p)), some (.int (nI 22)), some (.int (x)), some (.int (nI n))] [] (σ) P
      exact er_vret d_Ma_step_189 rfl (hE n _ e1 e2 (by have z := h1; rw [if_neg (by omega)] at z; exact z)) (by decide) (by decide)
  · skip
    obtain ⟨uw, ps, ty, va, hX, u1, u2, t1, t2, hS, hx, hto, hF⟩ := id hk1
    obtain ⟨s0, s1, s2, s3⟩ := id hS
    show jl_E l G m_Ma_step (0, 0) 159 [some (.ref 13), some (.int (nI p)), some (.int (nI 22)), some (.int (x)), none] [.int (nI 0)] (σ) P
    refine er_istore d_Ma_step_159 (by decide) ?_
    show jl_E l G m_Ma_step (0, 0) 161 [some (.ref 13), some (.int (nI p)), some (.int (nI 22)), some (.int (x)), some (.int (nI 0))] [] (σ) P
    refine er_iload d_Ma_step_161 rfl ?_
    refine er_if_ne 181 d_Ma_step_163 (by decide) (fun z => absurd rfl z) (fun _ => ?_)
    refine er_aload_n d_Ma_step_166 rfl ?_
    refine er_getf d_Ma_step_167 f_Ma_step_24 hX rfl ?_
    refine er_aload_n d_Ma_step_170 rfl ?_
    refine er_getf d_Ma_step_171 f_Ma_step_34 hX rfl ?_
    refine er_iload_n d_Ma_step_174 rfl ?_
    refine er_iconst ((nI (1))) d_Ma_step_175 (by decide) ?_
    refine er_iaddN d_Ma_step_176 ?_
    refine er_iastN d_Ma_step_177 u2 (by omega) (by omega) ?_
    rw [show upd (fun j => nI (ps j)) (t) ((nI ((p) + (1)))) = (fun j => nI ((va_up ps (t) ((p) + (1))) j)) from nI_up ps (t) ((p) + (1))]
    show jl_E l G m_Ma_step (0, 0) 178 [some (.ref 13), some (.int (nI p)), some (.int (nI 22)), some (.int (x)), some (.int (nI 0))] [] (σ.set (19) (.inl (0, 12, .inl (fun j => nI ((va_up ps (t) ((p) + (1))) j))))) P
    refine er_goto 189 d_Ma_step_178 (by decide) ?_
    exact er_vret d_Ma_step_189 rfl (hF6 _ e1 (KB.kz (N := 6) (R := R) (V := V) (mt := mt) (m := m) (p := p + 1) (t := t) (fs := fs) ⟨_, _, _, _, (jl_sn (by decide) hX), (jl_sn (by decide) u1), (jl_ss u2), (jl_sn (by decide) t1), (jl_sn (by decide) t2), ⟨(jl_sn (by decide) s0), (jl_sn (by decide) s1), (jl_sn (by decide) s2), (jl_sn (by decide) s3)⟩, (hx.pc), hto, (hF.set (by omega))⟩)) (by decide) (by decide)
theorem ma_st_23 (hl : l.stackTraces = false) {P : jl_O → jl_S → Prop}  (hk : KB σ0 mt σ (7 + (b + 1)) t m p (R) (V) (fs) (H) su dt dq aw) (hwx : WX σ0 tb pr ow fi ft mt sg D MP FH) (hmt : MtOk mt) (hok : WoOk tb pr ow fi) (ht : t < 12) (hp : p < 24) (hop : dop (D m) p = 23) (hag : dag (D m) p = (x)) (hD : ∀ m, mt m ≠ none → MdOk (D m)) (hpf : ∀ k ∈ fs, k.p < 24) (hft : ∀ k f, tyv (some (fty pr fi ft k f))) (hm40 : H.n ≤ 40) (hz18 : ∀ j, H.sz j ≤ 18) (hh : R 6 = some (b + 1)) (hb : b + 1 ≤ 5) (hpt : b + pts 23 ≤ 5) (hf : fit tb 23 x R V b H) (hO : ∀ R' V' H' σ', ins pr ow fi ft 23 x R V b H = .ok R' V' H' → KB σ0 mt σ' (7 + hgt R') t m (p + 1) R' V' fs H' su dt dq aw → P (.inl none) σ') (hG : ∀ n f' fs' σ', ins pr ow fi ft 23 x R V b H = .sg n → rse pr D none (-1) (⟨m, p, R, V⟩ :: fs) = some (f' :: fs') → KB σ0 mt σ' (7 + hgt f'.R) fs'.length f'.m f'.p f'.R f'.V fs' H su dt dq aw → P (.inl none) σ') (hE : ∀ n σ', ins pr ow fi ft 23 x R V b H = .sg n → rse pr D none (-1) (⟨m, p, R, V⟩ :: fs) = none → KZ σ0 σ' H (nI n) (nI 0) dq aw → P (.inl none) σ') (hF6 : ∀ σ', ins pr ow fi ft 23 x R V b H = .full → KZ σ0 σ' H (nI 6) (nI 0) dq aw → P (.inl none) σ') : jl_mE l G m_Ma_step [.ref 13] σ P := by
  obtain ⟨uw, ps, ty, va, hX, u1, u2, t1, t2, hS, hx, hto, hF⟩ := id hk
  obtain ⟨s0, s1, s2, s3⟩ := id hS
  obtain ⟨⟨⟨a, hma, hua⟩, hps1, hty, hva⟩, hfs, hln, hob⟩ := id hx
  have hma : mt m = some a := hma
  have hps1 : ps t = p := hps1
  have hty : ∀ j, j < _ → ty (t * 12 + j) = R j := hty
  have hva : ∀ j, j < _ → j ≠ 6 → va (t * 12 + j) = V j := hva
  have hRo := hx.rob
  obtain ⟨hM, g1, g2, g3, g4, g5, g6, g7, g8⟩ : MeD σ a (D m) (MP m) (FH m) := (hwx.fr hF hmt).2.2.2 m a hma
  refine jl_ofE (as := [.ref 13]) rfl (by decide) hl (jl_cc rfl jl_ca) (Nat.le_of_ble_eq_true rfl) ?_
  show jl_E l G m_Ma_step (0, 0) 0 [some (.ref 13), none, none, none, none] [] (σ) P
  refine er_aload_n d_Ma_step_0 rfl ?_
  refine er_getf d_Ma_step_1 f_Ma_step_24 hX rfl ?_
  refine er_aload_n d_Ma_step_4 rfl ?_
  refine er_getf d_Ma_step_5 f_Ma_step_34 hX rfl ?_
  refine er_ialdQ (v := (nI (p))) d_Ma_step_8 u2 (by omega) (by omega) (congrArg nI hps1) ?_
  refine er_istore_n d_Ma_step_9 (by decide) ?_
  show jl_E l G m_Ma_step (0, 0) 10 [some (.ref 13), some (.int (nI p)), none, none, none] [] (σ) P
  refine er_aload_n d_Ma_step_10 rfl ?_
  refine er_getf d_Ma_step_11 f_Ma_step_20 hX rfl ?_
  refine er_aload_n d_Ma_step_14 rfl ?_
  refine er_getf d_Ma_step_15 f_Ma_step_34 hX rfl ?_
  refine er_aaldQ (v := some (a)) d_Ma_step_18 u1 (by omega) (by omega) (hua) ?_
  show jl_E l G m_Ma_step (0, 0) 19 [some (.ref 13), some (.int (nI p)), none, none, none] [.ref a] (σ) P
  refine er_getf d_Ma_step_19 f_Ma_step_94 hM rfl ?_
  refine er_iload_n d_Ma_step_22 rfl ?_
  refine er_ialdQ (v := (nI (23))) d_Ma_step_23 g1 (by omega) (by omega) (congrArg nI hop) ?_
  refine er_istore_n d_Ma_step_24 (by decide) ?_
  show jl_E l G m_Ma_step (0, 0) 25 [some (.ref 13), some (.int (nI p)), some (.int (nI 23)), none, none] [] (σ) P
  refine er_aload_n d_Ma_step_25 rfl ?_
  refine er_getf d_Ma_step_26 f_Ma_step_20 hX rfl ?_
  refine er_aload_n d_Ma_step_29 rfl ?_
  refine er_getf d_Ma_step_30 f_Ma_step_34 hX rfl ?_
  refine er_aaldQ (v := some (a)) d_Ma_step_33 u1 (by omega) (by omega) (hua) ?_
  show jl_E l G m_Ma_step (0, 0) 34 [some (.ref 13), some (.int (nI p)), some (.int (nI 23)), none, none] [.ref a] (σ) P
  refine er_getf d_Ma_step_34 f_Ma_step_97 hM rfl ?_
  refine er_iload_n d_Ma_step_37 rfl ?_
  refine er_ialdQ (v := (x)) d_Ma_step_38 g2 (by omega) (by omega) (hag) ?_
  refine er_istore_n d_Ma_step_39 (by decide) ?_
  show jl_E l G m_Ma_step (0, 0) 40 [some (.ref 13), some (.int (nI p)), some (.int (nI 23)), some (.int (x)), none] [] (σ) P
  refine er_iload_n d_Ma_step_40 rfl ?_
  refine er_tableOut 153 d_Ma_step_41 (by decide +kernel) (by decide) ?_
  refine er_aload_n d_Ma_step_153 rfl ?_
  refine er_iload_n d_Ma_step_154 rfl ?_
  refine er_iload_n d_Ma_step_155 rfl ?_
  refine er_callVE (As := [.int (nI 23), .int (x)]) d_Ma_step_156 k_Ma_step_114 hX rfl rfl rfl (Nat.le_of_ble_eq_true rfl) (by decide) (by decide) (ma_ins_23 hl hwx hmt hok hft ht hm40 hz18 hk hh hb hpt hf (fun R1 V1 H1 σ e1 hk1 => ⟨_, rfl, ?_⟩) (fun n σ e1 hk1 => ⟨_, rfl, ?_⟩) (fun σ e1 hk1 => ⟨_, rfl, ?_⟩))
  · skip
    obtain ⟨uw, ps, ty, va, hX, u1, u2, t1, t2, hS, hx, hto, hF⟩ := id hk1
    obtain ⟨s0, s1, s2, s3⟩ := id hS
    show jl_E l G m_Ma_step (0, 0) 159 [some (.ref 13), some (.int (nI p)), some (.int (nI 23)), some (.int (x)), none] [.int (nI 0)] (σ) P
    refine er_istore d_Ma_step_159 (by decide) ?_
    show jl_E l G m_Ma_step (0, 0) 161 [some (.ref 13), some (.int (nI p)), some (.int (nI 23)), some (.int (x)), some (.int (nI 0))] [] (σ) P
    refine er_iload d_Ma_step_161 rfl ?_
    refine er_if_ne 181 d_Ma_step_163 (by decide) (fun z => absurd rfl z) (fun _ => ?_)
    refine er_aload_n d_Ma_step_166 rfl ?_
    refine er_getf d_Ma_step_167 f_Ma_step_24 hX rfl ?_
    refine er_aload_n d_Ma_step_170 rfl ?_
    refine er_getf d_Ma_step_171 f_Ma_step_34 hX rfl ?_
    refine er_iload_n d_Ma_step_174 rfl ?_
    refine er_iconst ((nI (1))) d_Ma_step_175 (by decide) ?_
    refine er_iaddN d_Ma_step_176 ?_
    refine er_iastN d_Ma_step_177 u2 (by omega) (by omega) ?_
    rw [show upd (fun j => nI (ps j)) (t) ((nI ((p) + (1)))) = (fun j => nI ((va_up ps (t) ((p) + (1))) j)) from nI_up ps (t) ((p) + (1))]
    show jl_E l G m_Ma_step (0, 0) 178 [some (.ref 13), some (.int (nI p)), some (.int (nI 23)), some (.int (x)), some (.int (nI 0))] [] (σ.set (19) (.inl (0, 12, .inl (fun j => nI ((va_up ps (t) ((p) + (1))) j))))) P
    refine er_goto 189 d_Ma_step_178 (by decide) ?_
    exact er_vret d_Ma_step_189 rfl (hO R1 V1 H1 _ e1 ⟨_, _, _, _, (jl_sn (by decide) hX), (jl_sn (by decide) u1), (jl_ss u2), (jl_sn (by decide) t1), (jl_sn (by decide) t2), ⟨(jl_sn (by decide) s0), (jl_sn (by decide) s1), (jl_sn (by decide) s2), (jl_sn (by decide) s3)⟩, (hx.pc), hto, (hF.set (by omega))⟩) (by decide) (by decide)
  · skip
    have hn14 := ins_sg e1
    obtain ⟨uw, ps, ty, va, hX, u1, u2, t1, t2, hS, hx, hto, hF⟩ := id hk1
    obtain ⟨s0, s1, s2, s3⟩ := id hS
    show jl_E l G m_Ma_step (0, 0) 159 [some (.ref 13), some (.int (nI p)), some (.int (nI 23)), some (.int (x)), none] [.int (nI n)] (σ) P
    refine er_istore d_Ma_step_159 (by decide) ?_
    show jl_E l G m_Ma_step (0, 0) 161 [some (.ref 13), some (.int (nI p)), some (.int (nI 23)), some (.int (x)), some (.int (nI n))] [] (σ) P
    refine er_iload d_Ma_step_161 rfl ?_
    refine er_if_ne 181 d_Ma_step_163 (by decide) (fun _ => ?_) (fun z => absurd z ((fun z => by have z2 : nI n = nI 0 := z.trans nI_0k.symm; rw [nI_eq (by omega) (by omega)] at z2; omega)))
    refine er_aload_n d_Ma_step_181 rfl ?_
    refine er_iload d_Ma_step_182 rfl ?_
    refine er_iconst ((-1)) d_Ma_step_184 (by decide) ?_
    refine er_iconst ((-1)) d_Ma_step_185 (by decide) ?_
    refine er_callVE (As := [.int (nI n), .int (-1), .int (-1)]) d_Ma_step_186 k_Ma_step_118 hX rfl rfl rfl (Nat.le_of_ble_eq_true rfl) (by decide) (by decide) (ma_raise (y := none) (v := -1) (n := n) (R := R) (V := V) hl hk1 hwx hmt hok hD (fun _ q => by cases q) (by omega) ht hp hpf (fun f1 fs1 σ e2 h1 => ⟨_, rfl, ?_⟩) (fun e2 σ h1 => ⟨_, rfl, ?_⟩))
    · skip
      show jl_E l G m_Ma_step (0, 0) 189 [some (.ref 13), some (.int (nI p)), some (.int (nI 23)), some (.int (x)), some (.int (nI n))] [] (σ) P
      exact er_vret d_Ma_step_189 rfl (hG n f1 fs1 _ e1 e2 h1) (by decide) (by decide)
    · skip
      show jl_E l G m_Ma_step (0, 0) 189 [some (.ref 13), some (.int (nI p)), some (.int (nI 23)), some (.int (x)), some (.int (nI n))] [] (σ) P
      exact er_vret d_Ma_step_189 rfl (hE n _ e1 e2 (by have z := h1; rw [if_neg (by omega)] at z; exact z)) (by decide) (by decide)
  · skip
    obtain ⟨uw, ps, ty, va, hX, u1, u2, t1, t2, hS, hx, hto, hF⟩ := id hk1
    obtain ⟨s0, s1, s2, s3⟩ := id hS
    show jl_E l G m_Ma_step (0, 0) 159 [some (.ref 13), some (.int (nI p)), some (.int (nI 23)), some (.int (x)), none] [.int (nI 0)] (σ) P
    refine er_istore d_Ma_step_159 (by decide) ?_
    show jl_E l G m_Ma_step (0, 0) 161 [some (.ref 13), some (.int (nI p)), some (.int (nI 23)), some (.int (x)), some (.int (nI 0))] [] (σ) P
    refine er_iload d_Ma_step_161 rfl ?_
    refine er_if_ne 181 d_Ma_step_163 (by decide) (fun z => absurd rfl z) (fun _ => ?_)
    refine er_aload_n d_Ma_step_166 rfl ?_
    refine er_getf d_Ma_step_167 f_Ma_step_24 hX rfl ?_
    refine er_aload_n d_Ma_step_170 rfl ?_
    refine er_getf d_Ma_step_171 f_Ma_step_34 hX rfl ?_
    refine er_iload_n d_Ma_step_174 rfl ?_
    refine er_iconst ((nI (1))) d_Ma_step_175 (by decide) ?_
    refine er_iaddN d_Ma_step_176 ?_
    refine er_iastN d_Ma_step_177 u2 (by omega) (by omega) ?_
    rw [show upd (fun j => nI (ps j)) (t) ((nI ((p) + (1)))) = (fun j => nI ((va_up ps (t) ((p) + (1))) j)) from nI_up ps (t) ((p) + (1))]
    show jl_E l G m_Ma_step (0, 0) 178 [some (.ref 13), some (.int (nI p)), some (.int (nI 23)), some (.int (x)), some (.int (nI 0))] [] (σ.set (19) (.inl (0, 12, .inl (fun j => nI ((va_up ps (t) ((p) + (1))) j))))) P
    refine er_goto 189 d_Ma_step_178 (by decide) ?_
    exact er_vret d_Ma_step_189 rfl (hF6 _ e1 (KB.kz (N := 6) (R := R) (V := V) (mt := mt) (m := m) (p := p + 1) (t := t) (fs := fs) ⟨_, _, _, _, (jl_sn (by decide) hX), (jl_sn (by decide) u1), (jl_ss u2), (jl_sn (by decide) t1), (jl_sn (by decide) t2), ⟨(jl_sn (by decide) s0), (jl_sn (by decide) s1), (jl_sn (by decide) s2), (jl_sn (by decide) s3)⟩, (hx.pc), hto, (hF.set (by omega))⟩)) (by decide) (by decide)
theorem ma_st_24 (hl : l.stackTraces = false) {P : jl_O → jl_S → Prop}  (hk : KB σ0 mt σ (7 + (b + 1)) t m p (R) (V) (fs) (H) su dt dq aw) (hwx : WX σ0 tb pr ow fi ft mt sg D MP FH) (hmt : MtOk mt) (hok : WoOk tb pr ow fi) (ht : t < 12) (hp : p < 24) (hop : dop (D m) p = 24) (hag : dag (D m) p = (x)) (hD : ∀ m, mt m ≠ none → MdOk (D m)) (hpf : ∀ k ∈ fs, k.p < 24) (hft : ∀ k f, tyv (some (fty pr fi ft k f))) (hm40 : H.n ≤ 40) (hz18 : ∀ j, H.sz j ≤ 18) (hh : R 6 = some (b + 1)) (hb : b + 1 ≤ 5) (hpt : b + pts 24 ≤ 5) (hf : fit tb 24 x R V b H) (hO : ∀ R' V' H' σ', ins pr ow fi ft 24 x R V b H = .ok R' V' H' → KB σ0 mt σ' (7 + hgt R') t m (p + 1) R' V' fs H' su dt dq aw → P (.inl none) σ') (hG : ∀ n f' fs' σ', ins pr ow fi ft 24 x R V b H = .sg n → rse pr D none (-1) (⟨m, p, R, V⟩ :: fs) = some (f' :: fs') → KB σ0 mt σ' (7 + hgt f'.R) fs'.length f'.m f'.p f'.R f'.V fs' H su dt dq aw → P (.inl none) σ') (hE : ∀ n σ', ins pr ow fi ft 24 x R V b H = .sg n → rse pr D none (-1) (⟨m, p, R, V⟩ :: fs) = none → KZ σ0 σ' H (nI n) (nI 0) dq aw → P (.inl none) σ') (hF6 : ∀ σ', ins pr ow fi ft 24 x R V b H = .full → KZ σ0 σ' H (nI 6) (nI 0) dq aw → P (.inl none) σ') : jl_mE l G m_Ma_step [.ref 13] σ P := by
  obtain ⟨uw, ps, ty, va, hX, u1, u2, t1, t2, hS, hx, hto, hF⟩ := id hk
  obtain ⟨s0, s1, s2, s3⟩ := id hS
  obtain ⟨⟨⟨a, hma, hua⟩, hps1, hty, hva⟩, hfs, hln, hob⟩ := id hx
  have hma : mt m = some a := hma
  have hps1 : ps t = p := hps1
  have hty : ∀ j, j < _ → ty (t * 12 + j) = R j := hty
  have hva : ∀ j, j < _ → j ≠ 6 → va (t * 12 + j) = V j := hva
  have hRo := hx.rob
  obtain ⟨hM, g1, g2, g3, g4, g5, g6, g7, g8⟩ : MeD σ a (D m) (MP m) (FH m) := (hwx.fr hF hmt).2.2.2 m a hma
  refine jl_ofE (as := [.ref 13]) rfl (by decide) hl (jl_cc rfl jl_ca) (Nat.le_of_ble_eq_true rfl) ?_
  show jl_E l G m_Ma_step (0, 0) 0 [some (.ref 13), none, none, none, none] [] (σ) P
  refine er_aload_n d_Ma_step_0 rfl ?_
  refine er_getf d_Ma_step_1 f_Ma_step_24 hX rfl ?_
  refine er_aload_n d_Ma_step_4 rfl ?_
  refine er_getf d_Ma_step_5 f_Ma_step_34 hX rfl ?_
  refine er_ialdQ (v := (nI (p))) d_Ma_step_8 u2 (by omega) (by omega) (congrArg nI hps1) ?_
  refine er_istore_n d_Ma_step_9 (by decide) ?_
  show jl_E l G m_Ma_step (0, 0) 10 [some (.ref 13), some (.int (nI p)), none, none, none] [] (σ) P
  refine er_aload_n d_Ma_step_10 rfl ?_
  refine er_getf d_Ma_step_11 f_Ma_step_20 hX rfl ?_
  refine er_aload_n d_Ma_step_14 rfl ?_
  refine er_getf d_Ma_step_15 f_Ma_step_34 hX rfl ?_
  refine er_aaldQ (v := some (a)) d_Ma_step_18 u1 (by omega) (by omega) (hua) ?_
  show jl_E l G m_Ma_step (0, 0) 19 [some (.ref 13), some (.int (nI p)), none, none, none] [.ref a] (σ) P
  refine er_getf d_Ma_step_19 f_Ma_step_94 hM rfl ?_
  refine er_iload_n d_Ma_step_22 rfl ?_
  refine er_ialdQ (v := (nI (24))) d_Ma_step_23 g1 (by omega) (by omega) (congrArg nI hop) ?_
  refine er_istore_n d_Ma_step_24 (by decide) ?_
  show jl_E l G m_Ma_step (0, 0) 25 [some (.ref 13), some (.int (nI p)), some (.int (nI 24)), none, none] [] (σ) P
  refine er_aload_n d_Ma_step_25 rfl ?_
  refine er_getf d_Ma_step_26 f_Ma_step_20 hX rfl ?_
  refine er_aload_n d_Ma_step_29 rfl ?_
  refine er_getf d_Ma_step_30 f_Ma_step_34 hX rfl ?_
  refine er_aaldQ (v := some (a)) d_Ma_step_33 u1 (by omega) (by omega) (hua) ?_
  show jl_E l G m_Ma_step (0, 0) 34 [some (.ref 13), some (.int (nI p)), some (.int (nI 24)), none, none] [.ref a] (σ) P
  refine er_getf d_Ma_step_34 f_Ma_step_97 hM rfl ?_
  refine er_iload_n d_Ma_step_37 rfl ?_
  refine er_ialdQ (v := (x)) d_Ma_step_38 g2 (by omega) (by omega) (hag) ?_
  refine er_istore_n d_Ma_step_39 (by decide) ?_
  show jl_E l G m_Ma_step (0, 0) 40 [some (.ref 13), some (.int (nI p)), some (.int (nI 24)), some (.int (x)), none] [] (σ) P
  refine er_iload_n d_Ma_step_40 rfl ?_
  refine er_tableOut 153 d_Ma_step_41 (by decide +kernel) (by decide) ?_
  refine er_aload_n d_Ma_step_153 rfl ?_
  refine er_iload_n d_Ma_step_154 rfl ?_
  refine er_iload_n d_Ma_step_155 rfl ?_
  refine er_callVE (As := [.int (nI 24), .int (x)]) d_Ma_step_156 k_Ma_step_114 hX rfl rfl rfl (Nat.le_of_ble_eq_true rfl) (by decide) (by decide) (ma_ins_24 hl hwx hmt hok hft ht hm40 hz18 hk hh hb hpt hf (fun R1 V1 H1 σ e1 hk1 => ⟨_, rfl, ?_⟩) (fun n σ e1 hk1 => ⟨_, rfl, ?_⟩) (fun σ e1 hk1 => ⟨_, rfl, ?_⟩))
  · skip
    obtain ⟨uw, ps, ty, va, hX, u1, u2, t1, t2, hS, hx, hto, hF⟩ := id hk1
    obtain ⟨s0, s1, s2, s3⟩ := id hS
    show jl_E l G m_Ma_step (0, 0) 159 [some (.ref 13), some (.int (nI p)), some (.int (nI 24)), some (.int (x)), none] [.int (nI 0)] (σ) P
    refine er_istore d_Ma_step_159 (by decide) ?_
    show jl_E l G m_Ma_step (0, 0) 161 [some (.ref 13), some (.int (nI p)), some (.int (nI 24)), some (.int (x)), some (.int (nI 0))] [] (σ) P
    refine er_iload d_Ma_step_161 rfl ?_
    refine er_if_ne 181 d_Ma_step_163 (by decide) (fun z => absurd rfl z) (fun _ => ?_)
    refine er_aload_n d_Ma_step_166 rfl ?_
    refine er_getf d_Ma_step_167 f_Ma_step_24 hX rfl ?_
    refine er_aload_n d_Ma_step_170 rfl ?_
    refine er_getf d_Ma_step_171 f_Ma_step_34 hX rfl ?_
    refine er_iload_n d_Ma_step_174 rfl ?_
    refine er_iconst ((nI (1))) d_Ma_step_175 (by decide) ?_
    refine er_iaddN d_Ma_step_176 ?_
    refine er_iastN d_Ma_step_177 u2 (by omega) (by omega) ?_
    rw [show upd (fun j => nI (ps j)) (t) ((nI ((p) + (1)))) = (fun j => nI ((va_up ps (t) ((p) + (1))) j)) from nI_up ps (t) ((p) + (1))]
    show jl_E l G m_Ma_step (0, 0) 178 [some (.ref 13), some (.int (nI p)), some (.int (nI 24)), some (.int (x)), some (.int (nI 0))] [] (σ.set (19) (.inl (0, 12, .inl (fun j => nI ((va_up ps (t) ((p) + (1))) j))))) P
    refine er_goto 189 d_Ma_step_178 (by decide) ?_
    exact er_vret d_Ma_step_189 rfl (hO R1 V1 H1 _ e1 ⟨_, _, _, _, (jl_sn (by decide) hX), (jl_sn (by decide) u1), (jl_ss u2), (jl_sn (by decide) t1), (jl_sn (by decide) t2), ⟨(jl_sn (by decide) s0), (jl_sn (by decide) s1), (jl_sn (by decide) s2), (jl_sn (by decide) s3)⟩, (hx.pc), hto, (hF.set (by omega))⟩) (by decide) (by decide)
  · skip
    have hn14 := ins_sg e1
    obtain ⟨uw, ps, ty, va, hX, u1, u2, t1, t2, hS, hx, hto, hF⟩ := id hk1
    obtain ⟨s0, s1, s2, s3⟩ := id hS
    show jl_E l G m_Ma_step (0, 0) 159 [some (.ref 13), some (.int (nI p)), some (.int (nI 24)), some (.int (x)), none] [.int (nI n)] (σ) P
    refine er_istore d_Ma_step_159 (by decide) ?_
    show jl_E l G m_Ma_step (0, 0) 161 [some (.ref 13), some (.int (nI p)), some (.int (nI 24)), some (.int (x)), some (.int (nI n))] [] (σ) P
    refine er_iload d_Ma_step_161 rfl ?_
    refine er_if_ne 181 d_Ma_step_163 (by decide) (fun _ => ?_) (fun z => absurd z ((fun z => by have z2 : nI n = nI 0 := z.trans nI_0k.symm; rw [nI_eq (by omega) (by omega)] at z2; omega)))
    refine er_aload_n d_Ma_step_181 rfl ?_
    refine er_iload d_Ma_step_182 rfl ?_
    refine er_iconst ((-1)) d_Ma_step_184 (by decide) ?_
    refine er_iconst ((-1)) d_Ma_step_185 (by decide) ?_
    refine er_callVE (As := [.int (nI n), .int (-1), .int (-1)]) d_Ma_step_186 k_Ma_step_118 hX rfl rfl rfl (Nat.le_of_ble_eq_true rfl) (by decide) (by decide) (ma_raise (y := none) (v := -1) (n := n) (R := R) (V := V) hl hk1 hwx hmt hok hD (fun _ q => by cases q) (by omega) ht hp hpf (fun f1 fs1 σ e2 h1 => ⟨_, rfl, ?_⟩) (fun e2 σ h1 => ⟨_, rfl, ?_⟩))
    · skip
      show jl_E l G m_Ma_step (0, 0) 189 [some (.ref 13), some (.int (nI p)), some (.int (nI 24)), some (.int (x)), some (.int (nI n))] [] (σ) P
      exact er_vret d_Ma_step_189 rfl (hG n f1 fs1 _ e1 e2 h1) (by decide) (by decide)
    · skip
      show jl_E l G m_Ma_step (0, 0) 189 [some (.ref 13), some (.int (nI p)), some (.int (nI 24)), some (.int (x)), some (.int (nI n))] [] (σ) P
      exact er_vret d_Ma_step_189 rfl (hE n _ e1 e2 (by have z := h1; rw [if_neg (by omega)] at z; exact z)) (by decide) (by decide)
  · skip
    obtain ⟨uw, ps, ty, va, hX, u1, u2, t1, t2, hS, hx, hto, hF⟩ := id hk1
    obtain ⟨s0, s1, s2, s3⟩ := id hS
    show jl_E l G m_Ma_step (0, 0) 159 [some (.ref 13), some (.int (nI p)), some (.int (nI 24)), some (.int (x)), none] [.int (nI 0)] (σ) P
    refine er_istore d_Ma_step_159 (by decide) ?_
    show jl_E l G m_Ma_step (0, 0) 161 [some (.ref 13), some (.int (nI p)), some (.int (nI 24)), some (.int (x)), some (.int (nI 0))] [] (σ) P
    refine er_iload d_Ma_step_161 rfl ?_
    refine er_if_ne 181 d_Ma_step_163 (by decide) (fun z => absurd rfl z) (fun _ => ?_)
    refine er_aload_n d_Ma_step_166 rfl ?_
    refine er_getf d_Ma_step_167 f_Ma_step_24 hX rfl ?_
    refine er_aload_n d_Ma_step_170 rfl ?_
    refine er_getf d_Ma_step_171 f_Ma_step_34 hX rfl ?_
    refine er_iload_n d_Ma_step_174 rfl ?_
    refine er_iconst ((nI (1))) d_Ma_step_175 (by decide) ?_
    refine er_iaddN d_Ma_step_176 ?_
    refine er_iastN d_Ma_step_177 u2 (by omega) (by omega) ?_
    rw [show upd (fun j => nI (ps j)) (t) ((nI ((p) + (1)))) = (fun j => nI ((va_up ps (t) ((p) + (1))) j)) from nI_up ps (t) ((p) + (1))]
    show jl_E l G m_Ma_step (0, 0) 178 [some (.ref 13), some (.int (nI p)), some (.int (nI 24)), some (.int (x)), some (.int (nI 0))] [] (σ.set (19) (.inl (0, 12, .inl (fun j => nI ((va_up ps (t) ((p) + (1))) j))))) P
    refine er_goto 189 d_Ma_step_178 (by decide) ?_
    exact er_vret d_Ma_step_189 rfl (hF6 _ e1 (KB.kz (N := 6) (R := R) (V := V) (mt := mt) (m := m) (p := p + 1) (t := t) (fs := fs) ⟨_, _, _, _, (jl_sn (by decide) hX), (jl_sn (by decide) u1), (jl_ss u2), (jl_sn (by decide) t1), (jl_sn (by decide) t2), ⟨(jl_sn (by decide) s0), (jl_sn (by decide) s1), (jl_sn (by decide) s2), (jl_sn (by decide) s3)⟩, (hx.pc), hto, (hF.set (by omega))⟩)) (by decide) (by decide)
theorem ma_st_25 (hl : l.stackTraces = false) {P : jl_O → jl_S → Prop}  (hk : KB σ0 mt σ (7 + (b + 2)) t m p (R) (V) (fs) (H) su dt dq aw) (hwx : WX σ0 tb pr ow fi ft mt sg D MP FH) (hmt : MtOk mt) (hok : WoOk tb pr ow fi) (ht : t < 12) (hp : p < 24) (hop : dop (D m) p = 25) (hag : dag (D m) p = (x)) (hD : ∀ m, mt m ≠ none → MdOk (D m)) (hpf : ∀ k ∈ fs, k.p < 24) (hft : ∀ k f, tyv (some (fty pr fi ft k f))) (hm40 : H.n ≤ 40) (hz18 : ∀ j, H.sz j ≤ 18) (hh : R 6 = some (b + 2)) (hb : b + 2 ≤ 5) (hpt : b + pts 25 ≤ 5) (hf : fit tb 25 x R V b H) (hO : ∀ R' V' H' σ', ins pr ow fi ft 25 x R V b H = .ok R' V' H' → KB σ0 mt σ' (7 + hgt R') t m (p + 1) R' V' fs H' su dt dq aw → P (.inl none) σ') (hG : ∀ n f' fs' σ', ins pr ow fi ft 25 x R V b H = .sg n → rse pr D none (-1) (⟨m, p, R, V⟩ :: fs) = some (f' :: fs') → KB σ0 mt σ' (7 + hgt f'.R) fs'.length f'.m f'.p f'.R f'.V fs' H su dt dq aw → P (.inl none) σ') (hE : ∀ n σ', ins pr ow fi ft 25 x R V b H = .sg n → rse pr D none (-1) (⟨m, p, R, V⟩ :: fs) = none → KZ σ0 σ' H (nI n) (nI 0) dq aw → P (.inl none) σ') (hF6 : ∀ σ', ins pr ow fi ft 25 x R V b H = .full → KZ σ0 σ' H (nI 6) (nI 0) dq aw → P (.inl none) σ') : jl_mE l G m_Ma_step [.ref 13] σ P := by
  obtain ⟨uw, ps, ty, va, hX, u1, u2, t1, t2, hS, hx, hto, hF⟩ := id hk
  obtain ⟨s0, s1, s2, s3⟩ := id hS
  obtain ⟨⟨⟨a, hma, hua⟩, hps1, hty, hva⟩, hfs, hln, hob⟩ := id hx
  have hma : mt m = some a := hma
  have hps1 : ps t = p := hps1
  have hty : ∀ j, j < _ → ty (t * 12 + j) = R j := hty
  have hva : ∀ j, j < _ → j ≠ 6 → va (t * 12 + j) = V j := hva
  have hRo := hx.rob
  obtain ⟨hM, g1, g2, g3, g4, g5, g6, g7, g8⟩ : MeD σ a (D m) (MP m) (FH m) := (hwx.fr hF hmt).2.2.2 m a hma
  refine jl_ofE (as := [.ref 13]) rfl (by decide) hl (jl_cc rfl jl_ca) (Nat.le_of_ble_eq_true rfl) ?_
  show jl_E l G m_Ma_step (0, 0) 0 [some (.ref 13), none, none, none, none] [] (σ) P
  refine er_aload_n d_Ma_step_0 rfl ?_
  refine er_getf d_Ma_step_1 f_Ma_step_24 hX rfl ?_
  refine er_aload_n d_Ma_step_4 rfl ?_
  refine er_getf d_Ma_step_5 f_Ma_step_34 hX rfl ?_
  refine er_ialdQ (v := (nI (p))) d_Ma_step_8 u2 (by omega) (by omega) (congrArg nI hps1) ?_
  refine er_istore_n d_Ma_step_9 (by decide) ?_
  show jl_E l G m_Ma_step (0, 0) 10 [some (.ref 13), some (.int (nI p)), none, none, none] [] (σ) P
  refine er_aload_n d_Ma_step_10 rfl ?_
  refine er_getf d_Ma_step_11 f_Ma_step_20 hX rfl ?_
  refine er_aload_n d_Ma_step_14 rfl ?_
  refine er_getf d_Ma_step_15 f_Ma_step_34 hX rfl ?_
  refine er_aaldQ (v := some (a)) d_Ma_step_18 u1 (by omega) (by omega) (hua) ?_
  show jl_E l G m_Ma_step (0, 0) 19 [some (.ref 13), some (.int (nI p)), none, none, none] [.ref a] (σ) P
  refine er_getf d_Ma_step_19 f_Ma_step_94 hM rfl ?_
  refine er_iload_n d_Ma_step_22 rfl ?_
  refine er_ialdQ (v := (nI (25))) d_Ma_step_23 g1 (by omega) (by omega) (congrArg nI hop) ?_
  refine er_istore_n d_Ma_step_24 (by decide) ?_
  show jl_E l G m_Ma_step (0, 0) 25 [some (.ref 13), some (.int (nI p)), some (.int (nI 25)), none, none] [] (σ) P
  refine er_aload_n d_Ma_step_25 rfl ?_
  refine er_getf d_Ma_step_26 f_Ma_step_20 hX rfl ?_
  refine er_aload_n d_Ma_step_29 rfl ?_
  refine er_getf d_Ma_step_30 f_Ma_step_34 hX rfl ?_
  refine er_aaldQ (v := some (a)) d_Ma_step_33 u1 (by omega) (by omega) (hua) ?_
  show jl_E l G m_Ma_step (0, 0) 34 [some (.ref 13), some (.int (nI p)), some (.int (nI 25)), none, none] [.ref a] (σ) P
  refine er_getf d_Ma_step_34 f_Ma_step_97 hM rfl ?_
  refine er_iload_n d_Ma_step_37 rfl ?_
  refine er_ialdQ (v := (x)) d_Ma_step_38 g2 (by omega) (by omega) (hag) ?_
  refine er_istore_n d_Ma_step_39 (by decide) ?_
  show jl_E l G m_Ma_step (0, 0) 40 [some (.ref 13), some (.int (nI p)), some (.int (nI 25)), some (.int (x)), none] [] (σ) P
  refine er_iload_n d_Ma_step_40 rfl ?_
  refine er_tableOut 153 d_Ma_step_41 (by decide +kernel) (by decide) ?_
  refine er_aload_n d_Ma_step_153 rfl ?_
  refine er_iload_n d_Ma_step_154 rfl ?_
  refine er_iload_n d_Ma_step_155 rfl ?_
  refine er_callVE (As := [.int (nI 25), .int (x)]) d_Ma_step_156 k_Ma_step_114 hX rfl rfl rfl (Nat.le_of_ble_eq_true rfl) (by decide) (by decide) (ma_ins_25 hl hwx hmt hok hft ht hm40 hz18 hk hh hb hpt hf (fun R1 V1 H1 σ e1 hk1 => ⟨_, rfl, ?_⟩) (fun n σ e1 hk1 => ⟨_, rfl, ?_⟩) (fun σ e1 hk1 => ⟨_, rfl, ?_⟩))
  · skip
    obtain ⟨uw, ps, ty, va, hX, u1, u2, t1, t2, hS, hx, hto, hF⟩ := id hk1
    obtain ⟨s0, s1, s2, s3⟩ := id hS
    show jl_E l G m_Ma_step (0, 0) 159 [some (.ref 13), some (.int (nI p)), some (.int (nI 25)), some (.int (x)), none] [.int (nI 0)] (σ) P
    refine er_istore d_Ma_step_159 (by decide) ?_
    show jl_E l G m_Ma_step (0, 0) 161 [some (.ref 13), some (.int (nI p)), some (.int (nI 25)), some (.int (x)), some (.int (nI 0))] [] (σ) P
    refine er_iload d_Ma_step_161 rfl ?_
    refine er_if_ne 181 d_Ma_step_163 (by decide) (fun z => absurd rfl z) (fun _ => ?_)
    refine er_aload_n d_Ma_step_166 rfl ?_
    refine er_getf d_Ma_step_167 f_Ma_step_24 hX rfl ?_
    refine er_aload_n d_Ma_step_170 rfl ?_
    refine er_getf d_Ma_step_171 f_Ma_step_34 hX rfl ?_
    refine er_iload_n d_Ma_step_174 rfl ?_
    refine er_iconst ((nI (1))) d_Ma_step_175 (by decide) ?_
    refine er_iaddN d_Ma_step_176 ?_
    refine er_iastN d_Ma_step_177 u2 (by omega) (by omega) ?_
    rw [show upd (fun j => nI (ps j)) (t) ((nI ((p) + (1)))) = (fun j => nI ((va_up ps (t) ((p) + (1))) j)) from nI_up ps (t) ((p) + (1))]
    show jl_E l G m_Ma_step (0, 0) 178 [some (.ref 13), some (.int (nI p)), some (.int (nI 25)), some (.int (x)), some (.int (nI 0))] [] (σ.set (19) (.inl (0, 12, .inl (fun j => nI ((va_up ps (t) ((p) + (1))) j))))) P
    refine er_goto 189 d_Ma_step_178 (by decide) ?_
    exact er_vret d_Ma_step_189 rfl (hO R1 V1 H1 _ e1 ⟨_, _, _, _, (jl_sn (by decide) hX), (jl_sn (by decide) u1), (jl_ss u2), (jl_sn (by decide) t1), (jl_sn (by decide) t2), ⟨(jl_sn (by decide) s0), (jl_sn (by decide) s1), (jl_sn (by decide) s2), (jl_sn (by decide) s3)⟩, (hx.pc), hto, (hF.set (by omega))⟩) (by decide) (by decide)
  · skip
    have hn14 := ins_sg e1
    obtain ⟨uw, ps, ty, va, hX, u1, u2, t1, t2, hS, hx, hto, hF⟩ := id hk1
    obtain ⟨s0, s1, s2, s3⟩ := id hS
    show jl_E l G m_Ma_step (0, 0) 159 [some (.ref 13), some (.int (nI p)), some (.int (nI 25)), some (.int (x)), none] [.int (nI n)] (σ) P
    refine er_istore d_Ma_step_159 (by decide) ?_
    show jl_E l G m_Ma_step (0, 0) 161 [some (.ref 13), some (.int (nI p)), some (.int (nI 25)), some (.int (x)), some (.int (nI n))] [] (σ) P
    refine er_iload d_Ma_step_161 rfl ?_
    refine er_if_ne 181 d_Ma_step_163 (by decide) (fun _ => ?_) (fun z => absurd z ((fun z => by have z2 : nI n = nI 0 := z.trans nI_0k.symm; rw [nI_eq (by omega) (by omega)] at z2; omega)))
    refine er_aload_n d_Ma_step_181 rfl ?_
    refine er_iload d_Ma_step_182 rfl ?_
    refine er_iconst ((-1)) d_Ma_step_184 (by decide) ?_
    refine er_iconst ((-1)) d_Ma_step_185 (by decide) ?_
    refine er_callVE (As := [.int (nI n), .int (-1), .int (-1)]) d_Ma_step_186 k_Ma_step_118 hX rfl rfl rfl (Nat.le_of_ble_eq_true rfl) (by decide) (by decide) (ma_raise (y := none) (v := -1) (n := n) (R := R) (V := V) hl hk1 hwx hmt hok hD (fun _ q => by cases q) (by omega) ht hp hpf (fun f1 fs1 σ e2 h1 => ⟨_, rfl, ?_⟩) (fun e2 σ h1 => ⟨_, rfl, ?_⟩))
    · skip
      show jl_E l G m_Ma_step (0, 0) 189 [some (.ref 13), some (.int (nI p)), some (.int (nI 25)), some (.int (x)), some (.int (nI n))] [] (σ) P
      exact er_vret d_Ma_step_189 rfl (hG n f1 fs1 _ e1 e2 h1) (by decide) (by decide)
    · skip
      show jl_E l G m_Ma_step (0, 0) 189 [some (.ref 13), some (.int (nI p)), some (.int (nI 25)), some (.int (x)), some (.int (nI n))] [] (σ) P
      exact er_vret d_Ma_step_189 rfl (hE n _ e1 e2 (by have z := h1; rw [if_neg (by omega)] at z; exact z)) (by decide) (by decide)
  · skip
    obtain ⟨uw, ps, ty, va, hX, u1, u2, t1, t2, hS, hx, hto, hF⟩ := id hk1
    obtain ⟨s0, s1, s2, s3⟩ := id hS
    show jl_E l G m_Ma_step (0, 0) 159 [some (.ref 13), some (.int (nI p)), some (.int (nI 25)), some (.int (x)), none] [.int (nI 0)] (σ) P
    refine er_istore d_Ma_step_159 (by decide) ?_
    show jl_E l G m_Ma_step (0, 0) 161 [some (.ref 13), some (.int (nI p)), some (.int (nI 25)), some (.int (x)), some (.int (nI 0))] [] (σ) P
    refine er_iload d_Ma_step_161 rfl ?_
    refine er_if_ne 181 d_Ma_step_163 (by decide) (fun z => absurd rfl z) (fun _ => ?_)
    refine er_aload_n d_Ma_step_166 rfl ?_
    refine er_getf d_Ma_step_167 f_Ma_step_24 hX rfl ?_
    refine er_aload_n d_Ma_step_170 rfl ?_
    refine er_getf d_Ma_step_171 f_Ma_step_34 hX rfl ?_
    refine er_iload_n d_Ma_step_174 rfl ?_
    refine er_iconst ((nI (1))) d_Ma_step_175 (by decide) ?_
    refine er_iaddN d_Ma_step_176 ?_
    refine er_iastN d_Ma_step_177 u2 (by omega) (by omega) ?_
    rw [show upd (fun j => nI (ps j)) (t) ((nI ((p) + (1)))) = (fun j => nI ((va_up ps (t) ((p) + (1))) j)) from nI_up ps (t) ((p) + (1))]
    show jl_E l G m_Ma_step (0, 0) 178 [some (.ref 13), some (.int (nI p)), some (.int (nI 25)), some (.int (x)), some (.int (nI 0))] [] (σ.set (19) (.inl (0, 12, .inl (fun j => nI ((va_up ps (t) ((p) + (1))) j))))) P
    refine er_goto 189 d_Ma_step_178 (by decide) ?_
    exact er_vret d_Ma_step_189 rfl (hF6 _ e1 (KB.kz (N := 6) (R := R) (V := V) (mt := mt) (m := m) (p := p + 1) (t := t) (fs := fs) ⟨_, _, _, _, (jl_sn (by decide) hX), (jl_sn (by decide) u1), (jl_ss u2), (jl_sn (by decide) t1), (jl_sn (by decide) t2), ⟨(jl_sn (by decide) s0), (jl_sn (by decide) s1), (jl_sn (by decide) s2), (jl_sn (by decide) s3)⟩, (hx.pc), hto, (hF.set (by omega))⟩)) (by decide) (by decide)
end JMj
