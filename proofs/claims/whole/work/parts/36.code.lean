/-! Method and JavaChain: code, catcher, about (wip/gen/p36.py) -/
section JCo
variable {l : Launch} {G : jl_G} {σ : jl_S} {tb : Nat → Bool} {pr : Nat → Option Nat} {ow fi ft : Nat → Nat} {mt : Nat → Option Nat} {vf : Bool} {a : Nat} {q1 q2 : Option Nat} {rs : Nat} {op : Nat → Nat} {ag : Nat → Int32} {sz : Nat} {fr tt tg kd : Nat → Nat} {nc : Nat} {mp : Nat → Int32} {fh : Nat → Bool}
theorem MeAt.sx {b : Nat} {d : jl_C} (h : MeAt σ a q1 q2 rs op ag sz fr tt tg kd nc mp fh) (hb : b < a ∨ a + 8 < b) : MeAt (σ.set b d) a q1 q2 rs op ag sz fr tt tg kd nc mp fh := by
  obtain ⟨hM, g1, g2, g3, g4, g5, g6, g7, g8⟩ := h
  exact ⟨jl_sn (by omega) hM, jl_sn (by omega) g1, jl_sn (by omega) g2, jl_sn (by omega) g3, jl_sn (by omega) g4, jl_sn (by omega) g5, jl_sn (by omega) g6, jl_sn (by omega) g7, jl_sn (by omega) g8⟩
theorem d_Me_addInstruction_0 : decode m_Me_addInstruction.2.1 0 = .ok (.aload_n 0, 1) := by decide +kernel
theorem f_Me_addInstruction_9 : jl_fd m_Me_addInstruction 9 2 3 = true := by decide +kernel
theorem d_Me_addInstruction_1 : decode m_Me_addInstruction.2.1 1 = .ok (.getfield 9, 3) := by decide +kernel
theorem d_Me_addInstruction_4 : decode m_Me_addInstruction.2.1 4 = .ok (.aload_n 0, 1) := by decide +kernel
theorem f_Me_addInstruction_18 : jl_fd m_Me_addInstruction 18 2 5 = true := by decide +kernel
theorem d_Me_addInstruction_5 : decode m_Me_addInstruction.2.1 5 = .ok (.getfield 18, 3) := by decide +kernel
theorem d_Me_addInstruction_8 : decode m_Me_addInstruction.2.1 8 = .ok (.iload_n 1, 1) := by decide +kernel
theorem d_Me_addInstruction_9 : decode m_Me_addInstruction.2.1 9 = .ok (.iastore, 1) := by decide +kernel
theorem d_Me_addInstruction_10 : decode m_Me_addInstruction.2.1 10 = .ok (.aload_n 0, 1) := by decide +kernel
theorem f_Me_addInstruction_15 : jl_fd m_Me_addInstruction 15 2 4 = true := by decide +kernel
theorem d_Me_addInstruction_11 : decode m_Me_addInstruction.2.1 11 = .ok (.getfield 15, 3) := by decide +kernel
theorem d_Me_addInstruction_14 : decode m_Me_addInstruction.2.1 14 = .ok (.aload_n 0, 1) := by decide +kernel
theorem d_Me_addInstruction_15 : decode m_Me_addInstruction.2.1 15 = .ok (.getfield 18, 3) := by decide +kernel
theorem d_Me_addInstruction_18 : decode m_Me_addInstruction.2.1 18 = .ok (.iload_n 2, 1) := by decide +kernel
theorem d_Me_addInstruction_19 : decode m_Me_addInstruction.2.1 19 = .ok (.iastore, 1) := by decide +kernel
theorem d_Me_addInstruction_20 : decode m_Me_addInstruction.2.1 20 = .ok (.aload_n 0, 1) := by decide +kernel
theorem d_Me_addInstruction_21 : decode m_Me_addInstruction.2.1 21 = .ok (.dup, 1) := by decide +kernel
theorem d_Me_addInstruction_22 : decode m_Me_addInstruction.2.1 22 = .ok (.getfield 18, 3) := by decide +kernel
theorem d_Me_addInstruction_25 : decode m_Me_addInstruction.2.1 25 = .ok (.iconst 1, 1) := by decide +kernel
theorem d_Me_addInstruction_26 : decode m_Me_addInstruction.2.1 26 = .ok (.iadd, 1) := by decide +kernel
theorem p_Me_addInstruction_18 : jl_fp m_Me_addInstruction 18 2 5 = true := by decide +kernel
theorem d_Me_addInstruction_27 : decode m_Me_addInstruction.2.1 27 = .ok (.putfield 18, 3) := by decide +kernel
theorem d_Me_addInstruction_30 : decode m_Me_addInstruction.2.1 30 = .ok (.aload_n 0, 1) := by decide +kernel
theorem d_Me_addInstruction_31 : decode m_Me_addInstruction.2.1 31 = .ok (.getfield 18, 3) := by decide +kernel
theorem d_Me_addInstruction_34 : decode m_Me_addInstruction.2.1 34 = .ok (.iconst 1, 1) := by decide +kernel
theorem d_Me_addInstruction_35 : decode m_Me_addInstruction.2.1 35 = .ok (.isub, 1) := by decide +kernel
theorem d_Me_addInstruction_36 : decode m_Me_addInstruction.2.1 36 = .ok (.ireturn, 1) := by decide +kernel
theorem me_addI (hl : l.stackTraces = false) {o : Nat} {x : Int32} (hm : MeAt σ a q1 q2 rs op ag sz fr tt tg kd nc mp fh) (hs : sz < 24) : jl_m l G m_Me_addInstruction [.ref a, .int (nI o), .int (x)] σ (.inl (some (.int (nI sz)))) (((σ.set (a + 1) (.inl (0, 24, .inl fun j => nI (va_up op sz o j)))).set (a + 2) (.inl (0, 24, .inl (upd ag sz x)))).set a (.inr (2, [.int (en q1), .int (en q2), .int (nI rs), .ref (a + 1), .ref (a + 2), .int (nI (sz + 1)), .ref (a + 3), .ref (a + 4), .ref (a + 5), .ref (a + 6), .int (nI (nc)), .ref (a + 7), .ref (a + 8)]))) := by
  obtain ⟨hM, g1, g2, g3, g4, g5, g6, g7, g8⟩ := id hm
  refine jl_of (as := [.ref a, .int (nI o), .int (x)]) rfl (by decide) hl (jl_cc rfl (jl_cc rfl (jl_cc rfl jl_ca))) (Nat.le_of_ble_eq_true rfl) ?_
  show jl_W l G m_Me_addInstruction (0, 0) 0 [some (.ref a), some (.int (nI o)), some (.int (x))] [] (σ) (.inl (some (.int (nI sz)))) (((σ.set (a + 1) (.inl (0, 24, .inl fun j => nI (va_up op sz o j)))).set (a + 2) (.inl (0, 24, .inl (upd ag sz x)))).set a (.inr (2, [.int (en q1), .int (en q2), .int (nI rs), .ref (a + 1), .ref (a + 2), .int (nI (sz + 1)), .ref (a + 3), .ref (a + 4), .ref (a + 5), .ref (a + 6), .int (nI (nc)), .ref (a + 7), .ref (a + 8)])))
  refine jr_aload_n d_Me_addInstruction_0 rfl ?_
  refine jr_getf d_Me_addInstruction_1 f_Me_addInstruction_9 hM rfl ?_
  refine jr_aload_n d_Me_addInstruction_4 rfl ?_
  refine jr_getf d_Me_addInstruction_5 f_Me_addInstruction_18 hM rfl ?_
  refine jr_iload_n d_Me_addInstruction_8 rfl ?_
  refine jr_iastN d_Me_addInstruction_9 g1 (by omega) (by omega) ?_
  rw [show upd (fun j => nI (op j)) (sz) ((nI (o))) = (fun j => nI ((va_up op (sz) (o)) j)) from nI_up op (sz) (o)]
  show jl_W l G m_Me_addInstruction (0, 0) 10 [some (.ref a), some (.int (nI o)), some (.int (x))] [] (σ.set (a + 1) (.inl (0, 24, .inl (fun j => nI ((va_up op (sz) (o)) j))))) (.inl (some (.int (nI sz)))) (((σ.set (a + 1) (.inl (0, 24, .inl fun j => nI (va_up op sz o j)))).set (a + 2) (.inl (0, 24, .inl (upd ag sz x)))).set a (.inr (2, [.int (en q1), .int (en q2), .int (nI rs), .ref (a + 1), .ref (a + 2), .int (nI (sz + 1)), .ref (a + 3), .ref (a + 4), .ref (a + 5), .ref (a + 6), .int (nI (nc)), .ref (a + 7), .ref (a + 8)])))
  refine jr_aload_n d_Me_addInstruction_10 rfl ?_
  refine jr_getf d_Me_addInstruction_11 f_Me_addInstruction_15 (jl_sn (by omega) hM) rfl ?_
  refine jr_aload_n d_Me_addInstruction_14 rfl ?_
  refine jr_getf d_Me_addInstruction_15 f_Me_addInstruction_18 (jl_sn (by omega) hM) rfl ?_
  refine jr_iload_n d_Me_addInstruction_18 rfl ?_
  refine jr_iastN d_Me_addInstruction_19 (jl_sn (by omega) g2) (by omega) (by omega) ?_
  show jl_W l G m_Me_addInstruction (0, 0) 20 [some (.ref a), some (.int (nI o)), some (.int (x))] [] ((σ.set (a + 1) (.inl (0, 24, .inl (fun j => nI ((va_up op (sz) (o)) j))))).set (a + 2) (.inl (0, 24, .inl (upd (ag) (sz) ((x)))))) (.inl (some (.int (nI sz)))) (((σ.set (a + 1) (.inl (0, 24, .inl fun j => nI (va_up op sz o j)))).set (a + 2) (.inl (0, 24, .inl (upd ag sz x)))).set a (.inr (2, [.int (en q1), .int (en q2), .int (nI rs), .ref (a + 1), .ref (a + 2), .int (nI (sz + 1)), .ref (a + 3), .ref (a + 4), .ref (a + 5), .ref (a + 6), .int (nI (nc)), .ref (a + 7), .ref (a + 8)])))
  refine jr_aload_n d_Me_addInstruction_20 rfl ?_
  refine jr_dup d_Me_addInstruction_21 rfl ?_
  refine jr_getf d_Me_addInstruction_22 f_Me_addInstruction_18 (jl_sn (by omega) (jl_sn (by omega) hM)) rfl ?_
  refine jr_iconst ((nI (1))) d_Me_addInstruction_25 (by decide) ?_
  refine jr_iaddN d_Me_addInstruction_26 ?_
  refine jr_putf d_Me_addInstruction_27 p_Me_addInstruction_18 (jl_sn (by omega) (jl_sn (by omega) hM)) (Nat.le_of_ble_eq_true rfl) jl_fit_int ?_
  show jl_W l G m_Me_addInstruction (0, 0) 30 [some (.ref a), some (.int (nI o)), some (.int (x))] [] (((σ.set (a + 1) (.inl (0, 24, .inl (fun j => nI ((va_up op (sz) (o)) j))))).set (a + 2) (.inl (0, 24, .inl (upd (ag) (sz) ((x)))))).set (a) (.inr (2, [.int (en q1), .int (en q2), .int (nI rs), .ref (a + 1), .ref (a + 2), .int (nI ((sz) + (1))), .ref (a + 3), .ref (a + 4), .ref (a + 5), .ref (a + 6), .int (nI nc), .ref (a + 7), .ref (a + 8)]))) (.inl (some (.int (nI sz)))) (((σ.set (a + 1) (.inl (0, 24, .inl fun j => nI (va_up op sz o j)))).set (a + 2) (.inl (0, 24, .inl (upd ag sz x)))).set a (.inr (2, [.int (en q1), .int (en q2), .int (nI rs), .ref (a + 1), .ref (a + 2), .int (nI (sz + 1)), .ref (a + 3), .ref (a + 4), .ref (a + 5), .ref (a + 6), .int (nI (nc)), .ref (a + 7), .ref (a + 8)])))
  refine jr_aload_n d_Me_addInstruction_30 rfl ?_
  refine jr_getf d_Me_addInstruction_31 f_Me_addInstruction_18 (jl_ss (jl_sn (by omega) (jl_sn (by omega) hM))) rfl ?_
  refine jr_iconst ((nI (1))) d_Me_addInstruction_34 (by decide) ?_
  refine jr_isubN d_Me_addInstruction_35 (by omega) ?_
  exact jr_iretE d_Me_addInstruction_36 rfl (by rw [show sz + 1 - 1 = sz by omega]) (rfl) (by decide) (by decide)
theorem d_Me_addCatcher_0 : decode m_Me_addCatcher.2.1 0 = .ok (.aload_n 0, 1) := by decide +kernel
theorem f_Me_addCatcher_22 : jl_fd m_Me_addCatcher 22 2 6 = true := by decide +kernel
theorem d_Me_addCatcher_1 : decode m_Me_addCatcher.2.1 1 = .ok (.getfield 22, 3) := by decide +kernel
theorem d_Me_addCatcher_4 : decode m_Me_addCatcher.2.1 4 = .ok (.aload_n 0, 1) := by decide +kernel
theorem f_Me_addCatcher_34 : jl_fd m_Me_addCatcher 34 2 10 = true := by decide +kernel
theorem d_Me_addCatcher_5 : decode m_Me_addCatcher.2.1 5 = .ok (.getfield 34, 3) := by decide +kernel
theorem d_Me_addCatcher_8 : decode m_Me_addCatcher.2.1 8 = .ok (.iload_n 1, 1) := by decide +kernel
theorem d_Me_addCatcher_9 : decode m_Me_addCatcher.2.1 9 = .ok (.bipush 32, 2) := by decide +kernel
theorem d_Me_addCatcher_11 : decode m_Me_addCatcher.2.1 11 = .ok (.idiv, 1) := by decide +kernel
theorem d_Me_addCatcher_12 : decode m_Me_addCatcher.2.1 12 = .ok (.iastore, 1) := by decide +kernel
theorem d_Me_addCatcher_13 : decode m_Me_addCatcher.2.1 13 = .ok (.aload_n 0, 1) := by decide +kernel
theorem f_Me_addCatcher_25 : jl_fd m_Me_addCatcher 25 2 7 = true := by decide +kernel
theorem d_Me_addCatcher_14 : decode m_Me_addCatcher.2.1 14 = .ok (.getfield 25, 3) := by decide +kernel
theorem d_Me_addCatcher_17 : decode m_Me_addCatcher.2.1 17 = .ok (.aload_n 0, 1) := by decide +kernel
theorem d_Me_addCatcher_18 : decode m_Me_addCatcher.2.1 18 = .ok (.getfield 34, 3) := by decide +kernel
theorem d_Me_addCatcher_21 : decode m_Me_addCatcher.2.1 21 = .ok (.iload_n 1, 1) := by decide +kernel
theorem d_Me_addCatcher_22 : decode m_Me_addCatcher.2.1 22 = .ok (.bipush 32, 2) := by decide +kernel
theorem d_Me_addCatcher_24 : decode m_Me_addCatcher.2.1 24 = .ok (.irem, 1) := by decide +kernel
theorem d_Me_addCatcher_25 : decode m_Me_addCatcher.2.1 25 = .ok (.iastore, 1) := by decide +kernel
theorem d_Me_addCatcher_26 : decode m_Me_addCatcher.2.1 26 = .ok (.aload_n 0, 1) := by decide +kernel
theorem f_Me_addCatcher_28 : jl_fd m_Me_addCatcher 28 2 8 = true := by decide +kernel
theorem d_Me_addCatcher_27 : decode m_Me_addCatcher.2.1 27 = .ok (.getfield 28, 3) := by decide +kernel
theorem d_Me_addCatcher_30 : decode m_Me_addCatcher.2.1 30 = .ok (.aload_n 0, 1) := by decide +kernel
theorem d_Me_addCatcher_31 : decode m_Me_addCatcher.2.1 31 = .ok (.getfield 34, 3) := by decide +kernel
theorem d_Me_addCatcher_34 : decode m_Me_addCatcher.2.1 34 = .ok (.iload_n 2, 1) := by decide +kernel
theorem d_Me_addCatcher_35 : decode m_Me_addCatcher.2.1 35 = .ok (.iastore, 1) := by decide +kernel
theorem d_Me_addCatcher_36 : decode m_Me_addCatcher.2.1 36 = .ok (.aload_n 0, 1) := by decide +kernel
theorem f_Me_addCatcher_31 : jl_fd m_Me_addCatcher 31 2 9 = true := by decide +kernel
theorem d_Me_addCatcher_37 : decode m_Me_addCatcher.2.1 37 = .ok (.getfield 31, 3) := by decide +kernel
theorem d_Me_addCatcher_40 : decode m_Me_addCatcher.2.1 40 = .ok (.aload_n 0, 1) := by decide +kernel
theorem d_Me_addCatcher_41 : decode m_Me_addCatcher.2.1 41 = .ok (.getfield 34, 3) := by decide +kernel
theorem d_Me_addCatcher_44 : decode m_Me_addCatcher.2.1 44 = .ok (.iload_n 3, 1) := by decide +kernel
theorem d_Me_addCatcher_45 : decode m_Me_addCatcher.2.1 45 = .ok (.iastore, 1) := by decide +kernel
theorem d_Me_addCatcher_46 : decode m_Me_addCatcher.2.1 46 = .ok (.aload_n 0, 1) := by decide +kernel
theorem d_Me_addCatcher_47 : decode m_Me_addCatcher.2.1 47 = .ok (.dup, 1) := by decide +kernel
theorem d_Me_addCatcher_48 : decode m_Me_addCatcher.2.1 48 = .ok (.getfield 34, 3) := by decide +kernel
theorem d_Me_addCatcher_51 : decode m_Me_addCatcher.2.1 51 = .ok (.iconst 1, 1) := by decide +kernel
theorem d_Me_addCatcher_52 : decode m_Me_addCatcher.2.1 52 = .ok (.iadd, 1) := by decide +kernel
theorem p_Me_addCatcher_34 : jl_fp m_Me_addCatcher 34 2 10 = true := by decide +kernel
theorem d_Me_addCatcher_53 : decode m_Me_addCatcher.2.1 53 = .ok (.putfield 34, 3) := by decide +kernel
theorem d_Me_addCatcher_56 : decode m_Me_addCatcher.2.1 56 = .ok (.aload_n 0, 1) := by decide +kernel
theorem d_Me_addCatcher_57 : decode m_Me_addCatcher.2.1 57 = .ok (.getfield 34, 3) := by decide +kernel
theorem d_Me_addCatcher_60 : decode m_Me_addCatcher.2.1 60 = .ok (.ireturn, 1) := by decide +kernel
theorem me_addC (hl : l.stackTraces = false) {sp tr ki : Nat} (hm : MeAt σ a q1 q2 rs op ag sz fr tt tg kd nc mp fh) (hs : nc < 2) (hsp : sp < 1024) : jl_m l G m_Me_addCatcher [.ref a, .int (nI sp), .int (nI tr), .int (nI ki)] σ (.inl (some (.int (nI (nc + 1))))) (((((σ.set (a + 3) (.inl (0, 2, .inl fun j => nI (va_up fr nc (sp / 32) j)))).set (a + 4) (.inl (0, 2, .inl fun j => nI (va_up tt nc (sp % 32) j)))).set (a + 5) (.inl (0, 2, .inl fun j => nI (va_up tg nc tr j)))).set (a + 6) (.inl (0, 2, .inl fun j => nI (va_up kd nc ki j)))).set a (.inr (2, [.int (en q1), .int (en q2), .int (nI rs), .ref (a + 1), .ref (a + 2), .int (nI (sz)), .ref (a + 3), .ref (a + 4), .ref (a + 5), .ref (a + 6), .int (nI (nc + 1)), .ref (a + 7), .ref (a + 8)]))) := by
  obtain ⟨hM, g1, g2, g3, g4, g5, g6, g7, g8⟩ := id hm
  refine jl_of (as := [.ref a, .int (nI sp), .int (nI tr), .int (nI ki)]) rfl (by decide) hl (jl_cc rfl (jl_cc rfl (jl_cc rfl (jl_cc rfl jl_ca)))) (Nat.le_of_ble_eq_true rfl) ?_
  show jl_W l G m_Me_addCatcher (0, 0) 0 [some (.ref a), some (.int (nI sp)), some (.int (nI tr)), some (.int (nI ki))] [] (σ) (.inl (some (.int (nI (nc + 1))))) (((((σ.set (a + 3) (.inl (0, 2, .inl fun j => nI (va_up fr nc (sp / 32) j)))).set (a + 4) (.inl (0, 2, .inl fun j => nI (va_up tt nc (sp % 32) j)))).set (a + 5) (.inl (0, 2, .inl fun j => nI (va_up tg nc tr j)))).set (a + 6) (.inl (0, 2, .inl fun j => nI (va_up kd nc ki j)))).set a (.inr (2, [.int (en q1), .int (en q2), .int (nI rs), .ref (a + 1), .ref (a + 2), .int (nI (sz)), .ref (a + 3), .ref (a + 4), .ref (a + 5), .ref (a + 6), .int (nI (nc + 1)), .ref (a + 7), .ref (a + 8)])))
  refine jr_aload_n d_Me_addCatcher_0 rfl ?_
  refine jr_getf d_Me_addCatcher_1 f_Me_addCatcher_22 hM rfl ?_
  refine jr_aload_n d_Me_addCatcher_4 rfl ?_
  refine jr_getf d_Me_addCatcher_5 f_Me_addCatcher_34 hM rfl ?_
  refine jr_iload_n d_Me_addCatcher_8 rfl ?_
  refine jr_bipush ((nI (32))) d_Me_addCatcher_9 (by decide) ?_
  refine jr_idivN d_Me_addCatcher_11 (by omega) (by omega) (by omega) ?_
  refine jr_iastN d_Me_addCatcher_12 g3 (by omega) (by omega) ?_
  rw [show upd (fun j => nI (fr j)) (nc) ((nI ((sp) / (32)))) = (fun j => nI ((va_up fr (nc) ((sp) / (32))) j)) from nI_up fr (nc) ((sp) / (32))]
  show jl_W l G m_Me_addCatcher (0, 0) 13 [some (.ref a), some (.int (nI sp)), some (.int (nI tr)), some (.int (nI ki))] [] (σ.set (a + 3) (.inl (0, 2, .inl (fun j => nI ((va_up fr (nc) ((sp) / (32))) j))))) (.inl (some (.int (nI (nc + 1))))) (((((σ.set (a + 3) (.inl (0, 2, .inl fun j => nI (va_up fr nc (sp / 32) j)))).set (a + 4) (.inl (0, 2, .inl fun j => nI (va_up tt nc (sp % 32) j)))).set (a + 5) (.inl (0, 2, .inl fun j => nI (va_up tg nc tr j)))).set (a + 6) (.inl (0, 2, .inl fun j => nI (va_up kd nc ki j)))).set a (.inr (2, [.int (en q1), .int (en q2), .int (nI rs), .ref (a + 1), .ref (a + 2), .int (nI (sz)), .ref (a + 3), .ref (a + 4), .ref (a + 5), .ref (a + 6), .int (nI (nc + 1)), .ref (a + 7), .ref (a + 8)])))
  refine jr_aload_n d_Me_addCatcher_13 rfl ?_
  refine jr_getf d_Me_addCatcher_14 f_Me_addCatcher_25 (jl_sn (by omega) hM) rfl ?_
  refine jr_aload_n d_Me_addCatcher_17 rfl ?_
  refine jr_getf d_Me_addCatcher_18 f_Me_addCatcher_34 (jl_sn (by omega) hM) rfl ?_
  refine jr_iload_n d_Me_addCatcher_21 rfl ?_
  refine jr_bipush ((nI (32))) d_Me_addCatcher_22 (by decide) ?_
  refine jr_iremN d_Me_addCatcher_24 (by omega) (by omega) (by omega) ?_
  refine jr_iastN d_Me_addCatcher_25 (jl_sn (by omega) g4) (by omega) (by omega) ?_
  rw [show upd (fun j => nI (tt j)) (nc) ((nI ((sp) % (32)))) = (fun j => nI ((va_up tt (nc) ((sp) % (32))) j)) from nI_up tt (nc) ((sp) % (32))]
  show jl_W l G m_Me_addCatcher (0, 0) 26 [some (.ref a), some (.int (nI sp)), some (.int (nI tr)), some (.int (nI ki))] [] ((σ.set (a + 3) (.inl (0, 2, .inl (fun j => nI ((va_up fr (nc) ((sp) / (32))) j))))).set (a + 4) (.inl (0, 2, .inl (fun j => nI ((va_up tt (nc) ((sp) % (32))) j))))) (.inl (some (.int (nI (nc + 1))))) (((((σ.set (a + 3) (.inl (0, 2, .inl fun j => nI (va_up fr nc (sp / 32) j)))).set (a + 4) (.inl (0, 2, .inl fun j => nI (va_up tt nc (sp % 32) j)))).set (a + 5) (.inl (0, 2, .inl fun j => nI (va_up tg nc tr j)))).set (a + 6) (.inl (0, 2, .inl fun j => nI (va_up kd nc ki j)))).set a (.inr (2, [.int (en q1), .int (en q2), .int (nI rs), .ref (a + 1), .ref (a + 2), .int (nI (sz)), .ref (a + 3), .ref (a + 4), .ref (a + 5), .ref (a + 6), .int (nI (nc + 1)), .ref (a + 7), .ref (a + 8)])))
  refine jr_aload_n d_Me_addCatcher_26 rfl ?_
  refine jr_getf d_Me_addCatcher_27 f_Me_addCatcher_28 (jl_sn (by omega) (jl_sn (by omega) hM)) rfl ?_
  refine jr_aload_n d_Me_addCatcher_30 rfl ?_
  refine jr_getf d_Me_addCatcher_31 f_Me_addCatcher_34 (jl_sn (by omega) (jl_sn (by omega) hM)) rfl ?_
  refine jr_iload_n d_Me_addCatcher_34 rfl ?_
  refine jr_iastN d_Me_addCatcher_35 (jl_sn (by omega) (jl_sn (by omega) g5)) (by omega) (by omega) ?_
  rw [show upd (fun j => nI (tg j)) (nc) ((nI (tr))) = (fun j => nI ((va_up tg (nc) (tr)) j)) from nI_up tg (nc) (tr)]
  show jl_W l G m_Me_addCatcher (0, 0) 36 [some (.ref a), some (.int (nI sp)), some (.int (nI tr)), some (.int (nI ki))] [] (((σ.set (a + 3) (.inl (0, 2, .inl (fun j => nI ((va_up fr (nc) ((sp) / (32))) j))))).set (a + 4) (.inl (0, 2, .inl (fun j => nI ((va_up tt (nc) ((sp) % (32))) j))))).set (a + 5) (.inl (0, 2, .inl (fun j => nI ((va_up tg (nc) (tr)) j))))) (.inl (some (.int (nI (nc + 1))))) (((((σ.set (a + 3) (.inl (0, 2, .inl fun j => nI (va_up fr nc (sp / 32) j)))).set (a + 4) (.inl (0, 2, .inl fun j => nI (va_up tt nc (sp % 32) j)))).set (a + 5) (.inl (0, 2, .inl fun j => nI (va_up tg nc tr j)))).set (a + 6) (.inl (0, 2, .inl fun j => nI (va_up kd nc ki j)))).set a (.inr (2, [.int (en q1), .int (en q2), .int (nI rs), .ref (a + 1), .ref (a + 2), .int (nI (sz)), .ref (a + 3), .ref (a + 4), .ref (a + 5), .ref (a + 6), .int (nI (nc + 1)), .ref (a + 7), .ref (a + 8)])))
  refine jr_aload_n d_Me_addCatcher_36 rfl ?_
  refine jr_getf d_Me_addCatcher_37 f_Me_addCatcher_31 (jl_sn (by omega) (jl_sn (by omega) (jl_sn (by omega) hM))) rfl ?_
  refine jr_aload_n d_Me_addCatcher_40 rfl ?_
  refine jr_getf d_Me_addCatcher_41 f_Me_addCatcher_34 (jl_sn (by omega) (jl_sn (by omega) (jl_sn (by omega) hM))) rfl ?_
  refine jr_iload_n d_Me_addCatcher_44 rfl ?_
  refine jr_iastN d_Me_addCatcher_45 (jl_sn (by omega) (jl_sn (by omega) (jl_sn (by omega) g6))) (by omega) (by omega) ?_
  rw [show upd (fun j => nI (kd j)) (nc) ((nI (ki))) = (fun j => nI ((va_up kd (nc) (ki)) j)) from nI_up kd (nc) (ki)]
  show jl_W l G m_Me_addCatcher (0, 0) 46 [some (.ref a), some (.int (nI sp)), some (.int (nI tr)), some (.int (nI ki))] [] ((((σ.set (a + 3) (.inl (0, 2, .inl (fun j => nI ((va_up fr (nc) ((sp) / (32))) j))))).set (a + 4) (.inl (0, 2, .inl (fun j => nI ((va_up tt (nc) ((sp) % (32))) j))))).set (a + 5) (.inl (0, 2, .inl (fun j => nI ((va_up tg (nc) (tr)) j))))).set (a + 6) (.inl (0, 2, .inl (fun j => nI ((va_up kd (nc) (ki)) j))))) (.inl (some (.int (nI (nc + 1))))) (((((σ.set (a + 3) (.inl (0, 2, .inl fun j => nI (va_up fr nc (sp / 32) j)))).set (a + 4) (.inl (0, 2, .inl fun j => nI (va_up tt nc (sp % 32) j)))).set (a + 5) (.inl (0, 2, .inl fun j => nI (va_up tg nc tr j)))).set (a + 6) (.inl (0, 2, .inl fun j => nI (va_up kd nc ki j)))).set a (.inr (2, [.int (en q1), .int (en q2), .int (nI rs), .ref (a + 1), .ref (a + 2), .int (nI (sz)), .ref (a + 3), .ref (a + 4), .ref (a + 5), .ref (a + 6), .int (nI (nc + 1)), .ref (a + 7), .ref (a + 8)])))
  refine jr_aload_n d_Me_addCatcher_46 rfl ?_
  refine jr_dup d_Me_addCatcher_47 rfl ?_
  refine jr_getf d_Me_addCatcher_48 f_Me_addCatcher_34 (jl_sn (by omega) (jl_sn (by omega) (jl_sn (by omega) (jl_sn (by omega) hM)))) rfl ?_
  refine jr_iconst ((nI (1))) d_Me_addCatcher_51 (by decide) ?_
  refine jr_iaddN d_Me_addCatcher_52 ?_
  refine jr_putf d_Me_addCatcher_53 p_Me_addCatcher_34 (jl_sn (by omega) (jl_sn (by omega) (jl_sn (by omega) (jl_sn (by omega) hM)))) (Nat.le_of_ble_eq_true rfl) jl_fit_int ?_
  show jl_W l G m_Me_addCatcher (0, 0) 56 [some (.ref a), some (.int (nI sp)), some (.int (nI tr)), some (.int (nI ki))] [] (((((σ.set (a + 3) (.inl (0, 2, .inl (fun j => nI ((va_up fr (nc) ((sp) / (32))) j))))).set (a + 4) (.inl (0, 2, .inl (fun j => nI ((va_up tt (nc) ((sp) % (32))) j))))).set (a + 5) (.inl (0, 2, .inl (fun j => nI ((va_up tg (nc) (tr)) j))))).set (a + 6) (.inl (0, 2, .inl (fun j => nI ((va_up kd (nc) (ki)) j))))).set (a) (.inr (2, [.int (en q1), .int (en q2), .int (nI rs), .ref (a + 1), .ref (a + 2), .int (nI sz), .ref (a + 3), .ref (a + 4), .ref (a + 5), .ref (a + 6), .int (nI ((nc) + (1))), .ref (a + 7), .ref (a + 8)]))) (.inl (some (.int (nI (nc + 1))))) (((((σ.set (a + 3) (.inl (0, 2, .inl fun j => nI (va_up fr nc (sp / 32) j)))).set (a + 4) (.inl (0, 2, .inl fun j => nI (va_up tt nc (sp % 32) j)))).set (a + 5) (.inl (0, 2, .inl fun j => nI (va_up tg nc tr j)))).set (a + 6) (.inl (0, 2, .inl fun j => nI (va_up kd nc ki j)))).set a (.inr (2, [.int (en q1), .int (en q2), .int (nI rs), .ref (a + 1), .ref (a + 2), .int (nI (sz)), .ref (a + 3), .ref (a + 4), .ref (a + 5), .ref (a + 6), .int (nI (nc + 1)), .ref (a + 7), .ref (a + 8)])))
  refine jr_aload_n d_Me_addCatcher_56 rfl ?_
  refine jr_getf d_Me_addCatcher_57 f_Me_addCatcher_34 (jl_ss (jl_sn (by omega) (jl_sn (by omega) (jl_sn (by omega) (jl_sn (by omega) hM))))) rfl ?_
  exact jr_iretE d_Me_addCatcher_60 rfl (rfl) (rfl) (by decide) (by decide)
theorem wo_hasT (hl : l.stackTraces = false) {k : Nat} (hw : WoAt σ tb pr ow fi ft mt) (hk : k < 6) (h : tb k = true) : jl_m l G m_Wo_has [.ref 1, .int (nI k)] σ (.inl (some (.int (nI 1)))) σ := by
  have q := wo_hasN (G := G) hl hw hk
  rw [h] at q
  exact q
theorem wo_hasF (hl : l.stackTraces = false) {k : Nat} (hw : WoAt σ tb pr ow fi ft mt) (hk : k < 6) (h : tb k = false) : jl_m l G m_Wo_has [.ref 1, .int (nI k)] σ (.inl (some (.int (nI 0)))) σ := by
  have q := wo_hasN (G := G) hl hw hk
  rw [h] at q
  exact q
theorem wo_ownT (hl : l.stackTraces = false) {k sl : Nat} {r : Option Nat} (hw : WoAt σ tb pr ow fi ft mt) (hk : k < 6) (hs : sl < 4) (h : mt (k * 4 + sl) = r) : jl_m l G m_Wo_own [.ref 1, .int (nI k), .int (nI sl)] σ (.inl (some (va_rf r))) σ := by
  have q := wo_own (G := G) hl hw hk hs
  rw [h] at q
  exact q
theorem jc_there1 (hl : l.stackTraces = false) : jl_m l G m_JC_needThere [.int (nI 1)] σ (.inl none) σ := jc_there (b := true) hl
theorem jc_there0 (hl : l.stackTraces = false) : jl_m l G m_JC_needThere [.int (nI 0)] σ (.inr xN) σ := jc_there (b := false) hl
theorem d_JC_ownMethod_0 : decode m_JC_ownMethod.2.1 0 = .ok (.aload_n 0, 1) := by decide +kernel
theorem f_JC_ownMethod_12 : jl_fd m_JC_ownMethod 12 6 0 = true := by decide +kernel
theorem d_JC_ownMethod_1 : decode m_JC_ownMethod.2.1 1 = .ok (.getfield 12, 3) := by decide +kernel
theorem d_JC_ownMethod_4 : decode m_JC_ownMethod.2.1 4 = .ok (.iload_n 1, 1) := by decide +kernel
theorem k_JC_ownMethod_45 : jl_cv m_JC_ownMethod m_Wo_has 45 1 = true := by decide +kernel
theorem d_JC_ownMethod_5 : decode m_JC_ownMethod.2.1 5 = .ok (.invokevirtual 45, 3) := by decide +kernel
theorem d_JC_ownMethod_8 : decode m_JC_ownMethod.2.1 8 = .ok (.ifCond .eq 15, 3) := by decide +kernel
theorem d_JC_ownMethod_11 : decode m_JC_ownMethod.2.1 11 = .ok (.aload_n 0, 1) := by decide +kernel
theorem d_JC_ownMethod_12 : decode m_JC_ownMethod.2.1 12 = .ok (.getfield 12, 3) := by decide +kernel
theorem d_JC_ownMethod_15 : decode m_JC_ownMethod.2.1 15 = .ok (.iload_n 1, 1) := by decide +kernel
theorem d_JC_ownMethod_16 : decode m_JC_ownMethod.2.1 16 = .ok (.iload_n 2, 1) := by decide +kernel
theorem k_JC_ownMethod_82 : jl_cv m_JC_ownMethod m_Wo_own 82 2 = true := by decide +kernel
theorem d_JC_ownMethod_17 : decode m_JC_ownMethod.2.1 17 = .ok (.invokevirtual 82, 3) := by decide +kernel
theorem d_JC_ownMethod_20 : decode m_JC_ownMethod.2.1 20 = .ok (.goto 4, 3) := by decide +kernel
theorem d_JC_ownMethod_24 : decode m_JC_ownMethod.2.1 24 = .ok (.astore_n 3, 1) := by decide +kernel
theorem d_JC_ownMethod_25 : decode m_JC_ownMethod.2.1 25 = .ok (.aload_n 3, 1) := by decide +kernel
theorem d_JC_ownMethod_26 : decode m_JC_ownMethod.2.1 26 = .ok (.ifnull 7, 3) := by decide +kernel
theorem d_JC_ownMethod_29 : decode m_JC_ownMethod.2.1 29 = .ok (.iconst 1, 1) := by decide +kernel
theorem d_JC_ownMethod_30 : decode m_JC_ownMethod.2.1 30 = .ok (.goto 4, 3) := by decide +kernel
theorem k_JC_ownMethod_65 : jl_cz m_JC_ownMethod m_JC_needThere 65 1 = true := by decide +kernel
theorem d_JC_ownMethod_34 : decode m_JC_ownMethod.2.1 34 = .ok (.invokestatic 65, 3) := by decide +kernel
theorem d_JC_ownMethod_37 : decode m_JC_ownMethod.2.1 37 = .ok (.aload_n 3, 1) := by decide +kernel
theorem d_JC_ownMethod_38 : decode m_JC_ownMethod.2.1 38 = .ok (.areturn, 1) := by decide +kernel
theorem jc_own_T (hl : l.stackTraces = false) {k sl : Nat} (hj : JcAt σ vf) (hw : WoAt σ tb pr ow fi ft mt) (hk : k < 6) (hs : sl < 4) (ht : tb k = true) (hm : mt (k * 4 + sl) = some a) : jl_m l G m_JC_ownMethod [.ref 0, .int (nI k), .int (nI sl)] σ (.inl (some (va_rf (some a)))) (σ) := by
  obtain ⟨hW, h2, h3, h4, h5, h6, h7⟩ := id hw; have h0 := hj
  refine jl_of (as := [.ref 0, .int (nI k), .int (nI sl)]) rfl (by decide) hl (jl_cc rfl (jl_cc rfl (jl_cc rfl jl_ca))) (Nat.le_of_ble_eq_true rfl) ?_
  show jl_W l G m_JC_ownMethod (0, 0) 0 [some (.ref 0), some (.int (nI k)), some (.int (nI sl)), none] [] (σ) (.inl (some (va_rf (some a)))) (σ)
  refine jr_aload_n d_JC_ownMethod_0 rfl ?_
  refine jr_getf d_JC_ownMethod_1 f_JC_ownMethod_12 h0 rfl ?_
  refine jr_iload_n d_JC_ownMethod_4 rfl ?_
  refine jr_callV (As := [.int (nI k)]) d_JC_ownMethod_5 k_JC_ownMethod_45 hW rfl rfl rfl (Nat.le_of_ble_eq_true rfl) (by decide) (by decide) (wo_hasT hl hw hk ht) ?_
  show jl_W l G m_JC_ownMethod (0, 0) 8 [some (.ref 0), some (.int (nI k)), some (.int (nI sl)), none] [.int (nI 1)] (σ) (.inl (some (va_rf (some a)))) (σ)
  refine jr_if_eq 23 d_JC_ownMethod_8 (by decide) (fun z => absurd z (by decide)) (fun _ => ?_)
  refine jr_aload_n d_JC_ownMethod_11 rfl ?_
  refine jr_getf d_JC_ownMethod_12 f_JC_ownMethod_12 h0 rfl ?_
  refine jr_iload_n d_JC_ownMethod_15 rfl ?_
  refine jr_iload_n d_JC_ownMethod_16 rfl ?_
  refine jr_callV (As := [.int (nI k), .int (nI sl)]) d_JC_ownMethod_17 k_JC_ownMethod_82 hW rfl rfl rfl (Nat.le_of_ble_eq_true rfl) (by decide) (by decide) (wo_ownT hl hw hk hs hm) ?_
  show jl_W l G m_JC_ownMethod (0, 0) 20 [some (.ref 0), some (.int (nI k)), some (.int (nI sl)), none] [.ref a] (σ) (.inl (some (va_rf (some a)))) (σ)
  refine jr_goto 24 d_JC_ownMethod_20 (by decide) ?_
  refine jr_astore_n d_JC_ownMethod_24 (by decide) ?_
  show jl_W l G m_JC_ownMethod (0, 0) 25 [some (.ref 0), some (.int (nI k)), some (.int (nI sl)), some (.ref a)] [] (σ) (.inl (some (va_rf (some a)))) (σ)
  refine jr_aload_n d_JC_ownMethod_25 rfl ?_
  refine jr_ifnull d_JC_ownMethod_26 ?_
  refine jr_iconst ((nI (1))) d_JC_ownMethod_29 (by decide) ?_
  refine jr_goto 34 d_JC_ownMethod_30 (by decide) ?_
  refine jr_callS (As := [.int (nI 1)]) d_JC_ownMethod_34 k_JC_ownMethod_65 rfl (Nat.le_of_ble_eq_true rfl) (by decide) (by decide) (jc_there1 hl) ?_
  show jl_W l G m_JC_ownMethod (1, 6) 37 [some (.ref 0), some (.int (nI k)), some (.int (nI sl)), some (.ref a)] [] (σ) (.inl (some (va_rf (some a)))) (σ)
  refine jr_aload_n d_JC_ownMethod_37 rfl ?_
  exact jr_aretE (r := some (a)) d_JC_ownMethod_38 rfl (rfl) (rfl) (by decide) (by decide)
theorem d_JC_ownMethod_23 : decode m_JC_ownMethod.2.1 23 = .ok (.aconst_null, 1) := by decide +kernel
theorem d_JC_ownMethod_33 : decode m_JC_ownMethod.2.1 33 = .ok (.iconst 0, 1) := by decide +kernel
theorem jc_own_X1 (hl : l.stackTraces = false) {k sl : Nat} (hj : JcAt σ vf) (hw : WoAt σ tb pr ow fi ft mt) (hk : k < 6) (hs : sl < 4) (ht : tb k = false) : jl_m l G m_JC_ownMethod [.ref 0, .int (nI k), .int (nI sl)] σ (.inr xN) (σ) := by
  obtain ⟨hW, h2, h3, h4, h5, h6, h7⟩ := id hw; have h0 := hj
  refine jl_of (as := [.ref 0, .int (nI k), .int (nI sl)]) rfl (by decide) hl (jl_cc rfl (jl_cc rfl (jl_cc rfl jl_ca))) (Nat.le_of_ble_eq_true rfl) ?_
  show jl_W l G m_JC_ownMethod (0, 0) 0 [some (.ref 0), some (.int (nI k)), some (.int (nI sl)), none] [] (σ) (.inr xN) (σ)
  refine jr_aload_n d_JC_ownMethod_0 rfl ?_
  refine jr_getf d_JC_ownMethod_1 f_JC_ownMethod_12 h0 rfl ?_
  refine jr_iload_n d_JC_ownMethod_4 rfl ?_
  refine jr_callV (As := [.int (nI k)]) d_JC_ownMethod_5 k_JC_ownMethod_45 hW rfl rfl rfl (Nat.le_of_ble_eq_true rfl) (by decide) (by decide) (wo_hasF hl hw hk ht) ?_
  show jl_W l G m_JC_ownMethod (0, 0) 8 [some (.ref 0), some (.int (nI k)), some (.int (nI sl)), none] [.int (nI 0)] (σ) (.inr xN) (σ)
  refine jr_if_eq 23 d_JC_ownMethod_8 (by decide) (fun _ => ?_) (fun z => absurd (by decide) z)
  refine jr_null d_JC_ownMethod_23 ?_
  refine jr_astore_nN d_JC_ownMethod_24 (by decide) ?_
  show jl_W l G m_JC_ownMethod (0, 0) 25 [some (.ref 0), some (.int (nI k)), some (.int (nI sl)), some (.null)] [] (σ) (.inr xN) (σ)
  refine jr_aload_nN d_JC_ownMethod_25 rfl ?_
  refine jr_ifnullN 33 d_JC_ownMethod_26 (by decide) ?_
  refine jr_iconst ((nI (0))) d_JC_ownMethod_33 (by decide) ?_
  exact jl_oeq (rfl) (jl_seq (rfl) (jr_callSX (As := [.int (nI 0)]) d_JC_ownMethod_34 k_JC_ownMethod_65 rfl rfl (Nat.le_of_ble_eq_true rfl) (by decide) (by decide) (jc_there0 hl)))
theorem jc_own_X2 (hl : l.stackTraces = false) {k sl : Nat} (hj : JcAt σ vf) (hw : WoAt σ tb pr ow fi ft mt) (hk : k < 6) (hs : sl < 4) (ht : tb k = true) (hm : mt (k * 4 + sl) = none) : jl_m l G m_JC_ownMethod [.ref 0, .int (nI k), .int (nI sl)] σ (.inr xN) (σ) := by
  obtain ⟨hW, h2, h3, h4, h5, h6, h7⟩ := id hw; have h0 := hj
  refine jl_of (as := [.ref 0, .int (nI k), .int (nI sl)]) rfl (by decide) hl (jl_cc rfl (jl_cc rfl (jl_cc rfl jl_ca))) (Nat.le_of_ble_eq_true rfl) ?_
  show jl_W l G m_JC_ownMethod (0, 0) 0 [some (.ref 0), some (.int (nI k)), some (.int (nI sl)), none] [] (σ) (.inr xN) (σ)
  refine jr_aload_n d_JC_ownMethod_0 rfl ?_
  refine jr_getf d_JC_ownMethod_1 f_JC_ownMethod_12 h0 rfl ?_
  refine jr_iload_n d_JC_ownMethod_4 rfl ?_
  refine jr_callV (As := [.int (nI k)]) d_JC_ownMethod_5 k_JC_ownMethod_45 hW rfl rfl rfl (Nat.le_of_ble_eq_true rfl) (by decide) (by decide) (wo_hasT hl hw hk ht) ?_
  show jl_W l G m_JC_ownMethod (0, 0) 8 [some (.ref 0), some (.int (nI k)), some (.int (nI sl)), none] [.int (nI 1)] (σ) (.inr xN) (σ)
  refine jr_if_eq 23 d_JC_ownMethod_8 (by decide) (fun z => absurd z (by decide)) (fun _ => ?_)
  refine jr_aload_n d_JC_ownMethod_11 rfl ?_
  refine jr_getf d_JC_ownMethod_12 f_JC_ownMethod_12 h0 rfl ?_
  refine jr_iload_n d_JC_ownMethod_15 rfl ?_
  refine jr_iload_n d_JC_ownMethod_16 rfl ?_
  refine jr_callV (As := [.int (nI k), .int (nI sl)]) d_JC_ownMethod_17 k_JC_ownMethod_82 hW rfl rfl rfl (Nat.le_of_ble_eq_true rfl) (by decide) (by decide) (wo_ownT hl hw hk hs hm) ?_
  show jl_W l G m_JC_ownMethod (0, 0) 20 [some (.ref 0), some (.int (nI k)), some (.int (nI sl)), none] [.null] (σ) (.inr xN) (σ)
  refine jr_goto 24 d_JC_ownMethod_20 (by decide) ?_
  refine jr_astore_nN d_JC_ownMethod_24 (by decide) ?_
  show jl_W l G m_JC_ownMethod (0, 0) 25 [some (.ref 0), some (.int (nI k)), some (.int (nI sl)), some (.null)] [] (σ) (.inr xN) (σ)
  refine jr_aload_nN d_JC_ownMethod_25 rfl ?_
  refine jr_ifnullN 33 d_JC_ownMethod_26 (by decide) ?_
  refine jr_iconst ((nI (0))) d_JC_ownMethod_33 (by decide) ?_
  exact jl_oeq (rfl) (jl_seq (rfl) (jr_callSX (As := [.int (nI 0)]) d_JC_ownMethod_34 k_JC_ownMethod_65 rfl rfl (Nat.le_of_ble_eq_true rfl) (by decide) (by decide) (jc_there0 hl)))
theorem jc_own_X (hl : l.stackTraces = false) {k sl : Nat} (hj : JcAt σ vf) (hw : WoAt σ tb pr ow fi ft mt) (hk : k < 6) (hs : sl < 4) (h : tb k = false ∨ mt (k * 4 + sl) = none) : jl_m l G m_JC_ownMethod [.ref 0, .int (nI k), .int (nI sl)] σ (.inr xN) σ := by
  cases ht : tb k with
  | false => exact jc_own_X1 hl hj hw hk hs ht
  | true => exact jc_own_X2 hl hj hw hk hs ht (h.elim (fun q => by rw [ht] at q; cases q) id)
theorem d_JC_code_0 : decode m_JC_code.2.1 0 = .ok (.iload_n 1, 1) := by decide +kernel
theorem d_JC_code_1 : decode m_JC_code.2.1 1 = .ok (.iconst 0, 1) := by decide +kernel
theorem d_JC_code_2 : decode m_JC_code.2.1 2 = .ok (.iconst 5, 1) := by decide +kernel
theorem k_JC_code_41 : jl_cz m_JC_code m_JC_needRange 41 3 = true := by decide +kernel
theorem d_JC_code_3 : decode m_JC_code.2.1 3 = .ok (.invokestatic 41, 3) := by decide +kernel
theorem jc_code_A1 (hl : l.stackTraces = false) {k sl o x : Int32} (hj : JcAt σ vf) (hw : WoAt σ tb pr ow fi ft mt) (h : k < nI 0 ∨ nI 5 < k) : jl_m l G m_JC_code [.ref 0, .int (k), .int (sl), .int (o), .int (x)] σ (.inr xA) (σ) := by
  obtain ⟨hW, h2, h3, h4, h5, h6, h7⟩ := id hw; have h0 := hj
  refine jl_of (as := [.ref 0, .int (k), .int (sl), .int (o), .int (x)]) rfl (by decide) hl (jl_cc rfl (jl_cc rfl (jl_cc rfl (jl_cc rfl (jl_cc rfl jl_ca))))) (Nat.le_of_ble_eq_true rfl) ?_
  show jl_W l G m_JC_code (0, 0) 0 [some (.ref 0), some (.int (k)), some (.int (sl)), some (.int (o)), some (.int (x)), none] [] (σ) (.inr xA) (σ)
  refine jr_iload_n d_JC_code_0 rfl ?_
  refine jr_iconst ((nI (0))) d_JC_code_1 (by decide) ?_
  refine jr_iconst ((nI (5))) d_JC_code_2 (by decide) ?_
  exact jl_oeq (rfl) (jl_seq (rfl) (jr_callSX (As := [.int (k), .int (nI 0), .int (nI 5)]) d_JC_code_3 k_JC_code_41 rfl rfl (Nat.le_of_ble_eq_true rfl) (by decide) (by decide) (jc_rangeX hl h)))
theorem d_JC_code_6 : decode m_JC_code.2.1 6 = .ok (.iload_n 2, 1) := by decide +kernel
theorem d_JC_code_7 : decode m_JC_code.2.1 7 = .ok (.iconst 0, 1) := by decide +kernel
theorem d_JC_code_8 : decode m_JC_code.2.1 8 = .ok (.iconst 3, 1) := by decide +kernel
theorem d_JC_code_9 : decode m_JC_code.2.1 9 = .ok (.invokestatic 41, 3) := by decide +kernel
theorem jc_code_A2 (hl : l.stackTraces = false) {k : Nat} {sl o x : Int32} (hj : JcAt σ vf) (hw : WoAt σ tb pr ow fi ft mt) (hk : k < 6) (h : sl < nI 0 ∨ nI 3 < sl) : jl_m l G m_JC_code [.ref 0, .int (nI k), .int (sl), .int (o), .int (x)] σ (.inr xA) (σ) := by
  obtain ⟨hW, h2, h3, h4, h5, h6, h7⟩ := id hw; have h0 := hj
  refine jl_of (as := [.ref 0, .int (nI k), .int (sl), .int (o), .int (x)]) rfl (by decide) hl (jl_cc rfl (jl_cc rfl (jl_cc rfl (jl_cc rfl (jl_cc rfl jl_ca))))) (Nat.le_of_ble_eq_true rfl) ?_
  show jl_W l G m_JC_code (0, 0) 0 [some (.ref 0), some (.int (nI k)), some (.int (sl)), some (.int (o)), some (.int (x)), none] [] (σ) (.inr xA) (σ)
  refine jr_iload_n d_JC_code_0 rfl ?_
  refine jr_iconst ((nI (0))) d_JC_code_1 (by decide) ?_
  refine jr_iconst ((nI (5))) d_JC_code_2 (by decide) ?_
  refine jr_callS (As := [.int (nI k), .int (nI 0), .int (nI 5)]) d_JC_code_3 k_JC_code_41 rfl (Nat.le_of_ble_eq_true rfl) (by decide) (by decide) (jc_range hl (rg_ok (by omega) (by decide))) ?_
  show jl_W l G m_JC_code (1, 6) 6 [some (.ref 0), some (.int (nI k)), some (.int (sl)), some (.int (o)), some (.int (x)), none] [] (σ) (.inr xA) (σ)
  refine jr_iload_n d_JC_code_6 rfl ?_
  refine jr_iconst ((nI (0))) d_JC_code_7 (by decide) ?_
  refine jr_iconst ((nI (3))) d_JC_code_8 (by decide) ?_
  exact jl_oeq (rfl) (jl_seq (rfl) (jr_callSX (As := [.int (sl), .int (nI 0), .int (nI 3)]) d_JC_code_9 k_JC_code_41 rfl rfl (Nat.le_of_ble_eq_true rfl) (by decide) (by decide) (jc_rangeX hl h)))
theorem d_JC_code_12 : decode m_JC_code.2.1 12 = .ok (.iload_n 3, 1) := by decide +kernel
theorem d_JC_code_13 : decode m_JC_code.2.1 13 = .ok (.iconst 0, 1) := by decide +kernel
theorem d_JC_code_14 : decode m_JC_code.2.1 14 = .ok (.bipush 25, 2) := by decide +kernel
theorem d_JC_code_16 : decode m_JC_code.2.1 16 = .ok (.invokestatic 41, 3) := by decide +kernel
theorem jc_code_A3 (hl : l.stackTraces = false) {k sl : Nat} {o x : Int32} (hj : JcAt σ vf) (hw : WoAt σ tb pr ow fi ft mt) (hk : k < 6) (hs : sl < 4) (h : o < nI 0 ∨ nI 25 < o) : jl_m l G m_JC_code [.ref 0, .int (nI k), .int (nI sl), .int (o), .int (x)] σ (.inr xA) (σ) := by
  obtain ⟨hW, h2, h3, h4, h5, h6, h7⟩ := id hw; have h0 := hj
  refine jl_of (as := [.ref 0, .int (nI k), .int (nI sl), .int (o), .int (x)]) rfl (by decide) hl (jl_cc rfl (jl_cc rfl (jl_cc rfl (jl_cc rfl (jl_cc rfl jl_ca))))) (Nat.le_of_ble_eq_true rfl) ?_
  show jl_W l G m_JC_code (0, 0) 0 [some (.ref 0), some (.int (nI k)), some (.int (nI sl)), some (.int (o)), some (.int (x)), none] [] (σ) (.inr xA) (σ)
  refine jr_iload_n d_JC_code_0 rfl ?_
  refine jr_iconst ((nI (0))) d_JC_code_1 (by decide) ?_
  refine jr_iconst ((nI (5))) d_JC_code_2 (by decide) ?_
  refine jr_callS (As := [.int (nI k), .int (nI 0), .int (nI 5)]) d_JC_code_3 k_JC_code_41 rfl (Nat.le_of_ble_eq_true rfl) (by decide) (by decide) (jc_range hl (rg_ok (by omega) (by decide))) ?_
  show jl_W l G m_JC_code (1, 6) 6 [some (.ref 0), some (.int (nI k)), some (.int (nI sl)), some (.int (o)), some (.int (x)), none] [] (σ) (.inr xA) (σ)
  refine jr_iload_n d_JC_code_6 rfl ?_
  refine jr_iconst ((nI (0))) d_JC_code_7 (by decide) ?_
  refine jr_iconst ((nI (3))) d_JC_code_8 (by decide) ?_
  refine jr_callS (As := [.int (nI sl), .int (nI 0), .int (nI 3)]) d_JC_code_9 k_JC_code_41 rfl (Nat.le_of_ble_eq_true rfl) (by decide) (by decide) (jc_range hl (rg_ok (by omega) (by decide))) ?_
  show jl_W l G m_JC_code (2, 12) 12 [some (.ref 0), some (.int (nI k)), some (.int (nI sl)), some (.int (o)), some (.int (x)), none] [] (σ) (.inr xA) (σ)
  refine jr_iload_n d_JC_code_12 rfl ?_
  refine jr_iconst ((nI (0))) d_JC_code_13 (by decide) ?_
  refine jr_bipush ((nI (25))) d_JC_code_14 (by decide) ?_
  exact jl_oeq (rfl) (jl_seq (rfl) (jr_callSX (As := [.int (o), .int (nI 0), .int (nI 25)]) d_JC_code_16 k_JC_code_41 rfl rfl (Nat.le_of_ble_eq_true rfl) (by decide) (by decide) (jc_rangeX hl h)))
theorem d_JC_code_19 : decode m_JC_code.2.1 19 = .ok (.aload_n 0, 1) := by decide +kernel
theorem d_JC_code_20 : decode m_JC_code.2.1 20 = .ok (.iload_n 1, 1) := by decide +kernel
theorem d_JC_code_21 : decode m_JC_code.2.1 21 = .ok (.iload_n 2, 1) := by decide +kernel
theorem k_JC_code_102 : jl_cv m_JC_code m_JC_ownMethod 102 2 = true := by decide +kernel
theorem d_JC_code_22 : decode m_JC_code.2.1 22 = .ok (.invokevirtual 102, 3) := by decide +kernel
theorem jc_code_N (hl : l.stackTraces = false) {k sl o : Nat} {x : Int32} (hj : JcAt σ vf) (hw : WoAt σ tb pr ow fi ft mt) (hk : k < 6) (hs : sl < 4) (ho : o < 26) (h : tb k = false ∨ mt (k * 4 + sl) = none) : jl_m l G m_JC_code [.ref 0, .int (nI k), .int (nI sl), .int (nI o), .int (x)] σ (.inr xN) (σ) := by
  obtain ⟨hW, h2, h3, h4, h5, h6, h7⟩ := id hw; have h0 := hj
  refine jl_of (as := [.ref 0, .int (nI k), .int (nI sl), .int (nI o), .int (x)]) rfl (by decide) hl (jl_cc rfl (jl_cc rfl (jl_cc rfl (jl_cc rfl (jl_cc rfl jl_ca))))) (Nat.le_of_ble_eq_true rfl) ?_
  show jl_W l G m_JC_code (0, 0) 0 [some (.ref 0), some (.int (nI k)), some (.int (nI sl)), some (.int (nI o)), some (.int (x)), none] [] (σ) (.inr xN) (σ)
  refine jr_iload_n d_JC_code_0 rfl ?_
  refine jr_iconst ((nI (0))) d_JC_code_1 (by decide) ?_
  refine jr_iconst ((nI (5))) d_JC_code_2 (by decide) ?_
  refine jr_callS (As := [.int (nI k), .int (nI 0), .int (nI 5)]) d_JC_code_3 k_JC_code_41 rfl (Nat.le_of_ble_eq_true rfl) (by decide) (by decide) (jc_range hl (rg_ok (by omega) (by decide))) ?_
  show jl_W l G m_JC_code (1, 6) 6 [some (.ref 0), some (.int (nI k)), some (.int (nI sl)), some (.int (nI o)), some (.int (x)), none] [] (σ) (.inr xN) (σ)
  refine jr_iload_n d_JC_code_6 rfl ?_
  refine jr_iconst ((nI (0))) d_JC_code_7 (by decide) ?_
  refine jr_iconst ((nI (3))) d_JC_code_8 (by decide) ?_
  refine jr_callS (As := [.int (nI sl), .int (nI 0), .int (nI 3)]) d_JC_code_9 k_JC_code_41 rfl (Nat.le_of_ble_eq_true rfl) (by decide) (by decide) (jc_range hl (rg_ok (by omega) (by decide))) ?_
  show jl_W l G m_JC_code (2, 12) 12 [some (.ref 0), some (.int (nI k)), some (.int (nI sl)), some (.int (nI o)), some (.int (x)), none] [] (σ) (.inr xN) (σ)
  refine jr_iload_n d_JC_code_12 rfl ?_
  refine jr_iconst ((nI (0))) d_JC_code_13 (by decide) ?_
  refine jr_bipush ((nI (25))) d_JC_code_14 (by decide) ?_
  refine jr_callS (As := [.int (nI o), .int (nI 0), .int (nI 25)]) d_JC_code_16 k_JC_code_41 rfl (Nat.le_of_ble_eq_true rfl) (by decide) (by decide) (jc_range hl (rg_ok (by omega) (by decide))) ?_
  show jl_W l G m_JC_code (3, 18) 19 [some (.ref 0), some (.int (nI k)), some (.int (nI sl)), some (.int (nI o)), some (.int (x)), none] [] (σ) (.inr xN) (σ)
  refine jr_aload_n d_JC_code_19 rfl ?_
  refine jr_iload_n d_JC_code_20 rfl ?_
  refine jr_iload_n d_JC_code_21 rfl ?_
  exact jl_oeq (rfl) (jl_seq (rfl) (jr_callVX (As := [.int (nI k), .int (nI sl)]) d_JC_code_22 k_JC_code_102 rfl h0 rfl rfl rfl (Nat.le_of_ble_eq_true rfl) (by decide) (by decide) (jc_own_X hl hj hw hk hs h)))
theorem d_JC_code_25 : decode m_JC_code.2.1 25 = .ok (.astore 5, 2) := by decide +kernel
theorem d_JC_code_27 : decode m_JC_code.2.1 27 = .ok (.aload 5, 2) := by decide +kernel
theorem f_JC_code_105 : jl_fd m_JC_code 105 2 5 = true := by decide +kernel
theorem d_JC_code_29 : decode m_JC_code.2.1 29 = .ok (.getfield 105, 3) := by decide +kernel
theorem d_JC_code_32 : decode m_JC_code.2.1 32 = .ok (.bipush 24, 2) := by decide +kernel
theorem d_JC_code_34 : decode m_JC_code.2.1 34 = .ok (.if_icmp .ge 7, 3) := by decide +kernel
theorem d_JC_code_41 : decode m_JC_code.2.1 41 = .ok (.iconst 0, 1) := by decide +kernel
theorem k_JC_code_49 : jl_cz m_JC_code m_JC_needState 49 1 = true := by decide +kernel
theorem d_JC_code_42 : decode m_JC_code.2.1 42 = .ok (.invokestatic 49, 3) := by decide +kernel
theorem d_JC_code_37 : decode m_JC_code.2.1 37 = .ok (.iconst 1, 1) := by decide +kernel
theorem d_JC_code_38 : decode m_JC_code.2.1 38 = .ok (.goto 4, 3) := by decide +kernel
theorem d_JC_code_45 : decode m_JC_code.2.1 45 = .ok (.aload_n 0, 1) := by decide +kernel
theorem d_JC_code_46 : decode m_JC_code.2.1 46 = .ok (.iconst 0, 1) := by decide +kernel
theorem p_JC_code_37 : jl_fp m_JC_code 37 6 3 = true := by decide +kernel
theorem d_JC_code_47 : decode m_JC_code.2.1 47 = .ok (.putfield 37, 3) := by decide +kernel
theorem d_JC_code_50 : decode m_JC_code.2.1 50 = .ok (.aload 5, 2) := by decide +kernel
theorem d_JC_code_52 : decode m_JC_code.2.1 52 = .ok (.iload_n 3, 1) := by decide +kernel
theorem d_JC_code_53 : decode m_JC_code.2.1 53 = .ok (.iload 4, 2) := by decide +kernel
theorem k_JC_code_109 : jl_cv m_JC_code m_Me_addInstruction 109 2 = true := by decide +kernel
theorem d_JC_code_55 : decode m_JC_code.2.1 55 = .ok (.invokevirtual 109, 3) := by decide +kernel
theorem d_JC_code_58 : decode m_JC_code.2.1 58 = .ok (.ireturn, 1) := by decide +kernel
theorem jc_code (hl : l.stackTraces = false) {k sl o : Nat} {x : Int32} (hj : JcAt σ vf) (hw : WoAt σ tb pr ow fi ft mt) (hm : MeAt σ a q1 q2 rs op ag sz fr tt tg kd nc mp fh) (hk : k < 6) (hs : sl < 4) (ho : o < 26) (ht : tb k = true) (hq : mt (k * 4 + sl) = some a) (ha : 53 ≤ a) (hsz : sz ≤ 24) : jl_m l G m_JC_code [.ref 0, .int (nI k), .int (nI sl), .int (nI o), .int (x)] σ (if sz < 24 then .inl (some (.int (nI sz))) else .inr xS) (if sz < 24 then (((σ.set 0 (.inr (6, [.ref 1, .ref 9, .ref 13, .int (nI 0)]))).set (a + 1) (.inl (0, 24, .inl fun j => nI (va_up op sz o j)))).set (a + 2) (.inl (0, 24, .inl (upd ag sz x)))).set a (.inr (2, [.int (en q1), .int (en q2), .int (nI rs), .ref (a + 1), .ref (a + 2), .int (nI (sz + 1)), .ref (a + 3), .ref (a + 4), .ref (a + 5), .ref (a + 6), .int (nI (nc)), .ref (a + 7), .ref (a + 8)])) else σ) := by
  obtain ⟨hW, h2, h3, h4, h5, h6, h7⟩ := id hw; have h0 := hj; obtain ⟨hM, g1, g2, g3, g4, g5, g6, g7, g8⟩ := id hm
  refine jl_of (as := [.ref 0, .int (nI k), .int (nI sl), .int (nI o), .int (x)]) rfl (by decide) hl (jl_cc rfl (jl_cc rfl (jl_cc rfl (jl_cc rfl (jl_cc rfl jl_ca))))) (Nat.le_of_ble_eq_true rfl) ?_
  show jl_W l G m_JC_code (0, 0) 0 [some (.ref 0), some (.int (nI k)), some (.int (nI sl)), some (.int (nI o)), some (.int (x)), none] [] (σ) (if sz < 24 then .inl (some (.int (nI sz))) else .inr xS) (if sz < 24 then (((σ.set 0 (.inr (6, [.ref 1, .ref 9, .ref 13, .int (nI 0)]))).set (a + 1) (.inl (0, 24, .inl fun j => nI (va_up op sz o j)))).set (a + 2) (.inl (0, 24, .inl (upd ag sz x)))).set a (.inr (2, [.int (en q1), .int (en q2), .int (nI rs), .ref (a + 1), .ref (a + 2), .int (nI (sz + 1)), .ref (a + 3), .ref (a + 4), .ref (a + 5), .ref (a + 6), .int (nI (nc)), .ref (a + 7), .ref (a + 8)])) else σ)
  refine jr_iload_n d_JC_code_0 rfl ?_
  refine jr_iconst ((nI (0))) d_JC_code_1 (by decide) ?_
  refine jr_iconst ((nI (5))) d_JC_code_2 (by decide) ?_
  refine jr_callS (As := [.int (nI k), .int (nI 0), .int (nI 5)]) d_JC_code_3 k_JC_code_41 rfl (Nat.le_of_ble_eq_true rfl) (by decide) (by decide) (jc_range hl (rg_ok (by omega) (by decide))) ?_
  show jl_W l G m_JC_code (1, 6) 6 [some (.ref 0), some (.int (nI k)), some (.int (nI sl)), some (.int (nI o)), some (.int (x)), none] [] (σ) (if sz < 24 then .inl (some (.int (nI sz))) else .inr xS) (if sz < 24 then (((σ.set 0 (.inr (6, [.ref 1, .ref 9, .ref 13, .int (nI 0)]))).set (a + 1) (.inl (0, 24, .inl fun j => nI (va_up op sz o j)))).set (a + 2) (.inl (0, 24, .inl (upd ag sz x)))).set a (.inr (2, [.int (en q1), .int (en q2), .int (nI rs), .ref (a + 1), .ref (a + 2), .int (nI (sz + 1)), .ref (a + 3), .ref (a + 4), .ref (a + 5), .ref (a + 6), .int (nI (nc)), .ref (a + 7), .ref (a + 8)])) else σ)
  refine jr_iload_n d_JC_code_6 rfl ?_
  refine jr_iconst ((nI (0))) d_JC_code_7 (by decide) ?_
  refine jr_iconst ((nI (3))) d_JC_code_8 (by decide) ?_
  refine jr_callS (As := [.int (nI sl), .int (nI 0), .int (nI 3)]) d_JC_code_9 k_JC_code_41 rfl (Nat.le_of_ble_eq_true rfl) (by decide) (by decide) (jc_range hl (rg_ok (by omega) (by decide))) ?_
  show jl_W l G m_JC_code (2, 12) 12 [some (.ref 0), some (.int (nI k)), some (.int (nI sl)), some (.int (nI o)), some (.int (x)), none] [] (σ) (if sz < 24 then .inl (some (.int (nI sz))) else .inr xS) (if sz < 24 then (((σ.set 0 (.inr (6, [.ref 1, .ref 9, .ref 13, .int (nI 0)]))).set (a + 1) (.inl (0, 24, .inl fun j => nI (va_up op sz o j)))).set (a + 2) (.inl (0, 24, .inl (upd ag sz x)))).set a (.inr (2, [.int (en q1), .int (en q2), .int (nI rs), .ref (a + 1), .ref (a + 2), .int (nI (sz + 1)), .ref (a + 3), .ref (a + 4), .ref (a + 5), .ref (a + 6), .int (nI (nc)), .ref (a + 7), .ref (a + 8)])) else σ)
  refine jr_iload_n d_JC_code_12 rfl ?_
  refine jr_iconst ((nI (0))) d_JC_code_13 (by decide) ?_
  refine jr_bipush ((nI (25))) d_JC_code_14 (by decide) ?_
  refine jr_callS (As := [.int (nI o), .int (nI 0), .int (nI 25)]) d_JC_code_16 k_JC_code_41 rfl (Nat.le_of_ble_eq_true rfl) (by decide) (by decide) (jc_range hl (rg_ok (by omega) (by decide))) ?_
  show jl_W l G m_JC_code (3, 18) 19 [some (.ref 0), some (.int (nI k)), some (.int (nI sl)), some (.int (nI o)), some (.int (x)), none] [] (σ) (if sz < 24 then .inl (some (.int (nI sz))) else .inr xS) (if sz < 24 then (((σ.set 0 (.inr (6, [.ref 1, .ref 9, .ref 13, .int (nI 0)]))).set (a + 1) (.inl (0, 24, .inl fun j => nI (va_up op sz o j)))).set (a + 2) (.inl (0, 24, .inl (upd ag sz x)))).set a (.inr (2, [.int (en q1), .int (en q2), .int (nI rs), .ref (a + 1), .ref (a + 2), .int (nI (sz + 1)), .ref (a + 3), .ref (a + 4), .ref (a + 5), .ref (a + 6), .int (nI (nc)), .ref (a + 7), .ref (a + 8)])) else σ)
  refine jr_aload_n d_JC_code_19 rfl ?_
  refine jr_iload_n d_JC_code_20 rfl ?_
  refine jr_iload_n d_JC_code_21 rfl ?_
  refine jr_callV (As := [.int (nI k), .int (nI sl)]) d_JC_code_22 k_JC_code_102 h0 rfl rfl rfl (Nat.le_of_ble_eq_true rfl) (by decide) (by decide) (jc_own_T hl hj hw hk hs ht hq) ?_
  show jl_W l G m_JC_code (4, 24) 25 [some (.ref 0), some (.int (nI k)), some (.int (nI sl)), some (.int (nI o)), some (.int (x)), none] [.ref a] (σ) (if sz < 24 then .inl (some (.int (nI sz))) else .inr xS) (if sz < 24 then (((σ.set 0 (.inr (6, [.ref 1, .ref 9, .ref 13, .int (nI 0)]))).set (a + 1) (.inl (0, 24, .inl fun j => nI (va_up op sz o j)))).set (a + 2) (.inl (0, 24, .inl (upd ag sz x)))).set a (.inr (2, [.int (en q1), .int (en q2), .int (nI rs), .ref (a + 1), .ref (a + 2), .int (nI (sz + 1)), .ref (a + 3), .ref (a + 4), .ref (a + 5), .ref (a + 6), .int (nI (nc)), .ref (a + 7), .ref (a + 8)])) else σ)
  refine jr_astore d_JC_code_25 (by decide) ?_
  show jl_W l G m_JC_code (4, 24) 27 [some (.ref 0), some (.int (nI k)), some (.int (nI sl)), some (.int (nI o)), some (.int (x)), some (.ref a)] [] (σ) (if sz < 24 then .inl (some (.int (nI sz))) else .inr xS) (if sz < 24 then (((σ.set 0 (.inr (6, [.ref 1, .ref 9, .ref 13, .int (nI 0)]))).set (a + 1) (.inl (0, 24, .inl fun j => nI (va_up op sz o j)))).set (a + 2) (.inl (0, 24, .inl (upd ag sz x)))).set a (.inr (2, [.int (en q1), .int (en q2), .int (nI rs), .ref (a + 1), .ref (a + 2), .int (nI (sz + 1)), .ref (a + 3), .ref (a + 4), .ref (a + 5), .ref (a + 6), .int (nI (nc)), .ref (a + 7), .ref (a + 8)])) else σ)
  refine jr_aload d_JC_code_27 rfl ?_
  refine jr_getf d_JC_code_29 f_JC_code_105 hM rfl ?_
  refine jr_bipush ((nI (24))) d_JC_code_32 (by decide) ?_
  refine jr_icmp_geN 41 d_JC_code_34 (by decide) (by omega) (by omega) (fun c1 => ?_) (fun c1 => ?_)
  · refine jr_iconst ((nI (0))) d_JC_code_41 (by decide) ?_
    exact jl_oeq (by rw [if_neg (by omega)]) (jl_seq (by rw [if_neg (by omega)]) (jr_callSX (As := [.int (nI 0)]) d_JC_code_42 k_JC_code_49 rfl rfl (Nat.le_of_ble_eq_true rfl) (by decide) (by decide) (jc_state0 hl)))
  · refine jr_iconst ((nI (1))) d_JC_code_37 (by decide) ?_
    refine jr_goto 42 d_JC_code_38 (by decide) ?_
    refine jr_callS (As := [.int (nI 1)]) d_JC_code_42 k_JC_code_49 rfl (Nat.le_of_ble_eq_true rfl) (by decide) (by decide) (jc_state1 hl) ?_
    show jl_W l G m_JC_code (5, 30) 45 [some (.ref 0), some (.int (nI k)), some (.int (nI sl)), some (.int (nI o)), some (.int (x)), some (.ref a)] [] (σ) (if sz < 24 then .inl (some (.int (nI sz))) else .inr xS) (if sz < 24 then (((σ.set 0 (.inr (6, [.ref 1, .ref 9, .ref 13, .int (nI 0)]))).set (a + 1) (.inl (0, 24, .inl fun j => nI (va_up op sz o j)))).set (a + 2) (.inl (0, 24, .inl (upd ag sz x)))).set a (.inr (2, [.int (en q1), .int (en q2), .int (nI rs), .ref (a + 1), .ref (a + 2), .int (nI (sz + 1)), .ref (a + 3), .ref (a + 4), .ref (a + 5), .ref (a + 6), .int (nI (nc)), .ref (a + 7), .ref (a + 8)])) else σ)
    refine jr_aload_n d_JC_code_45 rfl ?_
    refine jr_iconst ((nI (0))) d_JC_code_46 (by decide) ?_
    refine jr_putf d_JC_code_47 p_JC_code_37 h0 (Nat.le_of_ble_eq_true rfl) jl_fit_b0 ?_
    show jl_W l G m_JC_code (5, 30) 50 [some (.ref 0), some (.int (nI k)), some (.int (nI sl)), some (.int (nI o)), some (.int (x)), some (.ref a)] [] (σ.set (0) (.inr (6, [.ref 1, .ref 9, .ref 13, .int (nI 0)]))) (if sz < 24 then .inl (some (.int (nI sz))) else .inr xS) (if sz < 24 then (((σ.set 0 (.inr (6, [.ref 1, .ref 9, .ref 13, .int (nI 0)]))).set (a + 1) (.inl (0, 24, .inl fun j => nI (va_up op sz o j)))).set (a + 2) (.inl (0, 24, .inl (upd ag sz x)))).set a (.inr (2, [.int (en q1), .int (en q2), .int (nI rs), .ref (a + 1), .ref (a + 2), .int (nI (sz + 1)), .ref (a + 3), .ref (a + 4), .ref (a + 5), .ref (a + 6), .int (nI (nc)), .ref (a + 7), .ref (a + 8)])) else σ)
    refine jr_aload d_JC_code_50 rfl ?_
    refine jr_iload_n d_JC_code_52 rfl ?_
    refine jr_iload d_JC_code_53 rfl ?_
    refine jr_callV (As := [.int (nI o), .int (x)]) d_JC_code_55 k_JC_code_109 (jl_sn (by omega) hM) rfl rfl rfl (Nat.le_of_ble_eq_true rfl) (by decide) (by decide) (me_addI hl (MeAt.sx hm (Or.inl (by omega))) (by omega)) ?_
    show jl_W l G m_JC_code (5, 30) 58 [some (.ref 0), some (.int (nI k)), some (.int (nI sl)), some (.int (nI o)), some (.int (x)), some (.ref a)] [.int (nI sz)] ((((σ.set (0) (.inr (6, [.ref 1, .ref 9, .ref 13, .int (nI 0)]))).set (a + 1) (.inl (0, 24, .inl (fun j => nI ((va_up op sz o) j))))).set (a + 2) (.inl (0, 24, .inl (upd ag sz x)))).set (a) (.inr (2, [.int (en q1), .int (en q2), .int (nI rs), .ref (a + 1), .ref (a + 2), .int (nI (sz + 1)), .ref (a + 3), .ref (a + 4), .ref (a + 5), .ref (a + 6), .int (nI nc), .ref (a + 7), .ref (a + 8)]))) (if sz < 24 then .inl (some (.int (nI sz))) else .inr xS) (if sz < 24 then (((σ.set 0 (.inr (6, [.ref 1, .ref 9, .ref 13, .int (nI 0)]))).set (a + 1) (.inl (0, 24, .inl fun j => nI (va_up op sz o j)))).set (a + 2) (.inl (0, 24, .inl (upd ag sz x)))).set a (.inr (2, [.int (en q1), .int (en q2), .int (nI rs), .ref (a + 1), .ref (a + 2), .int (nI (sz + 1)), .ref (a + 3), .ref (a + 4), .ref (a + 5), .ref (a + 6), .int (nI (nc)), .ref (a + 7), .ref (a + 8)])) else σ)
    exact jr_iretE d_JC_code_58 rfl (by rw [if_pos (by omega)]) (by rw [if_pos (by omega)]) (by decide) (by decide)
theorem d_JC_catcher_0 : decode m_JC_catcher.2.1 0 = .ok (.iload_n 1, 1) := by decide +kernel
theorem d_JC_catcher_1 : decode m_JC_catcher.2.1 1 = .ok (.iconst 0, 1) := by decide +kernel
theorem d_JC_catcher_2 : decode m_JC_catcher.2.1 2 = .ok (.iconst 5, 1) := by decide +kernel
theorem k_JC_catcher_41 : jl_cz m_JC_catcher m_JC_needRange 41 3 = true := by decide +kernel
theorem d_JC_catcher_3 : decode m_JC_catcher.2.1 3 = .ok (.invokestatic 41, 3) := by decide +kernel
theorem jc_cat_A1 (hl : l.stackTraces = false) {k sl sp tr ki : Int32} (hj : JcAt σ vf) (hw : WoAt σ tb pr ow fi ft mt) (h : k < nI 0 ∨ nI 5 < k) : jl_m l G m_JC_catcher [.ref 0, .int (k), .int (sl), .int (sp), .int (tr), .int (ki)] σ (.inr xA) (σ) := by
  obtain ⟨hW, h2, h3, h4, h5, h6, h7⟩ := id hw; have h0 := hj
  refine jl_of (as := [.ref 0, .int (k), .int (sl), .int (sp), .int (tr), .int (ki)]) rfl (by decide) hl (jl_cc rfl (jl_cc rfl (jl_cc rfl (jl_cc rfl (jl_cc rfl (jl_cc rfl jl_ca)))))) (Nat.le_of_ble_eq_true rfl) ?_
  show jl_W l G m_JC_catcher (0, 0) 0 [some (.ref 0), some (.int (k)), some (.int (sl)), some (.int (sp)), some (.int (tr)), some (.int (ki)), none] [] (σ) (.inr xA) (σ)
  refine jr_iload_n d_JC_catcher_0 rfl ?_
  refine jr_iconst ((nI (0))) d_JC_catcher_1 (by decide) ?_
  refine jr_iconst ((nI (5))) d_JC_catcher_2 (by decide) ?_
  exact jl_oeq (rfl) (jl_seq (rfl) (jr_callSX (As := [.int (k), .int (nI 0), .int (nI 5)]) d_JC_catcher_3 k_JC_catcher_41 rfl rfl (Nat.le_of_ble_eq_true rfl) (by decide) (by decide) (jc_rangeX hl h)))
theorem d_JC_catcher_6 : decode m_JC_catcher.2.1 6 = .ok (.iload_n 2, 1) := by decide +kernel
theorem d_JC_catcher_7 : decode m_JC_catcher.2.1 7 = .ok (.iconst 0, 1) := by decide +kernel
theorem d_JC_catcher_8 : decode m_JC_catcher.2.1 8 = .ok (.iconst 3, 1) := by decide +kernel
theorem d_JC_catcher_9 : decode m_JC_catcher.2.1 9 = .ok (.invokestatic 41, 3) := by decide +kernel
theorem jc_cat_A2 (hl : l.stackTraces = false) {k : Nat} {sl sp tr ki : Int32} (hj : JcAt σ vf) (hw : WoAt σ tb pr ow fi ft mt) (hk : k < 6) (h : sl < nI 0 ∨ nI 3 < sl) : jl_m l G m_JC_catcher [.ref 0, .int (nI k), .int (sl), .int (sp), .int (tr), .int (ki)] σ (.inr xA) (σ) := by
  obtain ⟨hW, h2, h3, h4, h5, h6, h7⟩ := id hw; have h0 := hj
  refine jl_of (as := [.ref 0, .int (nI k), .int (sl), .int (sp), .int (tr), .int (ki)]) rfl (by decide) hl (jl_cc rfl (jl_cc rfl (jl_cc rfl (jl_cc rfl (jl_cc rfl (jl_cc rfl jl_ca)))))) (Nat.le_of_ble_eq_true rfl) ?_
  show jl_W l G m_JC_catcher (0, 0) 0 [some (.ref 0), some (.int (nI k)), some (.int (sl)), some (.int (sp)), some (.int (tr)), some (.int (ki)), none] [] (σ) (.inr xA) (σ)
  refine jr_iload_n d_JC_catcher_0 rfl ?_
  refine jr_iconst ((nI (0))) d_JC_catcher_1 (by decide) ?_
  refine jr_iconst ((nI (5))) d_JC_catcher_2 (by decide) ?_
  refine jr_callS (As := [.int (nI k), .int (nI 0), .int (nI 5)]) d_JC_catcher_3 k_JC_catcher_41 rfl (Nat.le_of_ble_eq_true rfl) (by decide) (by decide) (jc_range hl (rg_ok (by omega) (by decide))) ?_
  show jl_W l G m_JC_catcher (1, 6) 6 [some (.ref 0), some (.int (nI k)), some (.int (sl)), some (.int (sp)), some (.int (tr)), some (.int (ki)), none] [] (σ) (.inr xA) (σ)
  refine jr_iload_n d_JC_catcher_6 rfl ?_
  refine jr_iconst ((nI (0))) d_JC_catcher_7 (by decide) ?_
  refine jr_iconst ((nI (3))) d_JC_catcher_8 (by decide) ?_
  exact jl_oeq (rfl) (jl_seq (rfl) (jr_callSX (As := [.int (sl), .int (nI 0), .int (nI 3)]) d_JC_catcher_9 k_JC_catcher_41 rfl rfl (Nat.le_of_ble_eq_true rfl) (by decide) (by decide) (jc_rangeX hl h)))
theorem d_JC_catcher_12 : decode m_JC_catcher.2.1 12 = .ok (.iload_n 3, 1) := by decide +kernel
theorem d_JC_catcher_13 : decode m_JC_catcher.2.1 13 = .ok (.iconst 0, 1) := by decide +kernel
theorem d_JC_catcher_14 : decode m_JC_catcher.2.1 14 = .ok (.sipush 1023, 3) := by decide +kernel
theorem d_JC_catcher_17 : decode m_JC_catcher.2.1 17 = .ok (.invokestatic 41, 3) := by decide +kernel
theorem jc_cat_A3 (hl : l.stackTraces = false) {k sl : Nat} {sp tr ki : Int32} (hj : JcAt σ vf) (hw : WoAt σ tb pr ow fi ft mt) (hk : k < 6) (hs : sl < 4) (h : sp < nI 0 ∨ nI 1023 < sp) : jl_m l G m_JC_catcher [.ref 0, .int (nI k), .int (nI sl), .int (sp), .int (tr), .int (ki)] σ (.inr xA) (σ) := by
  obtain ⟨hW, h2, h3, h4, h5, h6, h7⟩ := id hw; have h0 := hj
  refine jl_of (as := [.ref 0, .int (nI k), .int (nI sl), .int (sp), .int (tr), .int (ki)]) rfl (by decide) hl (jl_cc rfl (jl_cc rfl (jl_cc rfl (jl_cc rfl (jl_cc rfl (jl_cc rfl jl_ca)))))) (Nat.le_of_ble_eq_true rfl) ?_
  show jl_W l G m_JC_catcher (0, 0) 0 [some (.ref 0), some (.int (nI k)), some (.int (nI sl)), some (.int (sp)), some (.int (tr)), some (.int (ki)), none] [] (σ) (.inr xA) (σ)
  refine jr_iload_n d_JC_catcher_0 rfl ?_
  refine jr_iconst ((nI (0))) d_JC_catcher_1 (by decide) ?_
  refine jr_iconst ((nI (5))) d_JC_catcher_2 (by decide) ?_
  refine jr_callS (As := [.int (nI k), .int (nI 0), .int (nI 5)]) d_JC_catcher_3 k_JC_catcher_41 rfl (Nat.le_of_ble_eq_true rfl) (by decide) (by decide) (jc_range hl (rg_ok (by omega) (by decide))) ?_
  show jl_W l G m_JC_catcher (1, 6) 6 [some (.ref 0), some (.int (nI k)), some (.int (nI sl)), some (.int (sp)), some (.int (tr)), some (.int (ki)), none] [] (σ) (.inr xA) (σ)
  refine jr_iload_n d_JC_catcher_6 rfl ?_
  refine jr_iconst ((nI (0))) d_JC_catcher_7 (by decide) ?_
  refine jr_iconst ((nI (3))) d_JC_catcher_8 (by decide) ?_
  refine jr_callS (As := [.int (nI sl), .int (nI 0), .int (nI 3)]) d_JC_catcher_9 k_JC_catcher_41 rfl (Nat.le_of_ble_eq_true rfl) (by decide) (by decide) (jc_range hl (rg_ok (by omega) (by decide))) ?_
  show jl_W l G m_JC_catcher (2, 12) 12 [some (.ref 0), some (.int (nI k)), some (.int (nI sl)), some (.int (sp)), some (.int (tr)), some (.int (ki)), none] [] (σ) (.inr xA) (σ)
  refine jr_iload_n d_JC_catcher_12 rfl ?_
  refine jr_iconst ((nI (0))) d_JC_catcher_13 (by decide) ?_
  refine jr_sipush ((nI (1023))) d_JC_catcher_14 (by decide) ?_
  exact jl_oeq (rfl) (jl_seq (rfl) (jr_callSX (As := [.int (sp), .int (nI 0), .int (nI 1023)]) d_JC_catcher_17 k_JC_catcher_41 rfl rfl (Nat.le_of_ble_eq_true rfl) (by decide) (by decide) (jc_rangeX hl h)))
theorem d_JC_catcher_20 : decode m_JC_catcher.2.1 20 = .ok (.iload 4, 2) := by decide +kernel
theorem d_JC_catcher_22 : decode m_JC_catcher.2.1 22 = .ok (.iconst 0, 1) := by decide +kernel
theorem d_JC_catcher_23 : decode m_JC_catcher.2.1 23 = .ok (.bipush 23, 2) := by decide +kernel
theorem d_JC_catcher_25 : decode m_JC_catcher.2.1 25 = .ok (.invokestatic 41, 3) := by decide +kernel
theorem jc_cat_A4 (hl : l.stackTraces = false) {k sl sp : Nat} {tr ki : Int32} (hj : JcAt σ vf) (hw : WoAt σ tb pr ow fi ft mt) (hk : k < 6) (hs : sl < 4) (hp : sp < 1024) (h : tr < nI 0 ∨ nI 23 < tr) : jl_m l G m_JC_catcher [.ref 0, .int (nI k), .int (nI sl), .int (nI sp), .int (tr), .int (ki)] σ (.inr xA) (σ) := by
  obtain ⟨hW, h2, h3, h4, h5, h6, h7⟩ := id hw; have h0 := hj
  refine jl_of (as := [.ref 0, .int (nI k), .int (nI sl), .int (nI sp), .int (tr), .int (ki)]) rfl (by decide) hl (jl_cc rfl (jl_cc rfl (jl_cc rfl (jl_cc rfl (jl_cc rfl (jl_cc rfl jl_ca)))))) (Nat.le_of_ble_eq_true rfl) ?_
  show jl_W l G m_JC_catcher (0, 0) 0 [some (.ref 0), some (.int (nI k)), some (.int (nI sl)), some (.int (nI sp)), some (.int (tr)), some (.int (ki)), none] [] (σ) (.inr xA) (σ)
  refine jr_iload_n d_JC_catcher_0 rfl ?_
  refine jr_iconst ((nI (0))) d_JC_catcher_1 (by decide) ?_
  refine jr_iconst ((nI (5))) d_JC_catcher_2 (by decide) ?_
  refine jr_callS (As := [.int (nI k), .int (nI 0), .int (nI 5)]) d_JC_catcher_3 k_JC_catcher_41 rfl (Nat.le_of_ble_eq_true rfl) (by decide) (by decide) (jc_range hl (rg_ok (by omega) (by decide))) ?_
  show jl_W l G m_JC_catcher (1, 6) 6 [some (.ref 0), some (.int (nI k)), some (.int (nI sl)), some (.int (nI sp)), some (.int (tr)), some (.int (ki)), none] [] (σ) (.inr xA) (σ)
  refine jr_iload_n d_JC_catcher_6 rfl ?_
  refine jr_iconst ((nI (0))) d_JC_catcher_7 (by decide) ?_
  refine jr_iconst ((nI (3))) d_JC_catcher_8 (by decide) ?_
  refine jr_callS (As := [.int (nI sl), .int (nI 0), .int (nI 3)]) d_JC_catcher_9 k_JC_catcher_41 rfl (Nat.le_of_ble_eq_true rfl) (by decide) (by decide) (jc_range hl (rg_ok (by omega) (by decide))) ?_
  show jl_W l G m_JC_catcher (2, 12) 12 [some (.ref 0), some (.int (nI k)), some (.int (nI sl)), some (.int (nI sp)), some (.int (tr)), some (.int (ki)), none] [] (σ) (.inr xA) (σ)
  refine jr_iload_n d_JC_catcher_12 rfl ?_
  refine jr_iconst ((nI (0))) d_JC_catcher_13 (by decide) ?_
  refine jr_sipush ((nI (1023))) d_JC_catcher_14 (by decide) ?_
  refine jr_callS (As := [.int (nI sp), .int (nI 0), .int (nI 1023)]) d_JC_catcher_17 k_JC_catcher_41 rfl (Nat.le_of_ble_eq_true rfl) (by decide) (by decide) (jc_range hl (rg_ok (by omega) (by decide))) ?_
  show jl_W l G m_JC_catcher (3, 18) 20 [some (.ref 0), some (.int (nI k)), some (.int (nI sl)), some (.int (nI sp)), some (.int (tr)), some (.int (ki)), none] [] (σ) (.inr xA) (σ)
  refine jr_iload d_JC_catcher_20 rfl ?_
  refine jr_iconst ((nI (0))) d_JC_catcher_22 (by decide) ?_
  refine jr_bipush ((nI (23))) d_JC_catcher_23 (by decide) ?_
  exact jl_oeq (rfl) (jl_seq (rfl) (jr_callSX (As := [.int (tr), .int (nI 0), .int (nI 23)]) d_JC_catcher_25 k_JC_catcher_41 rfl rfl (Nat.le_of_ble_eq_true rfl) (by decide) (by decide) (jc_rangeX hl h)))
theorem d_JC_catcher_28 : decode m_JC_catcher.2.1 28 = .ok (.iload 5, 2) := by decide +kernel
theorem d_JC_catcher_30 : decode m_JC_catcher.2.1 30 = .ok (.iconst 0, 1) := by decide +kernel
theorem d_JC_catcher_31 : decode m_JC_catcher.2.1 31 = .ok (.bipush 6, 2) := by decide +kernel
theorem d_JC_catcher_33 : decode m_JC_catcher.2.1 33 = .ok (.invokestatic 41, 3) := by decide +kernel
theorem jc_cat_A5 (hl : l.stackTraces = false) {k sl sp tr : Nat} {ki : Int32} (hj : JcAt σ vf) (hw : WoAt σ tb pr ow fi ft mt) (hk : k < 6) (hs : sl < 4) (hp : sp < 1024) (hr : tr < 24) (h : ki < nI 0 ∨ nI 6 < ki) : jl_m l G m_JC_catcher [.ref 0, .int (nI k), .int (nI sl), .int (nI sp), .int (nI tr), .int (ki)] σ (.inr xA) (σ) := by
  obtain ⟨hW, h2, h3, h4, h5, h6, h7⟩ := id hw; have h0 := hj
  refine jl_of (as := [.ref 0, .int (nI k), .int (nI sl), .int (nI sp), .int (nI tr), .int (ki)]) rfl (by decide) hl (jl_cc rfl (jl_cc rfl (jl_cc rfl (jl_cc rfl (jl_cc rfl (jl_cc rfl jl_ca)))))) (Nat.le_of_ble_eq_true rfl) ?_
  show jl_W l G m_JC_catcher (0, 0) 0 [some (.ref 0), some (.int (nI k)), some (.int (nI sl)), some (.int (nI sp)), some (.int (nI tr)), some (.int (ki)), none] [] (σ) (.inr xA) (σ)
  refine jr_iload_n d_JC_catcher_0 rfl ?_
  refine jr_iconst ((nI (0))) d_JC_catcher_1 (by decide) ?_
  refine jr_iconst ((nI (5))) d_JC_catcher_2 (by decide) ?_
  refine jr_callS (As := [.int (nI k), .int (nI 0), .int (nI 5)]) d_JC_catcher_3 k_JC_catcher_41 rfl (Nat.le_of_ble_eq_true rfl) (by decide) (by decide) (jc_range hl (rg_ok (by omega) (by decide))) ?_
  show jl_W l G m_JC_catcher (1, 6) 6 [some (.ref 0), some (.int (nI k)), some (.int (nI sl)), some (.int (nI sp)), some (.int (nI tr)), some (.int (ki)), none] [] (σ) (.inr xA) (σ)
  refine jr_iload_n d_JC_catcher_6 rfl ?_
  refine jr_iconst ((nI (0))) d_JC_catcher_7 (by decide) ?_
  refine jr_iconst ((nI (3))) d_JC_catcher_8 (by decide) ?_
  refine jr_callS (As := [.int (nI sl), .int (nI 0), .int (nI 3)]) d_JC_catcher_9 k_JC_catcher_41 rfl (Nat.le_of_ble_eq_true rfl) (by decide) (by decide) (jc_range hl (rg_ok (by omega) (by decide))) ?_
  show jl_W l G m_JC_catcher (2, 12) 12 [some (.ref 0), some (.int (nI k)), some (.int (nI sl)), some (.int (nI sp)), some (.int (nI tr)), some (.int (ki)), none] [] (σ) (.inr xA) (σ)
  refine jr_iload_n d_JC_catcher_12 rfl ?_
  refine jr_iconst ((nI (0))) d_JC_catcher_13 (by decide) ?_
  refine jr_sipush ((nI (1023))) d_JC_catcher_14 (by decide) ?_
  refine jr_callS (As := [.int (nI sp), .int (nI 0), .int (nI 1023)]) d_JC_catcher_17 k_JC_catcher_41 rfl (Nat.le_of_ble_eq_true rfl) (by decide) (by decide) (jc_range hl (rg_ok (by omega) (by decide))) ?_
  show jl_W l G m_JC_catcher (3, 18) 20 [some (.ref 0), some (.int (nI k)), some (.int (nI sl)), some (.int (nI sp)), some (.int (nI tr)), some (.int (ki)), none] [] (σ) (.inr xA) (σ)
  refine jr_iload d_JC_catcher_20 rfl ?_
  refine jr_iconst ((nI (0))) d_JC_catcher_22 (by decide) ?_
  refine jr_bipush ((nI (23))) d_JC_catcher_23 (by decide) ?_
  refine jr_callS (As := [.int (nI tr), .int (nI 0), .int (nI 23)]) d_JC_catcher_25 k_JC_catcher_41 rfl (Nat.le_of_ble_eq_true rfl) (by decide) (by decide) (jc_range hl (rg_ok (by omega) (by decide))) ?_
  show jl_W l G m_JC_catcher (4, 24) 28 [some (.ref 0), some (.int (nI k)), some (.int (nI sl)), some (.int (nI sp)), some (.int (nI tr)), some (.int (ki)), none] [] (σ) (.inr xA) (σ)
  refine jr_iload d_JC_catcher_28 rfl ?_
  refine jr_iconst ((nI (0))) d_JC_catcher_30 (by decide) ?_
  refine jr_bipush ((nI (6))) d_JC_catcher_31 (by decide) ?_
  exact jl_oeq (rfl) (jl_seq (rfl) (jr_callSX (As := [.int (ki), .int (nI 0), .int (nI 6)]) d_JC_catcher_33 k_JC_catcher_41 rfl rfl (Nat.le_of_ble_eq_true rfl) (by decide) (by decide) (jc_rangeX hl h)))
theorem d_JC_catcher_36 : decode m_JC_catcher.2.1 36 = .ok (.aload_n 0, 1) := by decide +kernel
theorem d_JC_catcher_37 : decode m_JC_catcher.2.1 37 = .ok (.iload_n 1, 1) := by decide +kernel
theorem d_JC_catcher_38 : decode m_JC_catcher.2.1 38 = .ok (.iload_n 2, 1) := by decide +kernel
theorem k_JC_catcher_102 : jl_cv m_JC_catcher m_JC_ownMethod 102 2 = true := by decide +kernel
theorem d_JC_catcher_39 : decode m_JC_catcher.2.1 39 = .ok (.invokevirtual 102, 3) := by decide +kernel
theorem jc_cat_N (hl : l.stackTraces = false) {k sl sp tr ki : Nat} (hj : JcAt σ vf) (hw : WoAt σ tb pr ow fi ft mt) (hk : k < 6) (hs : sl < 4) (hp : sp < 1024) (hr : tr < 24) (hi : ki < 7) (h : tb k = false ∨ mt (k * 4 + sl) = none) : jl_m l G m_JC_catcher [.ref 0, .int (nI k), .int (nI sl), .int (nI sp), .int (nI tr), .int (nI ki)] σ (.inr xN) (σ) := by
  obtain ⟨hW, h2, h3, h4, h5, h6, h7⟩ := id hw; have h0 := hj
  refine jl_of (as := [.ref 0, .int (nI k), .int (nI sl), .int (nI sp), .int (nI tr), .int (nI ki)]) rfl (by decide) hl (jl_cc rfl (jl_cc rfl (jl_cc rfl (jl_cc rfl (jl_cc rfl (jl_cc rfl jl_ca)))))) (Nat.le_of_ble_eq_true rfl) ?_
  show jl_W l G m_JC_catcher (0, 0) 0 [some (.ref 0), some (.int (nI k)), some (.int (nI sl)), some (.int (nI sp)), some (.int (nI tr)), some (.int (nI ki)), none] [] (σ) (.inr xN) (σ)
  refine jr_iload_n d_JC_catcher_0 rfl ?_
  refine jr_iconst ((nI (0))) d_JC_catcher_1 (by decide) ?_
  refine jr_iconst ((nI (5))) d_JC_catcher_2 (by decide) ?_
  refine jr_callS (As := [.int (nI k), .int (nI 0), .int (nI 5)]) d_JC_catcher_3 k_JC_catcher_41 rfl (Nat.le_of_ble_eq_true rfl) (by decide) (by decide) (jc_range hl (rg_ok (by omega) (by decide))) ?_
  show jl_W l G m_JC_catcher (1, 6) 6 [some (.ref 0), some (.int (nI k)), some (.int (nI sl)), some (.int (nI sp)), some (.int (nI tr)), some (.int (nI ki)), none] [] (σ) (.inr xN) (σ)
  refine jr_iload_n d_JC_catcher_6 rfl ?_
  refine jr_iconst ((nI (0))) d_JC_catcher_7 (by decide) ?_
  refine jr_iconst ((nI (3))) d_JC_catcher_8 (by decide) ?_
  refine jr_callS (As := [.int (nI sl), .int (nI 0), .int (nI 3)]) d_JC_catcher_9 k_JC_catcher_41 rfl (Nat.le_of_ble_eq_true rfl) (by decide) (by decide) (jc_range hl (rg_ok (by omega) (by decide))) ?_
  show jl_W l G m_JC_catcher (2, 12) 12 [some (.ref 0), some (.int (nI k)), some (.int (nI sl)), some (.int (nI sp)), some (.int (nI tr)), some (.int (nI ki)), none] [] (σ) (.inr xN) (σ)
  refine jr_iload_n d_JC_catcher_12 rfl ?_
  refine jr_iconst ((nI (0))) d_JC_catcher_13 (by decide) ?_
  refine jr_sipush ((nI (1023))) d_JC_catcher_14 (by decide) ?_
  refine jr_callS (As := [.int (nI sp), .int (nI 0), .int (nI 1023)]) d_JC_catcher_17 k_JC_catcher_41 rfl (Nat.le_of_ble_eq_true rfl) (by decide) (by decide) (jc_range hl (rg_ok (by omega) (by decide))) ?_
  show jl_W l G m_JC_catcher (3, 18) 20 [some (.ref 0), some (.int (nI k)), some (.int (nI sl)), some (.int (nI sp)), some (.int (nI tr)), some (.int (nI ki)), none] [] (σ) (.inr xN) (σ)
  refine jr_iload d_JC_catcher_20 rfl ?_
  refine jr_iconst ((nI (0))) d_JC_catcher_22 (by decide) ?_
  refine jr_bipush ((nI (23))) d_JC_catcher_23 (by decide) ?_
  refine jr_callS (As := [.int (nI tr), .int (nI 0), .int (nI 23)]) d_JC_catcher_25 k_JC_catcher_41 rfl (Nat.le_of_ble_eq_true rfl) (by decide) (by decide) (jc_range hl (rg_ok (by omega) (by decide))) ?_
  show jl_W l G m_JC_catcher (4, 24) 28 [some (.ref 0), some (.int (nI k)), some (.int (nI sl)), some (.int (nI sp)), some (.int (nI tr)), some (.int (nI ki)), none] [] (σ) (.inr xN) (σ)
  refine jr_iload d_JC_catcher_28 rfl ?_
  refine jr_iconst ((nI (0))) d_JC_catcher_30 (by decide) ?_
  refine jr_bipush ((nI (6))) d_JC_catcher_31 (by decide) ?_
  refine jr_callS (As := [.int (nI ki), .int (nI 0), .int (nI 6)]) d_JC_catcher_33 k_JC_catcher_41 rfl (Nat.le_of_ble_eq_true rfl) (by decide) (by decide) (jc_range hl (rg_ok (by omega) (by decide))) ?_
  show jl_W l G m_JC_catcher (5, 30) 36 [some (.ref 0), some (.int (nI k)), some (.int (nI sl)), some (.int (nI sp)), some (.int (nI tr)), some (.int (nI ki)), none] [] (σ) (.inr xN) (σ)
  refine jr_aload_n d_JC_catcher_36 rfl ?_
  refine jr_iload_n d_JC_catcher_37 rfl ?_
  refine jr_iload_n d_JC_catcher_38 rfl ?_
  exact jl_oeq (rfl) (jl_seq (rfl) (jr_callVX (As := [.int (nI k), .int (nI sl)]) d_JC_catcher_39 k_JC_catcher_102 rfl h0 rfl rfl rfl (Nat.le_of_ble_eq_true rfl) (by decide) (by decide) (jc_own_X hl hj hw hk hs h)))
theorem d_JC_catcher_42 : decode m_JC_catcher.2.1 42 = .ok (.astore 6, 2) := by decide +kernel
theorem d_JC_catcher_44 : decode m_JC_catcher.2.1 44 = .ok (.aload 6, 2) := by decide +kernel
theorem f_JC_catcher_112 : jl_fd m_JC_catcher 112 2 10 = true := by decide +kernel
theorem d_JC_catcher_46 : decode m_JC_catcher.2.1 46 = .ok (.getfield 112, 3) := by decide +kernel
theorem d_JC_catcher_49 : decode m_JC_catcher.2.1 49 = .ok (.iconst 2, 1) := by decide +kernel
theorem d_JC_catcher_50 : decode m_JC_catcher.2.1 50 = .ok (.if_icmp .ge 7, 3) := by decide +kernel
theorem d_JC_catcher_57 : decode m_JC_catcher.2.1 57 = .ok (.iconst 0, 1) := by decide +kernel
theorem k_JC_catcher_49 : jl_cz m_JC_catcher m_JC_needState 49 1 = true := by decide +kernel
theorem d_JC_catcher_58 : decode m_JC_catcher.2.1 58 = .ok (.invokestatic 49, 3) := by decide +kernel
theorem d_JC_catcher_53 : decode m_JC_catcher.2.1 53 = .ok (.iconst 1, 1) := by decide +kernel
theorem d_JC_catcher_54 : decode m_JC_catcher.2.1 54 = .ok (.goto 4, 3) := by decide +kernel
theorem d_JC_catcher_61 : decode m_JC_catcher.2.1 61 = .ok (.aload_n 0, 1) := by decide +kernel
theorem d_JC_catcher_62 : decode m_JC_catcher.2.1 62 = .ok (.iconst 0, 1) := by decide +kernel
theorem p_JC_catcher_37 : jl_fp m_JC_catcher 37 6 3 = true := by decide +kernel
theorem d_JC_catcher_63 : decode m_JC_catcher.2.1 63 = .ok (.putfield 37, 3) := by decide +kernel
theorem d_JC_catcher_66 : decode m_JC_catcher.2.1 66 = .ok (.aload 6, 2) := by decide +kernel
theorem d_JC_catcher_68 : decode m_JC_catcher.2.1 68 = .ok (.iload_n 3, 1) := by decide +kernel
theorem d_JC_catcher_69 : decode m_JC_catcher.2.1 69 = .ok (.iload 4, 2) := by decide +kernel
theorem d_JC_catcher_71 : decode m_JC_catcher.2.1 71 = .ok (.iload 5, 2) := by decide +kernel
theorem k_JC_catcher_115 : jl_cv m_JC_catcher m_Me_addCatcher 115 3 = true := by decide +kernel
theorem d_JC_catcher_73 : decode m_JC_catcher.2.1 73 = .ok (.invokevirtual 115, 3) := by decide +kernel
theorem d_JC_catcher_76 : decode m_JC_catcher.2.1 76 = .ok (.ireturn, 1) := by decide +kernel
theorem jc_cat (hl : l.stackTraces = false) {k sl sp tr ki : Nat} (hj : JcAt σ vf) (hw : WoAt σ tb pr ow fi ft mt) (hm : MeAt σ a q1 q2 rs op ag sz fr tt tg kd nc mp fh) (hk : k < 6) (hs : sl < 4) (hp : sp < 1024) (hr : tr < 24) (hi : ki < 7) (ht : tb k = true) (hq : mt (k * 4 + sl) = some a) (ha : 53 ≤ a) (hnc : nc ≤ 2) : jl_m l G m_JC_catcher [.ref 0, .int (nI k), .int (nI sl), .int (nI sp), .int (nI tr), .int (nI ki)] σ (if nc < 2 then .inl (some (.int (nI (nc + 1)))) else .inr xS) (if nc < 2 then (((((σ.set 0 (.inr (6, [.ref 1, .ref 9, .ref 13, .int (nI 0)]))).set (a + 3) (.inl (0, 2, .inl fun j => nI (va_up fr nc (sp / 32) j)))).set (a + 4) (.inl (0, 2, .inl fun j => nI (va_up tt nc (sp % 32) j)))).set (a + 5) (.inl (0, 2, .inl fun j => nI (va_up tg nc tr j)))).set (a + 6) (.inl (0, 2, .inl fun j => nI (va_up kd nc ki j)))).set a (.inr (2, [.int (en q1), .int (en q2), .int (nI rs), .ref (a + 1), .ref (a + 2), .int (nI (sz)), .ref (a + 3), .ref (a + 4), .ref (a + 5), .ref (a + 6), .int (nI (nc + 1)), .ref (a + 7), .ref (a + 8)])) else σ) := by
  obtain ⟨hW, h2, h3, h4, h5, h6, h7⟩ := id hw; have h0 := hj; obtain ⟨hM, g1, g2, g3, g4, g5, g6, g7, g8⟩ := id hm
  refine jl_of (as := [.ref 0, .int (nI k), .int (nI sl), .int (nI sp), .int (nI tr), .int (nI ki)]) rfl (by decide) hl (jl_cc rfl (jl_cc rfl (jl_cc rfl (jl_cc rfl (jl_cc rfl (jl_cc rfl jl_ca)))))) (Nat.le_of_ble_eq_true rfl) ?_
  show jl_W l G m_JC_catcher (0, 0) 0 [some (.ref 0), some (.int (nI k)), some (.int (nI sl)), some (.int (nI sp)), some (.int (nI tr)), some (.int (nI ki)), none] [] (σ) (if nc < 2 then .inl (some (.int (nI (nc + 1)))) else .inr xS) (if nc < 2 then (((((σ.set 0 (.inr (6, [.ref 1, .ref 9, .ref 13, .int (nI 0)]))).set (a + 3) (.inl (0, 2, .inl fun j => nI (va_up fr nc (sp / 32) j)))).set (a + 4) (.inl (0, 2, .inl fun j => nI (va_up tt nc (sp % 32) j)))).set (a + 5) (.inl (0, 2, .inl fun j => nI (va_up tg nc tr j)))).set (a + 6) (.inl (0, 2, .inl fun j => nI (va_up kd nc ki j)))).set a (.inr (2, [.int (en q1), .int (en q2), .int (nI rs), .ref (a + 1), .ref (a + 2), .int (nI (sz)), .ref (a + 3), .ref (a + 4), .ref (a + 5), .ref (a + 6), .int (nI (nc + 1)), .ref (a + 7), .ref (a + 8)])) else σ)
  refine jr_iload_n d_JC_catcher_0 rfl ?_
  refine jr_iconst ((nI (0))) d_JC_catcher_1 (by decide) ?_
  refine jr_iconst ((nI (5))) d_JC_catcher_2 (by decide) ?_
  refine jr_callS (As := [.int (nI k), .int (nI 0), .int (nI 5)]) d_JC_catcher_3 k_JC_catcher_41 rfl (Nat.le_of_ble_eq_true rfl) (by decide) (by decide) (jc_range hl (rg_ok (by omega) (by decide))) ?_
  show jl_W l G m_JC_catcher (1, 6) 6 [some (.ref 0), some (.int (nI k)), some (.int (nI sl)), some (.int (nI sp)), some (.int (nI tr)), some (.int (nI ki)), none] [] (σ) (if nc < 2 then .inl (some (.int (nI (nc + 1)))) else .inr xS) (if nc < 2 then (((((σ.set 0 (.inr (6, [.ref 1, .ref 9, .ref 13, .int (nI 0)]))).set (a + 3) (.inl (0, 2, .inl fun j => nI (va_up fr nc (sp / 32) j)))).set (a + 4) (.inl (0, 2, .inl fun j => nI (va_up tt nc (sp % 32) j)))).set (a + 5) (.inl (0, 2, .inl fun j => nI (va_up tg nc tr j)))).set (a + 6) (.inl (0, 2, .inl fun j => nI (va_up kd nc ki j)))).set a (.inr (2, [.int (en q1), .int (en q2), .int (nI rs), .ref (a + 1), .ref (a + 2), .int (nI (sz)), .ref (a + 3), .ref (a + 4), .ref (a + 5), .ref (a + 6), .int (nI (nc + 1)), .ref (a + 7), .ref (a + 8)])) else σ)
  refine jr_iload_n d_JC_catcher_6 rfl ?_
  refine jr_iconst ((nI (0))) d_JC_catcher_7 (by decide) ?_
  refine jr_iconst ((nI (3))) d_JC_catcher_8 (by decide) ?_
  refine jr_callS (As := [.int (nI sl), .int (nI 0), .int (nI 3)]) d_JC_catcher_9 k_JC_catcher_41 rfl (Nat.le_of_ble_eq_true rfl) (by decide) (by decide) (jc_range hl (rg_ok (by omega) (by decide))) ?_
  show jl_W l G m_JC_catcher (2, 12) 12 [some (.ref 0), some (.int (nI k)), some (.int (nI sl)), some (.int (nI sp)), some (.int (nI tr)), some (.int (nI ki)), none] [] (σ) (if nc < 2 then .inl (some (.int (nI (nc + 1)))) else .inr xS) (if nc < 2 then (((((σ.set 0 (.inr (6, [.ref 1, .ref 9, .ref 13, .int (nI 0)]))).set (a + 3) (.inl (0, 2, .inl fun j => nI (va_up fr nc (sp / 32) j)))).set (a + 4) (.inl (0, 2, .inl fun j => nI (va_up tt nc (sp % 32) j)))).set (a + 5) (.inl (0, 2, .inl fun j => nI (va_up tg nc tr j)))).set (a + 6) (.inl (0, 2, .inl fun j => nI (va_up kd nc ki j)))).set a (.inr (2, [.int (en q1), .int (en q2), .int (nI rs), .ref (a + 1), .ref (a + 2), .int (nI (sz)), .ref (a + 3), .ref (a + 4), .ref (a + 5), .ref (a + 6), .int (nI (nc + 1)), .ref (a + 7), .ref (a + 8)])) else σ)
  refine jr_iload_n d_JC_catcher_12 rfl ?_
  refine jr_iconst ((nI (0))) d_JC_catcher_13 (by decide) ?_
  refine jr_sipush ((nI (1023))) d_JC_catcher_14 (by decide) ?_
  refine jr_callS (As := [.int (nI sp), .int (nI 0), .int (nI 1023)]) d_JC_catcher_17 k_JC_catcher_41 rfl (Nat.le_of_ble_eq_true rfl) (by decide) (by decide) (jc_range hl (rg_ok (by omega) (by decide))) ?_
  show jl_W l G m_JC_catcher (3, 18) 20 [some (.ref 0), some (.int (nI k)), some (.int (nI sl)), some (.int (nI sp)), some (.int (nI tr)), some (.int (nI ki)), none] [] (σ) (if nc < 2 then .inl (some (.int (nI (nc + 1)))) else .inr xS) (if nc < 2 then (((((σ.set 0 (.inr (6, [.ref 1, .ref 9, .ref 13, .int (nI 0)]))).set (a + 3) (.inl (0, 2, .inl fun j => nI (va_up fr nc (sp / 32) j)))).set (a + 4) (.inl (0, 2, .inl fun j => nI (va_up tt nc (sp % 32) j)))).set (a + 5) (.inl (0, 2, .inl fun j => nI (va_up tg nc tr j)))).set (a + 6) (.inl (0, 2, .inl fun j => nI (va_up kd nc ki j)))).set a (.inr (2, [.int (en q1), .int (en q2), .int (nI rs), .ref (a + 1), .ref (a + 2), .int (nI (sz)), .ref (a + 3), .ref (a + 4), .ref (a + 5), .ref (a + 6), .int (nI (nc + 1)), .ref (a + 7), .ref (a + 8)])) else σ)
  refine jr_iload d_JC_catcher_20 rfl ?_
  refine jr_iconst ((nI (0))) d_JC_catcher_22 (by decide) ?_
  refine jr_bipush ((nI (23))) d_JC_catcher_23 (by decide) ?_
  refine jr_callS (As := [.int (nI tr), .int (nI 0), .int (nI 23)]) d_JC_catcher_25 k_JC_catcher_41 rfl (Nat.le_of_ble_eq_true rfl) (by decide) (by decide) (jc_range hl (rg_ok (by omega) (by decide))) ?_
  show jl_W l G m_JC_catcher (4, 24) 28 [some (.ref 0), some (.int (nI k)), some (.int (nI sl)), some (.int (nI sp)), some (.int (nI tr)), some (.int (nI ki)), none] [] (σ) (if nc < 2 then .inl (some (.int (nI (nc + 1)))) else .inr xS) (if nc < 2 then (((((σ.set 0 (.inr (6, [.ref 1, .ref 9, .ref 13, .int (nI 0)]))).set (a + 3) (.inl (0, 2, .inl fun j => nI (va_up fr nc (sp / 32) j)))).set (a + 4) (.inl (0, 2, .inl fun j => nI (va_up tt nc (sp % 32) j)))).set (a + 5) (.inl (0, 2, .inl fun j => nI (va_up tg nc tr j)))).set (a + 6) (.inl (0, 2, .inl fun j => nI (va_up kd nc ki j)))).set a (.inr (2, [.int (en q1), .int (en q2), .int (nI rs), .ref (a + 1), .ref (a + 2), .int (nI (sz)), .ref (a + 3), .ref (a + 4), .ref (a + 5), .ref (a + 6), .int (nI (nc + 1)), .ref (a + 7), .ref (a + 8)])) else σ)
  refine jr_iload d_JC_catcher_28 rfl ?_
  refine jr_iconst ((nI (0))) d_JC_catcher_30 (by decide) ?_
  refine jr_bipush ((nI (6))) d_JC_catcher_31 (by decide) ?_
  refine jr_callS (As := [.int (nI ki), .int (nI 0), .int (nI 6)]) d_JC_catcher_33 k_JC_catcher_41 rfl (Nat.le_of_ble_eq_true rfl) (by decide) (by decide) (jc_range hl (rg_ok (by omega) (by decide))) ?_
  show jl_W l G m_JC_catcher (5, 30) 36 [some (.ref 0), some (.int (nI k)), some (.int (nI sl)), some (.int (nI sp)), some (.int (nI tr)), some (.int (nI ki)), none] [] (σ) (if nc < 2 then .inl (some (.int (nI (nc + 1)))) else .inr xS) (if nc < 2 then (((((σ.set 0 (.inr (6, [.ref 1, .ref 9, .ref 13, .int (nI 0)]))).set (a + 3) (.inl (0, 2, .inl fun j => nI (va_up fr nc (sp / 32) j)))).set (a + 4) (.inl (0, 2, .inl fun j => nI (va_up tt nc (sp % 32) j)))).set (a + 5) (.inl (0, 2, .inl fun j => nI (va_up tg nc tr j)))).set (a + 6) (.inl (0, 2, .inl fun j => nI (va_up kd nc ki j)))).set a (.inr (2, [.int (en q1), .int (en q2), .int (nI rs), .ref (a + 1), .ref (a + 2), .int (nI (sz)), .ref (a + 3), .ref (a + 4), .ref (a + 5), .ref (a + 6), .int (nI (nc + 1)), .ref (a + 7), .ref (a + 8)])) else σ)
  refine jr_aload_n d_JC_catcher_36 rfl ?_
  refine jr_iload_n d_JC_catcher_37 rfl ?_
  refine jr_iload_n d_JC_catcher_38 rfl ?_
  refine jr_callV (As := [.int (nI k), .int (nI sl)]) d_JC_catcher_39 k_JC_catcher_102 h0 rfl rfl rfl (Nat.le_of_ble_eq_true rfl) (by decide) (by decide) (jc_own_T hl hj hw hk hs ht hq) ?_
  show jl_W l G m_JC_catcher (6, 36) 42 [some (.ref 0), some (.int (nI k)), some (.int (nI sl)), some (.int (nI sp)), some (.int (nI tr)), some (.int (nI ki)), none] [.ref a] (σ) (if nc < 2 then .inl (some (.int (nI (nc + 1)))) else .inr xS) (if nc < 2 then (((((σ.set 0 (.inr (6, [.ref 1, .ref 9, .ref 13, .int (nI 0)]))).set (a + 3) (.inl (0, 2, .inl fun j => nI (va_up fr nc (sp / 32) j)))).set (a + 4) (.inl (0, 2, .inl fun j => nI (va_up tt nc (sp % 32) j)))).set (a + 5) (.inl (0, 2, .inl fun j => nI (va_up tg nc tr j)))).set (a + 6) (.inl (0, 2, .inl fun j => nI (va_up kd nc ki j)))).set a (.inr (2, [.int (en q1), .int (en q2), .int (nI rs), .ref (a + 1), .ref (a + 2), .int (nI (sz)), .ref (a + 3), .ref (a + 4), .ref (a + 5), .ref (a + 6), .int (nI (nc + 1)), .ref (a + 7), .ref (a + 8)])) else σ)
  refine jr_astore d_JC_catcher_42 (by decide) ?_
  show jl_W l G m_JC_catcher (6, 36) 44 [some (.ref 0), some (.int (nI k)), some (.int (nI sl)), some (.int (nI sp)), some (.int (nI tr)), some (.int (nI ki)), some (.ref a)] [] (σ) (if nc < 2 then .inl (some (.int (nI (nc + 1)))) else .inr xS) (if nc < 2 then (((((σ.set 0 (.inr (6, [.ref 1, .ref 9, .ref 13, .int (nI 0)]))).set (a + 3) (.inl (0, 2, .inl fun j => nI (va_up fr nc (sp / 32) j)))).set (a + 4) (.inl (0, 2, .inl fun j => nI (va_up tt nc (sp % 32) j)))).set (a + 5) (.inl (0, 2, .inl fun j => nI (va_up tg nc tr j)))).set (a + 6) (.inl (0, 2, .inl fun j => nI (va_up kd nc ki j)))).set a (.inr (2, [.int (en q1), .int (en q2), .int (nI rs), .ref (a + 1), .ref (a + 2), .int (nI (sz)), .ref (a + 3), .ref (a + 4), .ref (a + 5), .ref (a + 6), .int (nI (nc + 1)), .ref (a + 7), .ref (a + 8)])) else σ)
  refine jr_aload d_JC_catcher_44 rfl ?_
  refine jr_getf d_JC_catcher_46 f_JC_catcher_112 hM rfl ?_
  refine jr_iconst ((nI (2))) d_JC_catcher_49 (by decide) ?_
  refine jr_icmp_geN 57 d_JC_catcher_50 (by decide) (by omega) (by omega) (fun c1 => ?_) (fun c1 => ?_)
  · refine jr_iconst ((nI (0))) d_JC_catcher_57 (by decide) ?_
    exact jl_oeq (by rw [if_neg (by omega)]) (jl_seq (by rw [if_neg (by omega)]) (jr_callSX (As := [.int (nI 0)]) d_JC_catcher_58 k_JC_catcher_49 rfl rfl (Nat.le_of_ble_eq_true rfl) (by decide) (by decide) (jc_state0 hl)))
  · refine jr_iconst ((nI (1))) d_JC_catcher_53 (by decide) ?_
    refine jr_goto 58 d_JC_catcher_54 (by decide) ?_
    refine jr_callS (As := [.int (nI 1)]) d_JC_catcher_58 k_JC_catcher_49 rfl (Nat.le_of_ble_eq_true rfl) (by decide) (by decide) (jc_state1 hl) ?_
    show jl_W l G m_JC_catcher (7, 42) 61 [some (.ref 0), some (.int (nI k)), some (.int (nI sl)), some (.int (nI sp)), some (.int (nI tr)), some (.int (nI ki)), some (.ref a)] [] (σ) (if nc < 2 then .inl (some (.int (nI (nc + 1)))) else .inr xS) (if nc < 2 then (((((σ.set 0 (.inr (6, [.ref 1, .ref 9, .ref 13, .int (nI 0)]))).set (a + 3) (.inl (0, 2, .inl fun j => nI (va_up fr nc (sp / 32) j)))).set (a + 4) (.inl (0, 2, .inl fun j => nI (va_up tt nc (sp % 32) j)))).set (a + 5) (.inl (0, 2, .inl fun j => nI (va_up tg nc tr j)))).set (a + 6) (.inl (0, 2, .inl fun j => nI (va_up kd nc ki j)))).set a (.inr (2, [.int (en q1), .int (en q2), .int (nI rs), .ref (a + 1), .ref (a + 2), .int (nI (sz)), .ref (a + 3), .ref (a + 4), .ref (a + 5), .ref (a + 6), .int (nI (nc + 1)), .ref (a + 7), .ref (a + 8)])) else σ)
    refine jr_aload_n d_JC_catcher_61 rfl ?_
    refine jr_iconst ((nI (0))) d_JC_catcher_62 (by decide) ?_
    refine jr_putf d_JC_catcher_63 p_JC_catcher_37 h0 (Nat.le_of_ble_eq_true rfl) jl_fit_b0 ?_
    show jl_W l G m_JC_catcher (7, 42) 66 [some (.ref 0), some (.int (nI k)), some (.int (nI sl)), some (.int (nI sp)), some (.int (nI tr)), some (.int (nI ki)), some (.ref a)] [] (σ.set (0) (.inr (6, [.ref 1, .ref 9, .ref 13, .int (nI 0)]))) (if nc < 2 then .inl (some (.int (nI (nc + 1)))) else .inr xS) (if nc < 2 then (((((σ.set 0 (.inr (6, [.ref 1, .ref 9, .ref 13, .int (nI 0)]))).set (a + 3) (.inl (0, 2, .inl fun j => nI (va_up fr nc (sp / 32) j)))).set (a + 4) (.inl (0, 2, .inl fun j => nI (va_up tt nc (sp % 32) j)))).set (a + 5) (.inl (0, 2, .inl fun j => nI (va_up tg nc tr j)))).set (a + 6) (.inl (0, 2, .inl fun j => nI (va_up kd nc ki j)))).set a (.inr (2, [.int (en q1), .int (en q2), .int (nI rs), .ref (a + 1), .ref (a + 2), .int (nI (sz)), .ref (a + 3), .ref (a + 4), .ref (a + 5), .ref (a + 6), .int (nI (nc + 1)), .ref (a + 7), .ref (a + 8)])) else σ)
    refine jr_aload d_JC_catcher_66 rfl ?_
    refine jr_iload_n d_JC_catcher_68 rfl ?_
    refine jr_iload d_JC_catcher_69 rfl ?_
    refine jr_iload d_JC_catcher_71 rfl ?_
    refine jr_callV (As := [.int (nI sp), .int (nI tr), .int (nI ki)]) d_JC_catcher_73 k_JC_catcher_115 (jl_sn (by omega) hM) rfl rfl rfl (Nat.le_of_ble_eq_true rfl) (by decide) (by decide) (me_addC hl (MeAt.sx hm (Or.inl (by omega))) (by omega) hp) ?_
    show jl_W l G m_JC_catcher (7, 42) 76 [some (.ref 0), some (.int (nI k)), some (.int (nI sl)), some (.int (nI sp)), some (.int (nI tr)), some (.int (nI ki)), some (.ref a)] [.int (nI (nc + 1))] ((((((σ.set (0) (.inr (6, [.ref 1, .ref 9, .ref 13, .int (nI 0)]))).set (a + 3) (.inl (0, 2, .inl (fun j => nI ((va_up fr nc (sp / 32)) j))))).set (a + 4) (.inl (0, 2, .inl (fun j => nI ((va_up tt nc (sp % 32)) j))))).set (a + 5) (.inl (0, 2, .inl (fun j => nI ((va_up tg nc tr) j))))).set (a + 6) (.inl (0, 2, .inl (fun j => nI ((va_up kd nc ki) j))))).set (a) (.inr (2, [.int (en q1), .int (en q2), .int (nI rs), .ref (a + 1), .ref (a + 2), .int (nI sz), .ref (a + 3), .ref (a + 4), .ref (a + 5), .ref (a + 6), .int (nI (nc + 1)), .ref (a + 7), .ref (a + 8)]))) (if nc < 2 then .inl (some (.int (nI (nc + 1)))) else .inr xS) (if nc < 2 then (((((σ.set 0 (.inr (6, [.ref 1, .ref 9, .ref 13, .int (nI 0)]))).set (a + 3) (.inl (0, 2, .inl fun j => nI (va_up fr nc (sp / 32) j)))).set (a + 4) (.inl (0, 2, .inl fun j => nI (va_up tt nc (sp % 32) j)))).set (a + 5) (.inl (0, 2, .inl fun j => nI (va_up tg nc tr j)))).set (a + 6) (.inl (0, 2, .inl fun j => nI (va_up kd nc ki j)))).set a (.inr (2, [.int (en q1), .int (en q2), .int (nI rs), .ref (a + 1), .ref (a + 2), .int (nI (sz)), .ref (a + 3), .ref (a + 4), .ref (a + 5), .ref (a + 6), .int (nI (nc + 1)), .ref (a + 7), .ref (a + 8)])) else σ)
    exact jr_iretE d_JC_catcher_76 rfl (by rw [if_pos (by omega)]) (by rw [if_pos (by omega)]) (by decide) (by decide)
end JCo
