/-! the class Machine: setLocal, end, take, put (wip/gen/p95.py) -/
section JMaa
variable {l : Launch} {G : jl_G} {σ : jl_S}
variable {t : Nat} {su dt dq aw : Int32} {ty : Nat → Option Nat} {va : Nat → Int32}
theorem d_Ma_setLocal_0 : decode m_Ma_setLocal.2.1 0 = .ok (.aload_n 0, 1) := by decide +kernel
theorem f_Ma_setLocal_28 : jl_fd m_Ma_setLocal 28 1 5 = true := by decide +kernel
theorem d_Ma_setLocal_1 : decode m_Ma_setLocal.2.1 1 = .ok (.getfield 28, 3) := by decide +kernel
theorem d_Ma_setLocal_4 : decode m_Ma_setLocal.2.1 4 = .ok (.aload_n 0, 1) := by decide +kernel
theorem f_Ma_setLocal_34 : jl_fd m_Ma_setLocal 34 1 7 = true := by decide +kernel
theorem d_Ma_setLocal_5 : decode m_Ma_setLocal.2.1 5 = .ok (.getfield 34, 3) := by decide +kernel
theorem d_Ma_setLocal_8 : decode m_Ma_setLocal.2.1 8 = .ok (.bipush 12, 2) := by decide +kernel
theorem d_Ma_setLocal_10 : decode m_Ma_setLocal.2.1 10 = .ok (.imul, 1) := by decide +kernel
theorem d_Ma_setLocal_11 : decode m_Ma_setLocal.2.1 11 = .ok (.iload_n 1, 1) := by decide +kernel
theorem d_Ma_setLocal_12 : decode m_Ma_setLocal.2.1 12 = .ok (.iadd, 1) := by decide +kernel
theorem d_Ma_setLocal_13 : decode m_Ma_setLocal.2.1 13 = .ok (.iload_n 2, 1) := by decide +kernel
theorem d_Ma_setLocal_14 : decode m_Ma_setLocal.2.1 14 = .ok (.iastore, 1) := by decide +kernel
theorem d_Ma_setLocal_15 : decode m_Ma_setLocal.2.1 15 = .ok (.aload_n 0, 1) := by decide +kernel
theorem f_Ma_setLocal_31 : jl_fd m_Ma_setLocal 31 1 6 = true := by decide +kernel
theorem d_Ma_setLocal_16 : decode m_Ma_setLocal.2.1 16 = .ok (.getfield 31, 3) := by decide +kernel
theorem d_Ma_setLocal_19 : decode m_Ma_setLocal.2.1 19 = .ok (.aload_n 0, 1) := by decide +kernel
theorem d_Ma_setLocal_20 : decode m_Ma_setLocal.2.1 20 = .ok (.getfield 34, 3) := by decide +kernel
theorem d_Ma_setLocal_23 : decode m_Ma_setLocal.2.1 23 = .ok (.bipush 12, 2) := by decide +kernel
theorem d_Ma_setLocal_25 : decode m_Ma_setLocal.2.1 25 = .ok (.imul, 1) := by decide +kernel
theorem d_Ma_setLocal_26 : decode m_Ma_setLocal.2.1 26 = .ok (.iload_n 1, 1) := by decide +kernel
theorem d_Ma_setLocal_27 : decode m_Ma_setLocal.2.1 27 = .ok (.iadd, 1) := by decide +kernel
theorem d_Ma_setLocal_28 : decode m_Ma_setLocal.2.1 28 = .ok (.iload_n 3, 1) := by decide +kernel
theorem d_Ma_setLocal_29 : decode m_Ma_setLocal.2.1 29 = .ok (.iastore, 1) := by decide +kernel
theorem d_Ma_setLocal_30 : decode m_Ma_setLocal.2.1 30 = .ok (.return_, 1) := by decide +kernel
theorem ma_local (hl : l.stackTraces = false) {i : Nat} {y : Option Nat} {v : Int32} (hX : MaAt σ (nI t) su dt dq aw) (t1 : σ[20]? = some (.inl (0, 144, .inl fun j => en (ty j)))) (t2 : σ[21]? = some (.inl (0, 144, .inl va))) (ht : t < 12) (hi : i < 6) : jl_m l G m_Ma_setLocal [.ref 13, .int (nI i), .int (en y), .int (v)] σ (.inl none) ((σ.set 20 (.inl (0, 144, .inl fun j => en ((va_up ty (t * 12 + i) y) j)))).set 21 (.inl (0, 144, .inl (upd va (t * 12 + i) v)))) := by
  refine jl_of (as := [.ref 13, .int (nI i), .int (en y), .int (v)]) rfl (by decide) hl (jl_cc rfl (jl_cc rfl (jl_cc rfl (jl_cc rfl jl_ca)))) (Nat.le_of_ble_eq_true rfl) ?_
  show jl_W l G m_Ma_setLocal (0, 0) 0 [some (.ref 13), some (.int (nI i)), some (.int (en y)), some (.int (v))] [] (σ) (.inl none) ((σ.set 20 (.inl (0, 144, .inl fun j => en ((va_up ty (t * 12 + i) y) j)))).set 21 (.inl (0, 144, .inl (upd va (t * 12 + i) v))))
  refine jr_aload_n d_Ma_setLocal_0 rfl ?_
  refine jr_getf d_Ma_setLocal_1 f_Ma_setLocal_28 hX rfl ?_
  refine jr_aload_n d_Ma_setLocal_4 rfl ?_
  refine jr_getf d_Ma_setLocal_5 f_Ma_setLocal_34 hX rfl ?_
  refine jr_bipush ((nI (12))) d_Ma_setLocal_8 (by decide) ?_
  refine jr_imulN d_Ma_setLocal_10 ?_
  refine jr_iload_n d_Ma_setLocal_11 rfl ?_
  refine jr_iaddN d_Ma_setLocal_12 ?_
  refine jr_iload_n d_Ma_setLocal_13 rfl ?_
  refine jr_iastN d_Ma_setLocal_14 t1 (by omega) (by omega) ?_
  rw [show upd (fun j => en (ty j)) (((t) * (12)) + (i)) ((en y)) = (fun j => en ((va_up ty (((t) * (12)) + (i)) (y)) j)) from en_up ty (((t) * (12)) + (i)) (y)]
  show jl_W l G m_Ma_setLocal (0, 0) 15 [some (.ref 13), some (.int (nI i)), some (.int (en y)), some (.int (v))] [] (σ.set (20) (.inl (0, 144, .inl (fun j => en ((va_up ty (((t) * (12)) + (i)) (y)) j))))) (.inl none) ((σ.set 20 (.inl (0, 144, .inl fun j => en ((va_up ty (t * 12 + i) y) j)))).set 21 (.inl (0, 144, .inl (upd va (t * 12 + i) v))))
  refine jr_aload_n d_Ma_setLocal_15 rfl ?_
  refine jr_getf d_Ma_setLocal_16 f_Ma_setLocal_31 (jl_sn (by decide) hX) rfl ?_
  refine jr_aload_n d_Ma_setLocal_19 rfl ?_
  refine jr_getf d_Ma_setLocal_20 f_Ma_setLocal_34 (jl_sn (by decide) hX) rfl ?_
  refine jr_bipush ((nI (12))) d_Ma_setLocal_23 (by decide) ?_
  refine jr_imulN d_Ma_setLocal_25 ?_
  refine jr_iload_n d_Ma_setLocal_26 rfl ?_
  refine jr_iaddN d_Ma_setLocal_27 ?_
  refine jr_iload_n d_Ma_setLocal_28 rfl ?_
  refine jr_iastN d_Ma_setLocal_29 (jl_sn (by decide) t2) (by omega) (by omega) ?_
  show jl_W l G m_Ma_setLocal (0, 0) 30 [some (.ref 13), some (.int (nI i)), some (.int (en y)), some (.int (v))] [] ((σ.set (20) (.inl (0, 144, .inl (fun j => en ((va_up ty (((t) * (12)) + (i)) (y)) j))))).set (21) (.inl (0, 144, .inl (upd (va) (((t) * (12)) + (i)) ((v)))))) (.inl none) ((σ.set 20 (.inl (0, 144, .inl fun j => en ((va_up ty (t * 12 + i) y) j)))).set 21 (.inl (0, 144, .inl (upd va (t * 12 + i) v))))
  exact jr_vretE d_Ma_setLocal_30 rfl (rfl) (rfl) (by decide) (by decide)
theorem d_Ma_end_0 : decode m_Ma_end.2.1 0 = .ok (.aload_n 0, 1) := by decide +kernel
theorem d_Ma_end_1 : decode m_Ma_end.2.1 1 = .ok (.iload_n 1, 1) := by decide +kernel
theorem p_Ma_end_38 : jl_fp m_Ma_end 38 1 8 = true := by decide +kernel
theorem d_Ma_end_2 : decode m_Ma_end.2.1 2 = .ok (.putfield 38, 3) := by decide +kernel
theorem d_Ma_end_5 : decode m_Ma_end.2.1 5 = .ok (.aload_n 0, 1) := by decide +kernel
theorem d_Ma_end_6 : decode m_Ma_end.2.1 6 = .ok (.iload_n 2, 1) := by decide +kernel
theorem p_Ma_end_41 : jl_fp m_Ma_end 41 1 9 = true := by decide +kernel
theorem d_Ma_end_7 : decode m_Ma_end.2.1 7 = .ok (.putfield 41, 3) := by decide +kernel
theorem d_Ma_end_10 : decode m_Ma_end.2.1 10 = .ok (.return_, 1) := by decide +kernel
theorem ma_end (hl : l.stackTraces = false) {a b : Int32} (hX : MaAt σ (nI t) su dt dq aw)  : jl_m l G m_Ma_end [.ref 13, .int (a), .int (b)] σ (.inl none) (σ.set 13 (.inr (1, [.ref 1, .ref 8, .ref 14, .ref 18, .ref 19, .ref 20, .ref 21, .int (nI t), .int a, .int b, .int dq, .int aw]))) := by
  refine jl_of (as := [.ref 13, .int (a), .int (b)]) rfl (by decide) hl (jl_cc rfl (jl_cc rfl (jl_cc rfl jl_ca))) (Nat.le_of_ble_eq_true rfl) ?_
  show jl_W l G m_Ma_end (0, 0) 0 [some (.ref 13), some (.int (a)), some (.int (b))] [] (σ) (.inl none) (σ.set 13 (.inr (1, [.ref 1, .ref 8, .ref 14, .ref 18, .ref 19, .ref 20, .ref 21, .int (nI t), .int a, .int b, .int dq, .int aw])))
  refine jr_aload_n d_Ma_end_0 rfl ?_
  refine jr_iload_n d_Ma_end_1 rfl ?_
  refine jr_putf d_Ma_end_2 p_Ma_end_38 hX (Nat.le_of_ble_eq_true rfl) jl_fit_int ?_
  show jl_W l G m_Ma_end (0, 0) 5 [some (.ref 13), some (.int (a)), some (.int (b))] [] (σ.set (13) (.inr (1, [.ref 1, .ref 8, .ref 14, .ref 18, .ref 19, .ref 20, .ref 21, .int (nI t), .int (a), .int (dt), .int (dq), .int (aw)]))) (.inl none) (σ.set 13 (.inr (1, [.ref 1, .ref 8, .ref 14, .ref 18, .ref 19, .ref 20, .ref 21, .int (nI t), .int a, .int b, .int dq, .int aw])))
  refine jr_aload_n d_Ma_end_5 rfl ?_
  refine jr_iload_n d_Ma_end_6 rfl ?_
  refine jr_putf d_Ma_end_7 p_Ma_end_41 (jl_ss hX) (Nat.le_of_ble_eq_true rfl) jl_fit_int ?_
  show jl_W l G m_Ma_end (0, 0) 10 [some (.ref 13), some (.int (a)), some (.int (b))] [] ((σ.set (13) (.inr (1, [.ref 1, .ref 8, .ref 14, .ref 18, .ref 19, .ref 20, .ref 21, .int (nI t), .int (a), .int (dt), .int (dq), .int (aw)]))).set (13) (.inr (1, [.ref 1, .ref 8, .ref 14, .ref 18, .ref 19, .ref 20, .ref 21, .int (nI t), .int (a), .int (b), .int (dq), .int (aw)]))) (.inl none) (σ.set 13 (.inr (1, [.ref 1, .ref 8, .ref 14, .ref 18, .ref 19, .ref 20, .ref 21, .int (nI t), .int a, .int b, .int dq, .int aw])))
  exact jr_vretE d_Ma_end_10 rfl (rfl) (by rw [List.set_set]) (by decide) (by decide)
theorem d_Ma_take_0 : decode m_Ma_take.2.1 0 = .ok (.aload_n 0, 1) := by decide +kernel
theorem f_Ma_take_34 : jl_fd m_Ma_take 34 1 7 = true := by decide +kernel
theorem d_Ma_take_1 : decode m_Ma_take.2.1 1 = .ok (.getfield 34, 3) := by decide +kernel
theorem d_Ma_take_4 : decode m_Ma_take.2.1 4 = .ok (.bipush 12, 2) := by decide +kernel
theorem d_Ma_take_6 : decode m_Ma_take.2.1 6 = .ok (.imul, 1) := by decide +kernel
theorem d_Ma_take_7 : decode m_Ma_take.2.1 7 = .ok (.istore_n 1, 1) := by decide +kernel
theorem d_Ma_take_8 : decode m_Ma_take.2.1 8 = .ok (.aload_n 0, 1) := by decide +kernel
theorem f_Ma_take_28 : jl_fd m_Ma_take 28 1 5 = true := by decide +kernel
theorem d_Ma_take_9 : decode m_Ma_take.2.1 9 = .ok (.getfield 28, 3) := by decide +kernel
theorem d_Ma_take_12 : decode m_Ma_take.2.1 12 = .ok (.iload_n 1, 1) := by decide +kernel
theorem d_Ma_take_13 : decode m_Ma_take.2.1 13 = .ok (.bipush 6, 2) := by decide +kernel
theorem d_Ma_take_15 : decode m_Ma_take.2.1 15 = .ok (.iadd, 1) := by decide +kernel
theorem d_Ma_take_16 : decode m_Ma_take.2.1 16 = .ok (.dup2, 1) := by decide +kernel
theorem d_Ma_take_17 : decode m_Ma_take.2.1 17 = .ok (.iaload, 1) := by decide +kernel
theorem d_Ma_take_18 : decode m_Ma_take.2.1 18 = .ok (.iconst 1, 1) := by decide +kernel
theorem d_Ma_take_19 : decode m_Ma_take.2.1 19 = .ok (.isub, 1) := by decide +kernel
theorem d_Ma_take_20 : decode m_Ma_take.2.1 20 = .ok (.iastore, 1) := by decide +kernel
theorem d_Ma_take_21 : decode m_Ma_take.2.1 21 = .ok (.iload_n 1, 1) := by decide +kernel
theorem d_Ma_take_22 : decode m_Ma_take.2.1 22 = .ok (.bipush 7, 2) := by decide +kernel
theorem d_Ma_take_24 : decode m_Ma_take.2.1 24 = .ok (.iadd, 1) := by decide +kernel
theorem d_Ma_take_25 : decode m_Ma_take.2.1 25 = .ok (.aload_n 0, 1) := by decide +kernel
theorem d_Ma_take_26 : decode m_Ma_take.2.1 26 = .ok (.getfield 28, 3) := by decide +kernel
theorem d_Ma_take_29 : decode m_Ma_take.2.1 29 = .ok (.iload_n 1, 1) := by decide +kernel
theorem d_Ma_take_30 : decode m_Ma_take.2.1 30 = .ok (.bipush 6, 2) := by decide +kernel
theorem d_Ma_take_32 : decode m_Ma_take.2.1 32 = .ok (.iadd, 1) := by decide +kernel
theorem d_Ma_take_33 : decode m_Ma_take.2.1 33 = .ok (.iaload, 1) := by decide +kernel
theorem d_Ma_take_34 : decode m_Ma_take.2.1 34 = .ok (.iadd, 1) := by decide +kernel
theorem d_Ma_take_35 : decode m_Ma_take.2.1 35 = .ok (.ireturn, 1) := by decide +kernel
theorem ma_take (hl : l.stackTraces = false) {h : Nat} (hX : MaAt σ (nI t) su dt dq aw) (t1 : σ[20]? = some (.inl (0, 144, .inl fun j => en (ty j)))) (t2 : σ[21]? = some (.inl (0, 144, .inl va))) (ht : t < 12) (hh : ty (t * 12 + 6) = some h) (h1 : 1 ≤ h) (h5 : h ≤ 5) : jl_m l G m_Ma_take [.ref 13] σ (.inl (some (.int (nI (t * 12 + 7 + (h - 1)))))) (σ.set 20 (.inl (0, 144, .inl fun j => en ((va_up ty (t * 12 + 6) (some (h - 1))) j)))) := by
  refine jl_of (as := [.ref 13]) rfl (by decide) hl (jl_cc rfl jl_ca) (Nat.le_of_ble_eq_true rfl) ?_
  show jl_W l G m_Ma_take (0, 0) 0 [some (.ref 13), none] [] (σ) (.inl (some (.int (nI (t * 12 + 7 + (h - 1)))))) (σ.set 20 (.inl (0, 144, .inl fun j => en ((va_up ty (t * 12 + 6) (some (h - 1))) j))))
  refine jr_aload_n d_Ma_take_0 rfl ?_
  refine jr_getf d_Ma_take_1 f_Ma_take_34 hX rfl ?_
  refine jr_bipush ((nI (12))) d_Ma_take_4 (by decide) ?_
  refine jr_imulN d_Ma_take_6 ?_
  refine jr_istore_n d_Ma_take_7 (by decide) ?_
  show jl_W l G m_Ma_take (0, 0) 8 [some (.ref 13), some (.int (nI ((t) * (12))))] [] (σ) (.inl (some (.int (nI (t * 12 + 7 + (h - 1)))))) (σ.set 20 (.inl (0, 144, .inl fun j => en ((va_up ty (t * 12 + 6) (some (h - 1))) j))))
  refine jr_aload_n d_Ma_take_8 rfl ?_
  refine jr_getf d_Ma_take_9 f_Ma_take_28 hX rfl ?_
  refine jr_iload_n d_Ma_take_12 rfl ?_
  refine jr_bipush ((nI (6))) d_Ma_take_13 (by decide) ?_
  refine jr_iaddN d_Ma_take_15 ?_
  refine jr_dup2 d_Ma_take_16 rfl rfl ?_
  refine jr_ialdQ (v := (nI (h))) d_Ma_take_17 t1 (by omega) (by omega) (congrArg en hh) ?_
  refine jr_iconst ((nI (1))) d_Ma_take_18 (by decide) ?_
  refine jr_isubN d_Ma_take_19 (by omega) ?_
  refine jr_iastN d_Ma_take_20 t1 (by omega) (by omega) ?_
  rw [show upd (fun j => en (ty j)) (((t) * (12)) + (6)) ((nI ((h) - (1)))) = (fun j => en ((va_up ty (((t) * (12)) + (6)) ((some ((h) - (1))))) j)) from en_up ty (((t) * (12)) + (6)) ((some ((h) - (1))))]
  show jl_W l G m_Ma_take (0, 0) 21 [some (.ref 13), some (.int (nI ((t) * (12))))] [] (σ.set (20) (.inl (0, 144, .inl (fun j => en ((va_up ty (((t) * (12)) + (6)) ((some ((h) - (1))))) j))))) (.inl (some (.int (nI (t * 12 + 7 + (h - 1)))))) (σ.set 20 (.inl (0, 144, .inl fun j => en ((va_up ty (t * 12 + 6) (some (h - 1))) j))))
  refine jr_iload_n d_Ma_take_21 rfl ?_
  refine jr_bipush ((nI (7))) d_Ma_take_22 (by decide) ?_
  refine jr_iaddN d_Ma_take_24 ?_
  refine jr_aload_n d_Ma_take_25 rfl ?_
  refine jr_getf d_Ma_take_26 f_Ma_take_28 (jl_sn (by decide) hX) rfl ?_
  refine jr_iload_n d_Ma_take_29 rfl ?_
  refine jr_bipush ((nI (6))) d_Ma_take_30 (by decide) ?_
  refine jr_iaddN d_Ma_take_32 ?_
  refine jr_ialdQ (v := (nI (h - 1))) d_Ma_take_33 (jl_ss t1) (by omega) (by omega) (congrArg en (va_up_self _ _ _)) ?_
  refine jr_iaddN d_Ma_take_34 ?_
  exact jr_iretE d_Ma_take_35 rfl (rfl) (rfl) (by decide) (by decide)
theorem d_Ma_put_0 : decode m_Ma_put.2.1 0 = .ok (.aload_n 0, 1) := by decide +kernel
theorem f_Ma_put_34 : jl_fd m_Ma_put 34 1 7 = true := by decide +kernel
theorem d_Ma_put_1 : decode m_Ma_put.2.1 1 = .ok (.getfield 34, 3) := by decide +kernel
theorem d_Ma_put_4 : decode m_Ma_put.2.1 4 = .ok (.bipush 12, 2) := by decide +kernel
theorem d_Ma_put_6 : decode m_Ma_put.2.1 6 = .ok (.imul, 1) := by decide +kernel
theorem d_Ma_put_7 : decode m_Ma_put.2.1 7 = .ok (.istore_n 3, 1) := by decide +kernel
theorem d_Ma_put_8 : decode m_Ma_put.2.1 8 = .ok (.iload_n 3, 1) := by decide +kernel
theorem d_Ma_put_9 : decode m_Ma_put.2.1 9 = .ok (.bipush 7, 2) := by decide +kernel
theorem d_Ma_put_11 : decode m_Ma_put.2.1 11 = .ok (.iadd, 1) := by decide +kernel
theorem d_Ma_put_12 : decode m_Ma_put.2.1 12 = .ok (.aload_n 0, 1) := by decide +kernel
theorem f_Ma_put_28 : jl_fd m_Ma_put 28 1 5 = true := by decide +kernel
theorem d_Ma_put_13 : decode m_Ma_put.2.1 13 = .ok (.getfield 28, 3) := by decide +kernel
theorem d_Ma_put_16 : decode m_Ma_put.2.1 16 = .ok (.iload_n 3, 1) := by decide +kernel
theorem d_Ma_put_17 : decode m_Ma_put.2.1 17 = .ok (.bipush 6, 2) := by decide +kernel
theorem d_Ma_put_19 : decode m_Ma_put.2.1 19 = .ok (.iadd, 1) := by decide +kernel
theorem d_Ma_put_20 : decode m_Ma_put.2.1 20 = .ok (.iaload, 1) := by decide +kernel
theorem d_Ma_put_21 : decode m_Ma_put.2.1 21 = .ok (.iadd, 1) := by decide +kernel
theorem d_Ma_put_22 : decode m_Ma_put.2.1 22 = .ok (.istore 4, 2) := by decide +kernel
theorem d_Ma_put_24 : decode m_Ma_put.2.1 24 = .ok (.aload_n 0, 1) := by decide +kernel
theorem d_Ma_put_25 : decode m_Ma_put.2.1 25 = .ok (.getfield 28, 3) := by decide +kernel
theorem d_Ma_put_28 : decode m_Ma_put.2.1 28 = .ok (.iload 4, 2) := by decide +kernel
theorem d_Ma_put_30 : decode m_Ma_put.2.1 30 = .ok (.iload_n 1, 1) := by decide +kernel
theorem d_Ma_put_31 : decode m_Ma_put.2.1 31 = .ok (.iastore, 1) := by decide +kernel
theorem d_Ma_put_32 : decode m_Ma_put.2.1 32 = .ok (.aload_n 0, 1) := by decide +kernel
theorem f_Ma_put_31 : jl_fd m_Ma_put 31 1 6 = true := by decide +kernel
theorem d_Ma_put_33 : decode m_Ma_put.2.1 33 = .ok (.getfield 31, 3) := by decide +kernel
theorem d_Ma_put_36 : decode m_Ma_put.2.1 36 = .ok (.iload 4, 2) := by decide +kernel
theorem d_Ma_put_38 : decode m_Ma_put.2.1 38 = .ok (.iload_n 2, 1) := by decide +kernel
theorem d_Ma_put_39 : decode m_Ma_put.2.1 39 = .ok (.iastore, 1) := by decide +kernel
theorem d_Ma_put_40 : decode m_Ma_put.2.1 40 = .ok (.aload_n 0, 1) := by decide +kernel
theorem d_Ma_put_41 : decode m_Ma_put.2.1 41 = .ok (.getfield 28, 3) := by decide +kernel
theorem d_Ma_put_44 : decode m_Ma_put.2.1 44 = .ok (.iload_n 3, 1) := by decide +kernel
theorem d_Ma_put_45 : decode m_Ma_put.2.1 45 = .ok (.bipush 6, 2) := by decide +kernel
theorem d_Ma_put_47 : decode m_Ma_put.2.1 47 = .ok (.iadd, 1) := by decide +kernel
theorem d_Ma_put_48 : decode m_Ma_put.2.1 48 = .ok (.dup2, 1) := by decide +kernel
theorem d_Ma_put_49 : decode m_Ma_put.2.1 49 = .ok (.iaload, 1) := by decide +kernel
theorem d_Ma_put_50 : decode m_Ma_put.2.1 50 = .ok (.iconst 1, 1) := by decide +kernel
theorem d_Ma_put_51 : decode m_Ma_put.2.1 51 = .ok (.iadd, 1) := by decide +kernel
theorem d_Ma_put_52 : decode m_Ma_put.2.1 52 = .ok (.iastore, 1) := by decide +kernel
theorem d_Ma_put_53 : decode m_Ma_put.2.1 53 = .ok (.return_, 1) := by decide +kernel
theorem ma_put (hl : l.stackTraces = false) {h : Nat} {y : Option Nat} {v : Int32} (hX : MaAt σ (nI t) su dt dq aw) (t1 : σ[20]? = some (.inl (0, 144, .inl fun j => en (ty j)))) (t2 : σ[21]? = some (.inl (0, 144, .inl va))) (ht : t < 12) (hh : ty (t * 12 + 6) = some h) (h5 : h < 5) : jl_m l G m_Ma_put [.ref 13, .int (en y), .int (v)] σ (.inl none) (((σ.set 20 (.inl (0, 144, .inl fun j => en ((va_up ty (t * 12 + 7 + h) y) j)))).set 21 (.inl (0, 144, .inl (upd va (t * 12 + 7 + h) v)))).set 20 (.inl (0, 144, .inl fun j => en ((va_up (va_up ty (t * 12 + 7 + h) y) (t * 12 + 6) (some (h + 1))) j)))) := by
  refine jl_of (as := [.ref 13, .int (en y), .int (v)]) rfl (by decide) hl (jl_cc rfl (jl_cc rfl (jl_cc rfl jl_ca))) (Nat.le_of_ble_eq_true rfl) ?_
  show jl_W l G m_Ma_put (0, 0) 0 [some (.ref 13), some (.int (en y)), some (.int (v)), none, none] [] (σ) (.inl none) (((σ.set 20 (.inl (0, 144, .inl fun j => en ((va_up ty (t * 12 + 7 + h) y) j)))).set 21 (.inl (0, 144, .inl (upd va (t * 12 + 7 + h) v)))).set 20 (.inl (0, 144, .inl fun j => en ((va_up (va_up ty (t * 12 + 7 + h) y) (t * 12 + 6) (some (h + 1))) j))))
  refine jr_aload_n d_Ma_put_0 rfl ?_
  refine jr_getf d_Ma_put_1 f_Ma_put_34 hX rfl ?_
  refine jr_bipush ((nI (12))) d_Ma_put_4 (by decide) ?_
  refine jr_imulN d_Ma_put_6 ?_
  refine jr_istore_n d_Ma_put_7 (by decide) ?_
  show jl_W l G m_Ma_put (0, 0) 8 [some (.ref 13), some (.int (en y)), some (.int (v)), some (.int (nI ((t) * (12)))), none] [] (σ) (.inl none) (((σ.set 20 (.inl (0, 144, .inl fun j => en ((va_up ty (t * 12 + 7 + h) y) j)))).set 21 (.inl (0, 144, .inl (upd va (t * 12 + 7 + h) v)))).set 20 (.inl (0, 144, .inl fun j => en ((va_up (va_up ty (t * 12 + 7 + h) y) (t * 12 + 6) (some (h + 1))) j))))
  refine jr_iload_n d_Ma_put_8 rfl ?_
  refine jr_bipush ((nI (7))) d_Ma_put_9 (by decide) ?_
  refine jr_iaddN d_Ma_put_11 ?_
  refine jr_aload_n d_Ma_put_12 rfl ?_
  refine jr_getf d_Ma_put_13 f_Ma_put_28 hX rfl ?_
  refine jr_iload_n d_Ma_put_16 rfl ?_
  refine jr_bipush ((nI (6))) d_Ma_put_17 (by decide) ?_
  refine jr_iaddN d_Ma_put_19 ?_
  refine jr_ialdQ (v := (nI (h))) d_Ma_put_20 t1 (by omega) (by omega) (congrArg en hh) ?_
  refine jr_iaddN d_Ma_put_21 ?_
  refine jr_istore d_Ma_put_22 (by decide) ?_
  show jl_W l G m_Ma_put (0, 0) 24 [some (.ref 13), some (.int (en y)), some (.int (v)), some (.int (nI ((t) * (12)))), some (.int (nI ((((t) * (12)) + (7)) + (h))))] [] (σ) (.inl none) (((σ.set 20 (.inl (0, 144, .inl fun j => en ((va_up ty (t * 12 + 7 + h) y) j)))).set 21 (.inl (0, 144, .inl (upd va (t * 12 + 7 + h) v)))).set 20 (.inl (0, 144, .inl fun j => en ((va_up (va_up ty (t * 12 + 7 + h) y) (t * 12 + 6) (some (h + 1))) j))))
  refine jr_aload_n d_Ma_put_24 rfl ?_
  refine jr_getf d_Ma_put_25 f_Ma_put_28 hX rfl ?_
  refine jr_iload d_Ma_put_28 rfl ?_
  refine jr_iload_n d_Ma_put_30 rfl ?_
  refine jr_iastN d_Ma_put_31 t1 (by omega) (by omega) ?_
  rw [show upd (fun j => en (ty j)) ((((t) * (12)) + (7)) + (h)) ((en y)) = (fun j => en ((va_up ty ((((t) * (12)) + (7)) + (h)) (y)) j)) from en_up ty ((((t) * (12)) + (7)) + (h)) (y)]
  show jl_W l G m_Ma_put (0, 0) 32 [some (.ref 13), some (.int (en y)), some (.int (v)), some (.int (nI ((t) * (12)))), some (.int (nI ((((t) * (12)) + (7)) + (h))))] [] (σ.set (20) (.inl (0, 144, .inl (fun j => en ((va_up ty ((((t) * (12)) + (7)) + (h)) (y)) j))))) (.inl none) (((σ.set 20 (.inl (0, 144, .inl fun j => en ((va_up ty (t * 12 + 7 + h) y) j)))).set 21 (.inl (0, 144, .inl (upd va (t * 12 + 7 + h) v)))).set 20 (.inl (0, 144, .inl fun j => en ((va_up (va_up ty (t * 12 + 7 + h) y) (t * 12 + 6) (some (h + 1))) j))))
  refine jr_aload_n d_Ma_put_32 rfl ?_
  refine jr_getf d_Ma_put_33 f_Ma_put_31 (jl_sn (by decide) hX) rfl ?_
  refine jr_iload d_Ma_put_36 rfl ?_
  refine jr_iload_n d_Ma_put_38 rfl ?_
  refine jr_iastN d_Ma_put_39 (jl_sn (by decide) t2) (by omega) (by omega) ?_
  show jl_W l G m_Ma_put (0, 0) 40 [some (.ref 13), some (.int (en y)), some (.int (v)), some (.int (nI ((t) * (12)))), some (.int (nI ((((t) * (12)) + (7)) + (h))))] [] ((σ.set (20) (.inl (0, 144, .inl (fun j => en ((va_up ty ((((t) * (12)) + (7)) + (h)) (y)) j))))).set (21) (.inl (0, 144, .inl (upd (va) ((((t) * (12)) + (7)) + (h)) ((v)))))) (.inl none) (((σ.set 20 (.inl (0, 144, .inl fun j => en ((va_up ty (t * 12 + 7 + h) y) j)))).set 21 (.inl (0, 144, .inl (upd va (t * 12 + 7 + h) v)))).set 20 (.inl (0, 144, .inl fun j => en ((va_up (va_up ty (t * 12 + 7 + h) y) (t * 12 + 6) (some (h + 1))) j))))
  refine jr_aload_n d_Ma_put_40 rfl ?_
  refine jr_getf d_Ma_put_41 f_Ma_put_28 (jl_sn (by decide) (jl_sn (by decide) hX)) rfl ?_
  refine jr_iload_n d_Ma_put_44 rfl ?_
  refine jr_bipush ((nI (6))) d_Ma_put_45 (by decide) ?_
  refine jr_iaddN d_Ma_put_47 ?_
  refine jr_dup2 d_Ma_put_48 rfl rfl ?_
  refine jr_ialdQ (v := (nI (h))) d_Ma_put_49 (jl_sn (by decide) (jl_ss t1)) (by omega) (by omega) (congrArg en ((va_up_ne _ _ (by omega)).trans hh)) ?_
  refine jr_iconst ((nI (1))) d_Ma_put_50 (by decide) ?_
  refine jr_iaddN d_Ma_put_51 ?_
  refine jr_iastN d_Ma_put_52 (jl_sn (by decide) (jl_ss t1)) (by omega) (by omega) ?_
  rw [show upd (fun j => en ((va_up ty ((((t) * (12)) + (7)) + (h)) (y)) j)) (((t) * (12)) + (6)) ((nI ((h) + (1)))) = (fun j => en ((va_up (va_up ty ((((t) * (12)) + (7)) + (h)) (y)) (((t) * (12)) + (6)) ((some ((h) + (1))))) j)) from en_up (va_up ty ((((t) * (12)) + (7)) + (h)) (y)) (((t) * (12)) + (6)) ((some ((h) + (1))))]
  show jl_W l G m_Ma_put (0, 0) 53 [some (.ref 13), some (.int (en y)), some (.int (v)), some (.int (nI ((t) * (12)))), some (.int (nI ((((t) * (12)) + (7)) + (h))))] [] (((σ.set (20) (.inl (0, 144, .inl (fun j => en ((va_up ty ((((t) * (12)) + (7)) + (h)) (y)) j))))).set (21) (.inl (0, 144, .inl (upd (va) ((((t) * (12)) + (7)) + (h)) ((v)))))).set (20) (.inl (0, 144, .inl (fun j => en ((va_up (va_up ty ((((t) * (12)) + (7)) + (h)) (y)) (((t) * (12)) + (6)) ((some ((h) + (1))))) j))))) (.inl none) (((σ.set 20 (.inl (0, 144, .inl fun j => en ((va_up ty (t * 12 + 7 + h) y) j)))).set 21 (.inl (0, 144, .inl (upd va (t * 12 + 7 + h) v)))).set 20 (.inl (0, 144, .inl fun j => en ((va_up (va_up ty (t * 12 + 7 + h) y) (t * 12 + 6) (some (h + 1))) j))))
  exact jr_vretE d_Ma_put_53 rfl (rfl) (rfl) (by decide) (by decide)
end JMaa
