/-! the model's machine: end, put, top, setLocal, next, drop (wip/gen/p97.py) -/
section JNg
variable {l : Launch} {G : jl_G} {σ : jl_S}
variable {fa vf wh wy hg dp md ov oh dn an : Int32} {d : Nat} {fx fp fh : Nat → Nat} {lv vl : Nat → Int32} {lk vk : Nat → Int32}
theorem d_Mo_end_0 : decode m_Mo_end.2.1 0 = .ok (.aload_n 0, 1) := by decide +kernel
theorem d_Mo_end_1 : decode m_Mo_end.2.1 1 = .ok (.iload_n 1, 1) := by decide +kernel
theorem p_Mo_end_108 : jl_fp m_Mo_end 108 7 37 = true := by decide +kernel
theorem d_Mo_end_2 : decode m_Mo_end.2.1 2 = .ok (.putfield 108, 3) := by decide +kernel
theorem d_Mo_end_5 : decode m_Mo_end.2.1 5 = .ok (.aload_n 0, 1) := by decide +kernel
theorem d_Mo_end_6 : decode m_Mo_end.2.1 6 = .ok (.iload_n 2, 1) := by decide +kernel
theorem p_Mo_end_221 : jl_fp m_Mo_end 221 7 38 = true := by decide +kernel
theorem d_Mo_end_7 : decode m_Mo_end.2.1 7 = .ok (.putfield 221, 3) := by decide +kernel
theorem d_Mo_end_10 : decode m_Mo_end.2.1 10 = .ok (.aload_n 0, 1) := by decide +kernel
theorem d_Mo_end_11 : decode m_Mo_end.2.1 11 = .ok (.iconst 0, 1) := by decide +kernel
theorem p_Mo_end_224 : jl_fp m_Mo_end 224 7 32 = true := by decide +kernel
theorem d_Mo_end_12 : decode m_Mo_end.2.1 12 = .ok (.putfield 224, 3) := by decide +kernel
theorem d_Mo_end_15 : decode m_Mo_end.2.1 15 = .ok (.return_, 1) := by decide +kernel
theorem mo_mend (hl : l.stackTraces = false) {a b : Int32} (hO : MoO σ fa vf wh wy hg dp md ov oh dn an)  : jl_m l G m_Mo_end [.ref 22, .int (a), .int (b)] σ (.inl none) (σ.set 22 (.inr (7, MoF fa vf wh wy hg (nI 0) md a b dn an))) := by
  refine jl_of (as := [.ref 22, .int (a), .int (b)]) rfl (by decide) hl (jl_cc rfl (jl_cc rfl (jl_cc rfl jl_ca))) (Nat.le_of_ble_eq_true rfl) ?_
  show jl_W l G m_Mo_end (0, 0) 0 [some (.ref 22), some (.int (a)), some (.int (b))] [] (σ) (.inl none) (σ.set 22 (.inr (7, MoF fa vf wh wy hg (nI 0) md a b dn an)))
  refine jr_aload_n d_Mo_end_0 rfl ?_
  refine jr_iload_n d_Mo_end_1 rfl ?_
  refine jr_putf d_Mo_end_2 p_Mo_end_108 hO (Nat.le_of_ble_eq_true rfl) jl_fit_int ?_
  show jl_W l G m_Mo_end (0, 0) 5 [some (.ref 22), some (.int (a)), some (.int (b))] [] (σ.set (22) (.inr (7, [.int (fa), .ref 23, .ref 24, .ref 25, .ref 26, .ref 27, .ref 28, .ref 29, .ref 30, .ref 31, .ref 32, .ref 33, .ref 34, .ref 35, .ref 36, .ref 37, .int (vf), .int (wh), .int (wy), .ref 38, .ref 39, .ref 40, .ref 41, .int (hg), .ref 42, .ref 43, .ref 44, .ref 45, .ref 46, .ref 47, .ref 48, .ref 49, .int (dp), .ref 50, .ref 51, .ref 52, .int (md), .int (a), .int (oh), .int (dn), .int (an)]))) (.inl none) (σ.set 22 (.inr (7, MoF fa vf wh wy hg (nI 0) md a b dn an)))
  refine jr_aload_n d_Mo_end_5 rfl ?_
  refine jr_iload_n d_Mo_end_6 rfl ?_
  refine jr_putf d_Mo_end_7 p_Mo_end_221 (jl_ss hO) (Nat.le_of_ble_eq_true rfl) jl_fit_int ?_
  show jl_W l G m_Mo_end (0, 0) 10 [some (.ref 22), some (.int (a)), some (.int (b))] [] ((σ.set (22) (.inr (7, [.int (fa), .ref 23, .ref 24, .ref 25, .ref 26, .ref 27, .ref 28, .ref 29, .ref 30, .ref 31, .ref 32, .ref 33, .ref 34, .ref 35, .ref 36, .ref 37, .int (vf), .int (wh), .int (wy), .ref 38, .ref 39, .ref 40, .ref 41, .int (hg), .ref 42, .ref 43, .ref 44, .ref 45, .ref 46, .ref 47, .ref 48, .ref 49, .int (dp), .ref 50, .ref 51, .ref 52, .int (md), .int (a), .int (oh), .int (dn), .int (an)]))).set (22) (.inr (7, [.int (fa), .ref 23, .ref 24, .ref 25, .ref 26, .ref 27, .ref 28, .ref 29, .ref 30, .ref 31, .ref 32, .ref 33, .ref 34, .ref 35, .ref 36, .ref 37, .int (vf), .int (wh), .int (wy), .ref 38, .ref 39, .ref 40, .ref 41, .int (hg), .ref 42, .ref 43, .ref 44, .ref 45, .ref 46, .ref 47, .ref 48, .ref 49, .int (dp), .ref 50, .ref 51, .ref 52, .int (md), .int (a), .int (b), .int (dn), .int (an)]))) (.inl none) (σ.set 22 (.inr (7, MoF fa vf wh wy hg (nI 0) md a b dn an)))
  refine jr_aload_n d_Mo_end_10 rfl ?_
  refine jr_iconst ((nI (0))) d_Mo_end_11 (by decide) ?_
  refine jr_putf d_Mo_end_12 p_Mo_end_224 (jl_ss (jl_ss hO)) (Nat.le_of_ble_eq_true rfl) jl_fit_int ?_
  show jl_W l G m_Mo_end (0, 0) 15 [some (.ref 22), some (.int (a)), some (.int (b))] [] (((σ.set (22) (.inr (7, [.int (fa), .ref 23, .ref 24, .ref 25, .ref 26, .ref 27, .ref 28, .ref 29, .ref 30, .ref 31, .ref 32, .ref 33, .ref 34, .ref 35, .ref 36, .ref 37, .int (vf), .int (wh), .int (wy), .ref 38, .ref 39, .ref 40, .ref 41, .int (hg), .ref 42, .ref 43, .ref 44, .ref 45, .ref 46, .ref 47, .ref 48, .ref 49, .int (dp), .ref 50, .ref 51, .ref 52, .int (md), .int (a), .int (oh), .int (dn), .int (an)]))).set (22) (.inr (7, [.int (fa), .ref 23, .ref 24, .ref 25, .ref 26, .ref 27, .ref 28, .ref 29, .ref 30, .ref 31, .ref 32, .ref 33, .ref 34, .ref 35, .ref 36, .ref 37, .int (vf), .int (wh), .int (wy), .ref 38, .ref 39, .ref 40, .ref 41, .int (hg), .ref 42, .ref 43, .ref 44, .ref 45, .ref 46, .ref 47, .ref 48, .ref 49, .int (dp), .ref 50, .ref 51, .ref 52, .int (md), .int (a), .int (b), .int (dn), .int (an)]))).set (22) (.inr (7, [.int (fa), .ref 23, .ref 24, .ref 25, .ref 26, .ref 27, .ref 28, .ref 29, .ref 30, .ref 31, .ref 32, .ref 33, .ref 34, .ref 35, .ref 36, .ref 37, .int (vf), .int (wh), .int (wy), .ref 38, .ref 39, .ref 40, .ref 41, .int (hg), .ref 42, .ref 43, .ref 44, .ref 45, .ref 46, .ref 47, .ref 48, .ref 49, .int (nI 0), .ref 50, .ref 51, .ref 52, .int (md), .int (a), .int (b), .int (dn), .int (an)]))) (.inl none) (σ.set 22 (.inr (7, MoF fa vf wh wy hg (nI 0) md a b dn an)))
  exact jr_vretE d_Mo_end_15 rfl (rfl) (by rw [List.set_set, List.set_set]) (by decide) (by decide)
theorem d_Mo_top_0 : decode m_Mo_top.2.1 0 = .ok (.aload_n 0, 1) := by decide +kernel
theorem f_Mo_top_224 : jl_fd m_Mo_top 224 7 32 = true := by decide +kernel
theorem d_Mo_top_1 : decode m_Mo_top.2.1 1 = .ok (.getfield 224, 3) := by decide +kernel
theorem d_Mo_top_4 : decode m_Mo_top.2.1 4 = .ok (.iconst 1, 1) := by decide +kernel
theorem d_Mo_top_5 : decode m_Mo_top.2.1 5 = .ok (.isub, 1) := by decide +kernel
theorem d_Mo_top_6 : decode m_Mo_top.2.1 6 = .ok (.istore_n 2, 1) := by decide +kernel
theorem d_Mo_top_7 : decode m_Mo_top.2.1 7 = .ok (.aload_n 0, 1) := by decide +kernel
theorem f_Mo_top_93 : jl_fd m_Mo_top 93 7 30 = true := by decide +kernel
theorem d_Mo_top_8 : decode m_Mo_top.2.1 8 = .ok (.getfield 93, 3) := by decide +kernel
theorem d_Mo_top_11 : decode m_Mo_top.2.1 11 = .ok (.iconst 5, 1) := by decide +kernel
theorem d_Mo_top_12 : decode m_Mo_top.2.1 12 = .ok (.iload_n 2, 1) := by decide +kernel
theorem d_Mo_top_13 : decode m_Mo_top.2.1 13 = .ok (.imul, 1) := by decide +kernel
theorem d_Mo_top_14 : decode m_Mo_top.2.1 14 = .ok (.aload_n 0, 1) := by decide +kernel
theorem f_Mo_top_84 : jl_fd m_Mo_top 84 7 27 = true := by decide +kernel
theorem d_Mo_top_15 : decode m_Mo_top.2.1 15 = .ok (.getfield 84, 3) := by decide +kernel
theorem d_Mo_top_18 : decode m_Mo_top.2.1 18 = .ok (.iload_n 2, 1) := by decide +kernel
theorem d_Mo_top_19 : decode m_Mo_top.2.1 19 = .ok (.iaload, 1) := by decide +kernel
theorem d_Mo_top_20 : decode m_Mo_top.2.1 20 = .ok (.iadd, 1) := by decide +kernel
theorem d_Mo_top_21 : decode m_Mo_top.2.1 21 = .ok (.iload_n 1, 1) := by decide +kernel
theorem d_Mo_top_22 : decode m_Mo_top.2.1 22 = .ok (.isub, 1) := by decide +kernel
theorem d_Mo_top_23 : decode m_Mo_top.2.1 23 = .ok (.iaload, 1) := by decide +kernel
theorem d_Mo_top_24 : decode m_Mo_top.2.1 24 = .ok (.ireturn, 1) := by decide +kernel
theorem mo_mtop (hl : l.stackTraces = false) {h n : Nat} (hO : MoO σ fa vf wh wy hg (nI (d + 1)) md ov oh dn an) (f3 : σ[45]? = some (.inl (0, 13, .inl fun j => nI (fh j)))) (f6 : σ[48]? = some (.inl (0, 65, .inl vl))) (hd : d < 12) (hh : fh d = h) (h5 : h ≤ 5) (h1 : 1 ≤ n) (hn : n ≤ h) : jl_m l G m_Mo_top [.ref 22, .int (nI n)] σ (.inl (some (.int (vl (5 * d + h - n))))) (σ) := by
  refine jl_of (as := [.ref 22, .int (nI n)]) rfl (by decide) hl (jl_cc rfl (jl_cc rfl jl_ca)) (Nat.le_of_ble_eq_true rfl) ?_
  show jl_W l G m_Mo_top (0, 0) 0 [some (.ref 22), some (.int (nI n)), none] [] (σ) (.inl (some (.int (vl (5 * d + h - n))))) (σ)
  refine jr_aload_n d_Mo_top_0 rfl ?_
  refine jr_getf d_Mo_top_1 f_Mo_top_224 hO rfl ?_
  refine jr_iconst ((nI (1))) d_Mo_top_4 (by decide) ?_
  refine jr_isubN d_Mo_top_5 (by omega) ?_
  refine jr_istore_n d_Mo_top_6 (by decide) ?_
  show jl_W l G m_Mo_top (0, 0) 7 [some (.ref 22), some (.int (nI n)), some (.int (nI ((d + 1) - (1))))] [] (σ) (.inl (some (.int (vl (5 * d + h - n))))) (σ)
  show jl_W l G m_Mo_top (0, 0) 7 [some (.ref 22), some (.int (nI n)), some (.int (nI d))] [] (σ) (.inl (some (.int (vl (5 * d + h - n))))) (σ)
  refine jr_aload_n d_Mo_top_7 rfl ?_
  refine jr_getf d_Mo_top_8 f_Mo_top_93 hO rfl ?_
  refine jr_iconst ((nI (5))) d_Mo_top_11 (by decide) ?_
  refine jr_iload_n d_Mo_top_12 rfl ?_
  refine jr_imulN d_Mo_top_13 ?_
  refine jr_aload_n d_Mo_top_14 rfl ?_
  refine jr_getf d_Mo_top_15 f_Mo_top_84 hO rfl ?_
  refine jr_iload_n d_Mo_top_18 rfl ?_
  refine jr_ialdQ (v := (nI (h))) d_Mo_top_19 f3 (by omega) (by omega) (congrArg nI hh) ?_
  refine jr_iaddN d_Mo_top_20 ?_
  refine jr_iload_n d_Mo_top_21 rfl ?_
  refine jr_isubN d_Mo_top_22 (by omega) ?_
  refine jr_ialdN d_Mo_top_23 f6 (by omega) (by omega) ?_
  exact jr_iretE d_Mo_top_24 rfl (rfl) (rfl) (by decide) (by decide)
theorem d_Mo_next_0 : decode m_Mo_next.2.1 0 = .ok (.aload_n 0, 1) := by decide +kernel
theorem f_Mo_next_81 : jl_fd m_Mo_next 81 7 26 = true := by decide +kernel
theorem d_Mo_next_1 : decode m_Mo_next.2.1 1 = .ok (.getfield 81, 3) := by decide +kernel
theorem d_Mo_next_4 : decode m_Mo_next.2.1 4 = .ok (.aload_n 0, 1) := by decide +kernel
theorem f_Mo_next_224 : jl_fd m_Mo_next 224 7 32 = true := by decide +kernel
theorem d_Mo_next_5 : decode m_Mo_next.2.1 5 = .ok (.getfield 224, 3) := by decide +kernel
theorem d_Mo_next_8 : decode m_Mo_next.2.1 8 = .ok (.iconst 1, 1) := by decide +kernel
theorem d_Mo_next_9 : decode m_Mo_next.2.1 9 = .ok (.isub, 1) := by decide +kernel
theorem d_Mo_next_10 : decode m_Mo_next.2.1 10 = .ok (.dup2, 1) := by decide +kernel
theorem d_Mo_next_11 : decode m_Mo_next.2.1 11 = .ok (.iaload, 1) := by decide +kernel
theorem d_Mo_next_12 : decode m_Mo_next.2.1 12 = .ok (.iconst 1, 1) := by decide +kernel
theorem d_Mo_next_13 : decode m_Mo_next.2.1 13 = .ok (.iadd, 1) := by decide +kernel
theorem d_Mo_next_14 : decode m_Mo_next.2.1 14 = .ok (.iastore, 1) := by decide +kernel
theorem d_Mo_next_15 : decode m_Mo_next.2.1 15 = .ok (.return_, 1) := by decide +kernel
theorem mo_mnext (hl : l.stackTraces = false) {p : Nat} (hO : MoO σ fa vf wh wy hg (nI (d + 1)) md ov oh dn an) (f2 : σ[44]? = some (.inl (0, 13, .inl fun j => nI (fp j)))) (hd : d < 12) (hh : fp d = p) : jl_m l G m_Mo_next [.ref 22] σ (.inl none) (σ.set 44 (.inl (0, 13, .inl fun j => nI (va_up fp d (p + 1) j)))) := by
  refine jl_of (as := [.ref 22]) rfl (by decide) hl (jl_cc rfl jl_ca) (Nat.le_of_ble_eq_true rfl) ?_
  show jl_W l G m_Mo_next (0, 0) 0 [some (.ref 22)] [] (σ) (.inl none) (σ.set 44 (.inl (0, 13, .inl fun j => nI (va_up fp d (p + 1) j))))
  refine jr_aload_n d_Mo_next_0 rfl ?_
  refine jr_getf d_Mo_next_1 f_Mo_next_81 hO rfl ?_
  refine jr_aload_n d_Mo_next_4 rfl ?_
  refine jr_getf d_Mo_next_5 f_Mo_next_224 hO rfl ?_
  refine jr_iconst ((nI (1))) d_Mo_next_8 (by decide) ?_
  refine jr_isubN d_Mo_next_9 (by omega) ?_
  refine jr_dup2 d_Mo_next_10 rfl rfl ?_
  refine jr_ialdQ (v := (nI (p))) d_Mo_next_11 f2 (by omega) (by omega) (congrArg nI hh) ?_
  refine jr_iconst ((nI (1))) d_Mo_next_12 (by decide) ?_
  refine jr_iaddN d_Mo_next_13 ?_
  refine jr_iastN d_Mo_next_14 f2 (by omega) (by omega) ?_
  rw [show upd (fun j => nI (fp j)) ((d + 1) - (1)) ((nI ((p) + (1)))) = (fun j => nI ((va_up fp ((d + 1) - (1)) ((p) + (1))) j)) from nI_up fp ((d + 1) - (1)) ((p) + (1))]
  show jl_W l G m_Mo_next (0, 0) 15 [some (.ref 22)] [] (σ.set (44) (.inl (0, 13, .inl (fun j => nI ((va_up fp ((d + 1) - (1)) ((p) + (1))) j))))) (.inl none) (σ.set 44 (.inl (0, 13, .inl fun j => nI (va_up fp d (p + 1) j))))
  exact jr_vretE d_Mo_next_15 rfl (rfl) (rfl) (by decide) (by decide)
theorem d_Mo_drop_0 : decode m_Mo_drop.2.1 0 = .ok (.aload_n 0, 1) := by decide +kernel
theorem f_Mo_drop_84 : jl_fd m_Mo_drop 84 7 27 = true := by decide +kernel
theorem d_Mo_drop_1 : decode m_Mo_drop.2.1 1 = .ok (.getfield 84, 3) := by decide +kernel
theorem d_Mo_drop_4 : decode m_Mo_drop.2.1 4 = .ok (.aload_n 0, 1) := by decide +kernel
theorem f_Mo_drop_224 : jl_fd m_Mo_drop 224 7 32 = true := by decide +kernel
theorem d_Mo_drop_5 : decode m_Mo_drop.2.1 5 = .ok (.getfield 224, 3) := by decide +kernel
theorem d_Mo_drop_8 : decode m_Mo_drop.2.1 8 = .ok (.iconst 1, 1) := by decide +kernel
theorem d_Mo_drop_9 : decode m_Mo_drop.2.1 9 = .ok (.isub, 1) := by decide +kernel
theorem d_Mo_drop_10 : decode m_Mo_drop.2.1 10 = .ok (.dup2, 1) := by decide +kernel
theorem d_Mo_drop_11 : decode m_Mo_drop.2.1 11 = .ok (.iaload, 1) := by decide +kernel
theorem d_Mo_drop_12 : decode m_Mo_drop.2.1 12 = .ok (.iload_n 1, 1) := by decide +kernel
theorem d_Mo_drop_13 : decode m_Mo_drop.2.1 13 = .ok (.isub, 1) := by decide +kernel
theorem d_Mo_drop_14 : decode m_Mo_drop.2.1 14 = .ok (.iastore, 1) := by decide +kernel
theorem d_Mo_drop_15 : decode m_Mo_drop.2.1 15 = .ok (.return_, 1) := by decide +kernel
theorem mo_mdrop (hl : l.stackTraces = false) {h n : Nat} (hO : MoO σ fa vf wh wy hg (nI (d + 1)) md ov oh dn an) (f3 : σ[45]? = some (.inl (0, 13, .inl fun j => nI (fh j)))) (hd : d < 12) (hh : fh d = h) (hn : n ≤ h) : jl_m l G m_Mo_drop [.ref 22, .int (nI n)] σ (.inl none) (σ.set 45 (.inl (0, 13, .inl fun j => nI (va_up fh d (h - n) j)))) := by
  refine jl_of (as := [.ref 22, .int (nI n)]) rfl (by decide) hl (jl_cc rfl (jl_cc rfl jl_ca)) (Nat.le_of_ble_eq_true rfl) ?_
  show jl_W l G m_Mo_drop (0, 0) 0 [some (.ref 22), some (.int (nI n))] [] (σ) (.inl none) (σ.set 45 (.inl (0, 13, .inl fun j => nI (va_up fh d (h - n) j))))
  refine jr_aload_n d_Mo_drop_0 rfl ?_
  refine jr_getf d_Mo_drop_1 f_Mo_drop_84 hO rfl ?_
  refine jr_aload_n d_Mo_drop_4 rfl ?_
  refine jr_getf d_Mo_drop_5 f_Mo_drop_224 hO rfl ?_
  refine jr_iconst ((nI (1))) d_Mo_drop_8 (by decide) ?_
  refine jr_isubN d_Mo_drop_9 (by omega) ?_
  refine jr_dup2 d_Mo_drop_10 rfl rfl ?_
  refine jr_ialdQ (v := (nI (h))) d_Mo_drop_11 f3 (by omega) (by omega) (congrArg nI hh) ?_
  refine jr_iload_n d_Mo_drop_12 rfl ?_
  refine jr_isubN d_Mo_drop_13 (by omega) ?_
  refine jr_iastN d_Mo_drop_14 f3 (by omega) (by omega) ?_
  rw [show upd (fun j => nI (fh j)) ((d + 1) - (1)) ((nI ((h) - (n)))) = (fun j => nI ((va_up fh ((d + 1) - (1)) ((h) - (n))) j)) from nI_up fh ((d + 1) - (1)) ((h) - (n))]
  show jl_W l G m_Mo_drop (0, 0) 15 [some (.ref 22), some (.int (nI n))] [] (σ.set (45) (.inl (0, 13, .inl (fun j => nI ((va_up fh ((d + 1) - (1)) ((h) - (n))) j))))) (.inl none) (σ.set 45 (.inl (0, 13, .inl fun j => nI (va_up fh d (h - n) j))))
  exact jr_vretE d_Mo_drop_15 rfl (rfl) (rfl) (by decide) (by decide)
theorem d_Mo_setLocal_0 : decode m_Mo_setLocal.2.1 0 = .ok (.aload_n 0, 1) := by decide +kernel
theorem f_Mo_setLocal_90 : jl_fd m_Mo_setLocal 90 7 29 = true := by decide +kernel
theorem d_Mo_setLocal_1 : decode m_Mo_setLocal.2.1 1 = .ok (.getfield 90, 3) := by decide +kernel
theorem d_Mo_setLocal_4 : decode m_Mo_setLocal.2.1 4 = .ok (.bipush 6, 2) := by decide +kernel
theorem d_Mo_setLocal_6 : decode m_Mo_setLocal.2.1 6 = .ok (.iload_n 1, 1) := by decide +kernel
theorem d_Mo_setLocal_7 : decode m_Mo_setLocal.2.1 7 = .ok (.imul, 1) := by decide +kernel
theorem d_Mo_setLocal_8 : decode m_Mo_setLocal.2.1 8 = .ok (.iload_n 2, 1) := by decide +kernel
theorem d_Mo_setLocal_9 : decode m_Mo_setLocal.2.1 9 = .ok (.iadd, 1) := by decide +kernel
theorem d_Mo_setLocal_10 : decode m_Mo_setLocal.2.1 10 = .ok (.iload_n 3, 1) := by decide +kernel
theorem d_Mo_setLocal_11 : decode m_Mo_setLocal.2.1 11 = .ok (.iastore, 1) := by decide +kernel
theorem d_Mo_setLocal_12 : decode m_Mo_setLocal.2.1 12 = .ok (.aload_n 0, 1) := by decide +kernel
theorem f_Mo_setLocal_87 : jl_fd m_Mo_setLocal 87 7 28 = true := by decide +kernel
theorem d_Mo_setLocal_13 : decode m_Mo_setLocal.2.1 13 = .ok (.getfield 87, 3) := by decide +kernel
theorem d_Mo_setLocal_16 : decode m_Mo_setLocal.2.1 16 = .ok (.bipush 6, 2) := by decide +kernel
theorem d_Mo_setLocal_18 : decode m_Mo_setLocal.2.1 18 = .ok (.iload_n 1, 1) := by decide +kernel
theorem d_Mo_setLocal_19 : decode m_Mo_setLocal.2.1 19 = .ok (.imul, 1) := by decide +kernel
theorem d_Mo_setLocal_20 : decode m_Mo_setLocal.2.1 20 = .ok (.iload_n 2, 1) := by decide +kernel
theorem d_Mo_setLocal_21 : decode m_Mo_setLocal.2.1 21 = .ok (.iadd, 1) := by decide +kernel
theorem d_Mo_setLocal_22 : decode m_Mo_setLocal.2.1 22 = .ok (.iload 4, 2) := by decide +kernel
theorem d_Mo_setLocal_24 : decode m_Mo_setLocal.2.1 24 = .ok (.iastore, 1) := by decide +kernel
theorem d_Mo_setLocal_25 : decode m_Mo_setLocal.2.1 25 = .ok (.return_, 1) := by decide +kernel
theorem mo_mlocal (hl : l.stackTraces = false) {f k : Nat} {a b : Int32} (hO : MoO σ fa vf wh wy hg dp md ov oh dn an) (f4 : σ[46]? = some (.inl (0, 78, .inl lv))) (f5 : σ[47]? = some (.inl (0, 78, .inl lk))) (hf : f < 13) (hk : k < 6) : jl_m l G m_Mo_setLocal [.ref 22, .int (nI f), .int (nI k), .int (a), .int (b)] σ (.inl none) ((σ.set 47 (.inl (0, 78, .inl (upd lk (6 * f + k) a)))).set 46 (.inl (0, 78, .inl (upd lv (6 * f + k) b)))) := by
  refine jl_of (as := [.ref 22, .int (nI f), .int (nI k), .int (a), .int (b)]) rfl (by decide) hl (jl_cc rfl (jl_cc rfl (jl_cc rfl (jl_cc rfl (jl_cc rfl jl_ca))))) (Nat.le_of_ble_eq_true rfl) ?_
  show jl_W l G m_Mo_setLocal (0, 0) 0 [some (.ref 22), some (.int (nI f)), some (.int (nI k)), some (.int (a)), some (.int (b))] [] (σ) (.inl none) ((σ.set 47 (.inl (0, 78, .inl (upd lk (6 * f + k) a)))).set 46 (.inl (0, 78, .inl (upd lv (6 * f + k) b))))
  refine jr_aload_n d_Mo_setLocal_0 rfl ?_
  refine jr_getf d_Mo_setLocal_1 f_Mo_setLocal_90 hO rfl ?_
  refine jr_bipush ((nI (6))) d_Mo_setLocal_4 (by decide) ?_
  refine jr_iload_n d_Mo_setLocal_6 rfl ?_
  refine jr_imulN d_Mo_setLocal_7 ?_
  refine jr_iload_n d_Mo_setLocal_8 rfl ?_
  refine jr_iaddN d_Mo_setLocal_9 ?_
  refine jr_iload_n d_Mo_setLocal_10 rfl ?_
  refine jr_iastN d_Mo_setLocal_11 f5 (by omega) (by omega) ?_
  show jl_W l G m_Mo_setLocal (0, 0) 12 [some (.ref 22), some (.int (nI f)), some (.int (nI k)), some (.int (a)), some (.int (b))] [] (σ.set (47) (.inl (0, 78, .inl (upd (lk) (((6) * (f)) + (k)) ((a)))))) (.inl none) ((σ.set 47 (.inl (0, 78, .inl (upd lk (6 * f + k) a)))).set 46 (.inl (0, 78, .inl (upd lv (6 * f + k) b))))
  refine jr_aload_n d_Mo_setLocal_12 rfl ?_
  refine jr_getf d_Mo_setLocal_13 f_Mo_setLocal_87 (jl_sn (by decide) hO) rfl ?_
  refine jr_bipush ((nI (6))) d_Mo_setLocal_16 (by decide) ?_
  refine jr_iload_n d_Mo_setLocal_18 rfl ?_
  refine jr_imulN d_Mo_setLocal_19 ?_
  refine jr_iload_n d_Mo_setLocal_20 rfl ?_
  refine jr_iaddN d_Mo_setLocal_21 ?_
  refine jr_iload d_Mo_setLocal_22 rfl ?_
  refine jr_iastN d_Mo_setLocal_24 (jl_sn (by decide) f4) (by omega) (by omega) ?_
  show jl_W l G m_Mo_setLocal (0, 0) 25 [some (.ref 22), some (.int (nI f)), some (.int (nI k)), some (.int (a)), some (.int (b))] [] ((σ.set (47) (.inl (0, 78, .inl (upd (lk) (((6) * (f)) + (k)) ((a)))))).set (46) (.inl (0, 78, .inl (upd (lv) (((6) * (f)) + (k)) ((b)))))) (.inl none) ((σ.set 47 (.inl (0, 78, .inl (upd lk (6 * f + k) a)))).set 46 (.inl (0, 78, .inl (upd lv (6 * f + k) b))))
  exact jr_vretE d_Mo_setLocal_25 rfl (rfl) (rfl) (by decide) (by decide)
theorem d_Mo_put_0 : decode m_Mo_put.2.1 0 = .ok (.aload_n 0, 1) := by decide +kernel
theorem f_Mo_put_224 : jl_fd m_Mo_put 224 7 32 = true := by decide +kernel
theorem d_Mo_put_1 : decode m_Mo_put.2.1 1 = .ok (.getfield 224, 3) := by decide +kernel
theorem d_Mo_put_4 : decode m_Mo_put.2.1 4 = .ok (.iconst 1, 1) := by decide +kernel
theorem d_Mo_put_5 : decode m_Mo_put.2.1 5 = .ok (.isub, 1) := by decide +kernel
theorem d_Mo_put_6 : decode m_Mo_put.2.1 6 = .ok (.istore_n 3, 1) := by decide +kernel
theorem d_Mo_put_7 : decode m_Mo_put.2.1 7 = .ok (.aload_n 0, 1) := by decide +kernel
theorem f_Mo_put_96 : jl_fd m_Mo_put 96 7 31 = true := by decide +kernel
theorem d_Mo_put_8 : decode m_Mo_put.2.1 8 = .ok (.getfield 96, 3) := by decide +kernel
theorem d_Mo_put_11 : decode m_Mo_put.2.1 11 = .ok (.iconst 5, 1) := by decide +kernel
theorem d_Mo_put_12 : decode m_Mo_put.2.1 12 = .ok (.iload_n 3, 1) := by decide +kernel
theorem d_Mo_put_13 : decode m_Mo_put.2.1 13 = .ok (.imul, 1) := by decide +kernel
theorem d_Mo_put_14 : decode m_Mo_put.2.1 14 = .ok (.aload_n 0, 1) := by decide +kernel
theorem f_Mo_put_84 : jl_fd m_Mo_put 84 7 27 = true := by decide +kernel
theorem d_Mo_put_15 : decode m_Mo_put.2.1 15 = .ok (.getfield 84, 3) := by decide +kernel
theorem d_Mo_put_18 : decode m_Mo_put.2.1 18 = .ok (.iload_n 3, 1) := by decide +kernel
theorem d_Mo_put_19 : decode m_Mo_put.2.1 19 = .ok (.iaload, 1) := by decide +kernel
theorem d_Mo_put_20 : decode m_Mo_put.2.1 20 = .ok (.iadd, 1) := by decide +kernel
theorem d_Mo_put_21 : decode m_Mo_put.2.1 21 = .ok (.iload_n 1, 1) := by decide +kernel
theorem d_Mo_put_22 : decode m_Mo_put.2.1 22 = .ok (.iastore, 1) := by decide +kernel
theorem d_Mo_put_23 : decode m_Mo_put.2.1 23 = .ok (.aload_n 0, 1) := by decide +kernel
theorem f_Mo_put_93 : jl_fd m_Mo_put 93 7 30 = true := by decide +kernel
theorem d_Mo_put_24 : decode m_Mo_put.2.1 24 = .ok (.getfield 93, 3) := by decide +kernel
theorem d_Mo_put_27 : decode m_Mo_put.2.1 27 = .ok (.iconst 5, 1) := by decide +kernel
theorem d_Mo_put_28 : decode m_Mo_put.2.1 28 = .ok (.iload_n 3, 1) := by decide +kernel
theorem d_Mo_put_29 : decode m_Mo_put.2.1 29 = .ok (.imul, 1) := by decide +kernel
theorem d_Mo_put_30 : decode m_Mo_put.2.1 30 = .ok (.aload_n 0, 1) := by decide +kernel
theorem d_Mo_put_31 : decode m_Mo_put.2.1 31 = .ok (.getfield 84, 3) := by decide +kernel
theorem d_Mo_put_34 : decode m_Mo_put.2.1 34 = .ok (.iload_n 3, 1) := by decide +kernel
theorem d_Mo_put_35 : decode m_Mo_put.2.1 35 = .ok (.iaload, 1) := by decide +kernel
theorem d_Mo_put_36 : decode m_Mo_put.2.1 36 = .ok (.iadd, 1) := by decide +kernel
theorem d_Mo_put_37 : decode m_Mo_put.2.1 37 = .ok (.iload_n 2, 1) := by decide +kernel
theorem d_Mo_put_38 : decode m_Mo_put.2.1 38 = .ok (.iastore, 1) := by decide +kernel
theorem d_Mo_put_39 : decode m_Mo_put.2.1 39 = .ok (.aload_n 0, 1) := by decide +kernel
theorem d_Mo_put_40 : decode m_Mo_put.2.1 40 = .ok (.getfield 84, 3) := by decide +kernel
theorem d_Mo_put_43 : decode m_Mo_put.2.1 43 = .ok (.iload_n 3, 1) := by decide +kernel
theorem d_Mo_put_44 : decode m_Mo_put.2.1 44 = .ok (.dup2, 1) := by decide +kernel
theorem d_Mo_put_45 : decode m_Mo_put.2.1 45 = .ok (.iaload, 1) := by decide +kernel
theorem d_Mo_put_46 : decode m_Mo_put.2.1 46 = .ok (.iconst 1, 1) := by decide +kernel
theorem d_Mo_put_47 : decode m_Mo_put.2.1 47 = .ok (.iadd, 1) := by decide +kernel
theorem d_Mo_put_48 : decode m_Mo_put.2.1 48 = .ok (.iastore, 1) := by decide +kernel
theorem d_Mo_put_49 : decode m_Mo_put.2.1 49 = .ok (.return_, 1) := by decide +kernel
theorem mo_mput (hl : l.stackTraces = false) {h : Nat} {a b : Int32} (hO : MoO σ fa vf wh wy hg (nI (d + 1)) md ov oh dn an) (f3 : σ[45]? = some (.inl (0, 13, .inl fun j => nI (fh j)))) (f6 : σ[48]? = some (.inl (0, 65, .inl vl))) (f7 : σ[49]? = some (.inl (0, 65, .inl vk))) (hd : d < 12) (hh : fh d = h) (h5 : h < 5) : jl_m l G m_Mo_put [.ref 22, .int (a), .int (b)] σ (.inl none) (((σ.set 49 (.inl (0, 65, .inl (upd vk (5 * d + h) a)))).set 48 (.inl (0, 65, .inl (upd vl (5 * d + h) b)))).set 45 (.inl (0, 13, .inl fun j => nI (va_up fh d (h + 1) j)))) := by
  refine jl_of (as := [.ref 22, .int (a), .int (b)]) rfl (by decide) hl (jl_cc rfl (jl_cc rfl (jl_cc rfl jl_ca))) (Nat.le_of_ble_eq_true rfl) ?_
  show jl_W l G m_Mo_put (0, 0) 0 [some (.ref 22), some (.int (a)), some (.int (b)), none] [] (σ) (.inl none) (((σ.set 49 (.inl (0, 65, .inl (upd vk (5 * d + h) a)))).set 48 (.inl (0, 65, .inl (upd vl (5 * d + h) b)))).set 45 (.inl (0, 13, .inl fun j => nI (va_up fh d (h + 1) j))))
  refine jr_aload_n d_Mo_put_0 rfl ?_
  refine jr_getf d_Mo_put_1 f_Mo_put_224 hO rfl ?_
  refine jr_iconst ((nI (1))) d_Mo_put_4 (by decide) ?_
  refine jr_isubN d_Mo_put_5 (by omega) ?_
  refine jr_istore_n d_Mo_put_6 (by decide) ?_
  show jl_W l G m_Mo_put (0, 0) 7 [some (.ref 22), some (.int (a)), some (.int (b)), some (.int (nI ((d + 1) - (1))))] [] (σ) (.inl none) (((σ.set 49 (.inl (0, 65, .inl (upd vk (5 * d + h) a)))).set 48 (.inl (0, 65, .inl (upd vl (5 * d + h) b)))).set 45 (.inl (0, 13, .inl fun j => nI (va_up fh d (h + 1) j))))
  show jl_W l G m_Mo_put (0, 0) 7 [some (.ref 22), some (.int (a)), some (.int (b)), some (.int (nI d))] [] (σ) (.inl none) (((σ.set 49 (.inl (0, 65, .inl (upd vk (5 * d + h) a)))).set 48 (.inl (0, 65, .inl (upd vl (5 * d + h) b)))).set 45 (.inl (0, 13, .inl fun j => nI (va_up fh d (h + 1) j))))
  refine jr_aload_n d_Mo_put_7 rfl ?_
  refine jr_getf d_Mo_put_8 f_Mo_put_96 hO rfl ?_
  refine jr_iconst ((nI (5))) d_Mo_put_11 (by decide) ?_
  refine jr_iload_n d_Mo_put_12 rfl ?_
  refine jr_imulN d_Mo_put_13 ?_
  refine jr_aload_n d_Mo_put_14 rfl ?_
  refine jr_getf d_Mo_put_15 f_Mo_put_84 hO rfl ?_
  refine jr_iload_n d_Mo_put_18 rfl ?_
  refine jr_ialdQ (v := (nI (h))) d_Mo_put_19 f3 (by omega) (by omega) (congrArg nI hh) ?_
  refine jr_iaddN d_Mo_put_20 ?_
  refine jr_iload_n d_Mo_put_21 rfl ?_
  refine jr_iastN d_Mo_put_22 f7 (by omega) (by omega) ?_
  show jl_W l G m_Mo_put (0, 0) 23 [some (.ref 22), some (.int (a)), some (.int (b)), some (.int (nI d))] [] (σ.set (49) (.inl (0, 65, .inl (upd (vk) (((5) * (d)) + (h)) ((a)))))) (.inl none) (((σ.set 49 (.inl (0, 65, .inl (upd vk (5 * d + h) a)))).set 48 (.inl (0, 65, .inl (upd vl (5 * d + h) b)))).set 45 (.inl (0, 13, .inl fun j => nI (va_up fh d (h + 1) j))))
  refine jr_aload_n d_Mo_put_23 rfl ?_
  refine jr_getf d_Mo_put_24 f_Mo_put_93 (jl_sn (by decide) hO) rfl ?_
  refine jr_iconst ((nI (5))) d_Mo_put_27 (by decide) ?_
  refine jr_iload_n d_Mo_put_28 rfl ?_
  refine jr_imulN d_Mo_put_29 ?_
  refine jr_aload_n d_Mo_put_30 rfl ?_
  refine jr_getf d_Mo_put_31 f_Mo_put_84 (jl_sn (by decide) hO) rfl ?_
  refine jr_iload_n d_Mo_put_34 rfl ?_
  refine jr_ialdQ (v := (nI (h))) d_Mo_put_35 (jl_sn (by decide) f3) (by omega) (by omega) (congrArg nI hh) ?_
  refine jr_iaddN d_Mo_put_36 ?_
  refine jr_iload_n d_Mo_put_37 rfl ?_
  refine jr_iastN d_Mo_put_38 (jl_sn (by decide) f6) (by omega) (by omega) ?_
  show jl_W l G m_Mo_put (0, 0) 39 [some (.ref 22), some (.int (a)), some (.int (b)), some (.int (nI d))] [] ((σ.set (49) (.inl (0, 65, .inl (upd (vk) (((5) * (d)) + (h)) ((a)))))).set (48) (.inl (0, 65, .inl (upd (vl) (((5) * (d)) + (h)) ((b)))))) (.inl none) (((σ.set 49 (.inl (0, 65, .inl (upd vk (5 * d + h) a)))).set 48 (.inl (0, 65, .inl (upd vl (5 * d + h) b)))).set 45 (.inl (0, 13, .inl fun j => nI (va_up fh d (h + 1) j))))
  refine jr_aload_n d_Mo_put_39 rfl ?_
  refine jr_getf d_Mo_put_40 f_Mo_put_84 (jl_sn (by decide) (jl_sn (by decide) hO)) rfl ?_
  refine jr_iload_n d_Mo_put_43 rfl ?_
  refine jr_dup2 d_Mo_put_44 rfl rfl ?_
  refine jr_ialdQ (v := (nI (h))) d_Mo_put_45 (jl_sn (by decide) (jl_sn (by decide) f3)) (by omega) (by omega) (congrArg nI hh) ?_
  refine jr_iconst ((nI (1))) d_Mo_put_46 (by decide) ?_
  refine jr_iaddN d_Mo_put_47 ?_
  refine jr_iastN d_Mo_put_48 (jl_sn (by decide) (jl_sn (by decide) f3)) (by omega) (by omega) ?_
  rw [show upd (fun j => nI (fh j)) (d) ((nI ((h) + (1)))) = (fun j => nI ((va_up fh (d) ((h) + (1))) j)) from nI_up fh (d) ((h) + (1))]
  show jl_W l G m_Mo_put (0, 0) 49 [some (.ref 22), some (.int (a)), some (.int (b)), some (.int (nI d))] [] (((σ.set (49) (.inl (0, 65, .inl (upd (vk) (((5) * (d)) + (h)) ((a)))))).set (48) (.inl (0, 65, .inl (upd (vl) (((5) * (d)) + (h)) ((b)))))).set (45) (.inl (0, 13, .inl (fun j => nI ((va_up fh (d) ((h) + (1))) j))))) (.inl none) (((σ.set 49 (.inl (0, 65, .inl (upd vk (5 * d + h) a)))).set 48 (.inl (0, 65, .inl (upd vl (5 * d + h) b)))).set 45 (.inl (0, 13, .inl fun j => nI (va_up fh d (h + 1) j))))
  exact jr_vretE d_Mo_put_49 rfl (rfl) (rfl) (by decide) (by decide)
end JNg
