/-! the class Store: makers (wip/gen/p93.py) -/
section JSt
variable {l : Launch} {G : jl_G} {σ : jl_S}
variable {tb : Nat → Bool} {pr : Nat → Option Nat} {ow fi ft : Nat → Nat} {mt : Nat → Option Nat}
variable {ss : Nat → Nat} {sy : Nat → Option Nat} {sv : Nat → Int32} {sm : Nat}
theorem d_St_isFull_0 : decode m_St_isFull.2.1 0 = .ok (.aload_n 0, 1) := by decide +kernel
theorem f_St_isFull_21 : jl_fd m_St_isFull 21 3 3 = true := by decide +kernel
theorem d_St_isFull_1 : decode m_St_isFull.2.1 1 = .ok (.getfield 21, 3) := by decide +kernel
theorem d_St_isFull_4 : decode m_St_isFull.2.1 4 = .ok (.bipush 40, 2) := by decide +kernel
theorem d_St_isFull_6 : decode m_St_isFull.2.1 6 = .ok (.if_icmp .lt 7, 3) := by decide +kernel
theorem d_St_isFull_13 : decode m_St_isFull.2.1 13 = .ok (.iconst 0, 1) := by decide +kernel
theorem d_St_isFull_14 : decode m_St_isFull.2.1 14 = .ok (.ireturn, 1) := by decide +kernel
theorem d_St_isFull_9 : decode m_St_isFull.2.1 9 = .ok (.iconst 1, 1) := by decide +kernel
theorem d_St_isFull_10 : decode m_St_isFull.2.1 10 = .ok (.goto 4, 3) := by decide +kernel
theorem st_full (hl : l.stackTraces = false)  (hS : StAt σ ss sy sv sm) (hm : sm ≤ 40) : jl_m l G m_St_isFull [.ref 14] σ (.inl (some (.int (bi (decide (40 ≤ sm)))))) (σ) := by
  obtain ⟨s0, s1, s2, s3⟩ := id hS
  refine jl_of (as := [.ref 14]) rfl (by decide) hl (jl_cc rfl jl_ca) (Nat.le_of_ble_eq_true rfl) ?_
  show jl_W l G m_St_isFull (0, 0) 0 [some (.ref 14)] [] (σ) (.inl (some (.int (bi (decide (40 ≤ sm)))))) (σ)
  refine jr_aload_n d_St_isFull_0 rfl ?_
  refine jr_getf d_St_isFull_1 f_St_isFull_21 s0 rfl ?_
  refine jr_bipush ((nI (40))) d_St_isFull_4 (by decide) ?_
  refine jr_icmp_ltN 13 d_St_isFull_6 (by decide) (by omega) (by omega) (fun c1 => ?_) (fun c1 => ?_)
  · refine jr_iconst ((nI (0))) d_St_isFull_13 (by decide) ?_
    exact jr_zretE d_St_isFull_14 rfl (by decide) (bo0 (by first | (simp [c1, Nat.not_le.mpr c1]; done) | (simp [c1, Nat.not_le.mpr c1]; omega))) (rfl) (by decide) (by decide)
  · refine jr_iconst ((nI (1))) d_St_isFull_9 (by decide) ?_
    refine jr_goto 14 d_St_isFull_10 (by decide) ?_
    exact jr_zretE d_St_isFull_14 rfl (by decide) (bo1 (by first | (simp [c1, Nat.not_lt.mpr c1]; done) | (simp [c1, Nat.not_lt.mpr c1]; omega))) (rfl) (by decide) (by decide)
theorem st_cellS (hl : l.stackTraces = false) {n i : Nat} (hS : StAt σ ss sy sv sm)  : jl_m l G m_St_cell [.ref 14, .int (nI n), .int (nI i)] σ (.inl (some (.int (nI (n * 18 + i))))) (σ) := by
  obtain ⟨s0, s1, s2, s3⟩ := id hS
  refine jl_of (as := [.ref 14, .int (nI n), .int (nI i)]) rfl (by decide) hl (jl_cc rfl (jl_cc rfl (jl_cc rfl jl_ca))) (Nat.le_of_ble_eq_true rfl) ?_
  show jl_W l G m_St_cell (0, 0) 0 [some (.ref 14), some (.int (nI n)), some (.int (nI i))] [] (σ) (.inl (some (.int (nI (n * 18 + i))))) (σ)
  refine jr_iload_n d_St_cell_0 rfl ?_
  refine jr_bipush ((nI (18))) d_St_cell_1 (by decide) ?_
  refine jr_imulN d_St_cell_3 ?_
  refine jr_iload_n d_St_cell_4 rfl ?_
  refine jr_iaddN d_St_cell_5 ?_
  exact jr_iretE d_St_cell_6 rfl (rfl) (rfl) (by decide) (by decide)
theorem d_St_addSized_0 : decode m_St_addSized.2.1 0 = .ok (.aload_n 0, 1) := by decide +kernel
theorem f_St_addSized_9 : jl_fd m_St_addSized 9 3 0 = true := by decide +kernel
theorem d_St_addSized_1 : decode m_St_addSized.2.1 1 = .ok (.getfield 9, 3) := by decide +kernel
theorem d_St_addSized_4 : decode m_St_addSized.2.1 4 = .ok (.aload_n 0, 1) := by decide +kernel
theorem f_St_addSized_21 : jl_fd m_St_addSized 21 3 3 = true := by decide +kernel
theorem d_St_addSized_5 : decode m_St_addSized.2.1 5 = .ok (.getfield 21, 3) := by decide +kernel
theorem d_St_addSized_8 : decode m_St_addSized.2.1 8 = .ok (.iload_n 1, 1) := by decide +kernel
theorem d_St_addSized_9 : decode m_St_addSized.2.1 9 = .ok (.iastore, 1) := by decide +kernel
theorem d_St_addSized_10 : decode m_St_addSized.2.1 10 = .ok (.aload_n 0, 1) := by decide +kernel
theorem d_St_addSized_11 : decode m_St_addSized.2.1 11 = .ok (.dup, 1) := by decide +kernel
theorem d_St_addSized_12 : decode m_St_addSized.2.1 12 = .ok (.getfield 21, 3) := by decide +kernel
theorem d_St_addSized_15 : decode m_St_addSized.2.1 15 = .ok (.iconst 1, 1) := by decide +kernel
theorem d_St_addSized_16 : decode m_St_addSized.2.1 16 = .ok (.iadd, 1) := by decide +kernel
theorem p_St_addSized_21 : jl_fp m_St_addSized 21 3 3 = true := by decide +kernel
theorem d_St_addSized_17 : decode m_St_addSized.2.1 17 = .ok (.putfield 21, 3) := by decide +kernel
theorem d_St_addSized_20 : decode m_St_addSized.2.1 20 = .ok (.aload_n 0, 1) := by decide +kernel
theorem d_St_addSized_21 : decode m_St_addSized.2.1 21 = .ok (.getfield 21, 3) := by decide +kernel
theorem d_St_addSized_24 : decode m_St_addSized.2.1 24 = .ok (.iconst 1, 1) := by decide +kernel
theorem d_St_addSized_25 : decode m_St_addSized.2.1 25 = .ok (.isub, 1) := by decide +kernel
theorem d_St_addSized_26 : decode m_St_addSized.2.1 26 = .ok (.ireturn, 1) := by decide +kernel
theorem st_add (hl : l.stackTraces = false) {n : Nat} (hS : StAt σ ss sy sv sm) (hm : sm < 40) : jl_m l G m_St_addSized [.ref 14, .int (nI n)] σ (.inl (some (.int (nI sm)))) ((σ.set 15 (.inl (0, 40, .inl fun j => nI (va_up ss sm n j)))).set 14 (.inr (3, [.ref 15, .ref 16, .ref 17, .int (nI (sm + 1))]))) := by
  obtain ⟨s0, s1, s2, s3⟩ := id hS
  refine jl_of (as := [.ref 14, .int (nI n)]) rfl (by decide) hl (jl_cc rfl (jl_cc rfl jl_ca)) (Nat.le_of_ble_eq_true rfl) ?_
  show jl_W l G m_St_addSized (0, 0) 0 [some (.ref 14), some (.int (nI n))] [] (σ) (.inl (some (.int (nI sm)))) ((σ.set 15 (.inl (0, 40, .inl fun j => nI (va_up ss sm n j)))).set 14 (.inr (3, [.ref 15, .ref 16, .ref 17, .int (nI (sm + 1))])))
  refine jr_aload_n d_St_addSized_0 rfl ?_
  refine jr_getf d_St_addSized_1 f_St_addSized_9 s0 rfl ?_
  refine jr_aload_n d_St_addSized_4 rfl ?_
  refine jr_getf d_St_addSized_5 f_St_addSized_21 s0 rfl ?_
  refine jr_iload_n d_St_addSized_8 rfl ?_
  refine jr_iastN d_St_addSized_9 s1 (by omega) (by omega) ?_
  rw [show upd (fun j => nI (ss j)) (sm) ((nI (n))) = (fun j => nI ((va_up ss (sm) (n)) j)) from nI_up ss (sm) (n)]
  show jl_W l G m_St_addSized (0, 0) 10 [some (.ref 14), some (.int (nI n))] [] (σ.set (15) (.inl (0, 40, .inl (fun j => nI ((va_up ss (sm) (n)) j))))) (.inl (some (.int (nI sm)))) ((σ.set 15 (.inl (0, 40, .inl fun j => nI (va_up ss sm n j)))).set 14 (.inr (3, [.ref 15, .ref 16, .ref 17, .int (nI (sm + 1))])))
  refine jr_aload_n d_St_addSized_10 rfl ?_
  refine jr_dup d_St_addSized_11 rfl ?_
  refine jr_getf d_St_addSized_12 f_St_addSized_21 (jl_sn (by decide) s0) rfl ?_
  refine jr_iconst ((nI (1))) d_St_addSized_15 (by decide) ?_
  refine jr_iaddN d_St_addSized_16 ?_
  refine jr_putf d_St_addSized_17 p_St_addSized_21 (jl_sn (by decide) s0) (Nat.le_of_ble_eq_true rfl) jl_fit_int ?_
  show jl_W l G m_St_addSized (0, 0) 20 [some (.ref 14), some (.int (nI n))] [] ((σ.set (15) (.inl (0, 40, .inl (fun j => nI ((va_up ss (sm) (n)) j))))).set (14) (.inr (3, [.ref 15, .ref 16, .ref 17, .int (nI ((sm) + (1)))]))) (.inl (some (.int (nI sm)))) ((σ.set 15 (.inl (0, 40, .inl fun j => nI (va_up ss sm n j)))).set 14 (.inr (3, [.ref 15, .ref 16, .ref 17, .int (nI (sm + 1))])))
  refine jr_aload_n d_St_addSized_20 rfl ?_
  refine jr_getf d_St_addSized_21 f_St_addSized_21 (jl_ss (jl_sn (by decide) s0)) rfl ?_
  refine jr_iconst ((nI (1))) d_St_addSized_24 (by decide) ?_
  refine jr_isubN d_St_addSized_25 (by omega) ?_
  exact jr_iretE d_St_addSized_26 rfl (rfl) (rfl) (by decide) (by decide)
theorem d_St_makeRow_2 : decode m_St_makeRow.2.1 2 = .ok (.iload_n 2, 1) := by decide +kernel
theorem d_St_makeRow_3 : decode m_St_makeRow.2.1 3 = .ok (.iload_n 1, 1) := by decide +kernel
theorem d_St_makeRow_4 : decode m_St_makeRow.2.1 4 = .ok (.if_icmp .ge 24, 3) := by decide +kernel
theorem d_St_makeRow_28 : decode m_St_makeRow.2.1 28 = .ok (.aload_n 0, 1) := by decide +kernel
theorem d_St_makeRow_29 : decode m_St_makeRow.2.1 29 = .ok (.iload_n 1, 1) := by decide +kernel
theorem k_St_makeRow_38 : jl_cv m_St_makeRow m_St_addSized 38 1 = true := by decide +kernel
theorem d_St_makeRow_30 : decode m_St_makeRow.2.1 30 = .ok (.invokevirtual 38, 3) := by decide +kernel
theorem d_St_makeRow_33 : decode m_St_makeRow.2.1 33 = .ok (.ireturn, 1) := by decide +kernel
theorem d_St_makeRow_7 : decode m_St_makeRow.2.1 7 = .ok (.aload_n 0, 1) := by decide +kernel
theorem f_St_makeRow_18 : jl_fd m_St_makeRow 18 3 2 = true := by decide +kernel
theorem d_St_makeRow_8 : decode m_St_makeRow.2.1 8 = .ok (.getfield 18, 3) := by decide +kernel
theorem d_St_makeRow_11 : decode m_St_makeRow.2.1 11 = .ok (.aload_n 0, 1) := by decide +kernel
theorem d_St_makeRow_12 : decode m_St_makeRow.2.1 12 = .ok (.aload_n 0, 1) := by decide +kernel
theorem f_St_makeRow_21 : jl_fd m_St_makeRow 21 3 3 = true := by decide +kernel
theorem d_St_makeRow_13 : decode m_St_makeRow.2.1 13 = .ok (.getfield 21, 3) := by decide +kernel
theorem d_St_makeRow_16 : decode m_St_makeRow.2.1 16 = .ok (.iload_n 2, 1) := by decide +kernel
theorem k_St_makeRow_35 : jl_cv m_St_makeRow m_St_cell 35 2 = true := by decide +kernel
theorem d_St_makeRow_17 : decode m_St_makeRow.2.1 17 = .ok (.invokevirtual 35, 3) := by decide +kernel
theorem d_St_makeRow_20 : decode m_St_makeRow.2.1 20 = .ok (.iconst 0, 1) := by decide +kernel
theorem d_St_makeRow_21 : decode m_St_makeRow.2.1 21 = .ok (.iastore, 1) := by decide +kernel
theorem d_St_makeRow_22 : decode m_St_makeRow.2.1 22 = .ok (.iinc 2 1, 3) := by decide +kernel
theorem d_St_makeRow_25 : decode m_St_makeRow.2.1 25 = .ok (.goto (-23), 3) := by decide +kernel
theorem st_row_l (hl : l.stackTraces = false) {P : jl_O → jl_S → Prop} {n : Nat} {sv0 : Nat → Int32} {σ0 : jl_S}  (hm : sm < 40) (hn : n ≤ 8) (hT : ∀ sv' σ', wrt sv0 sv' (sm * 18) n (fun _ => 0) → StAt σ' (va_up ss sm n) sy sv' (sm + 1) → FrS σ0 σ' → P (.inl (some (.int (nI sm)))) σ') : ∀ (nn : Nat) (i : Nat) (σ : jl_S) (sv : Nat → Int32), n - i < nn → i ≤ n → StAt σ ss sy sv sm → FrS σ0 σ → wrt sv0 sv (sm * 18) i (fun _ => 0) → jl_E l G m_St_makeRow (0, 0) 2 [some (.ref 14), some (.int (nI n)), some (.int (nI i))] [] σ P := by
  intro nn
  induction nn with
  | zero => intro i σ sv hnn; exact absurd hnn (Nat.not_lt_zero _)
  | succ nn ihn =>
    intro i σ sv hnn hi hS hfr hw
    obtain ⟨s0, s1, s2, s3⟩ := id hS
    refine er_iload_n d_St_makeRow_2 rfl ?_
    refine er_iload_n d_St_makeRow_3 rfl ?_
    refine er_icmp_geN 28 d_St_makeRow_4 (by decide) (by omega) (by omega) (fun c1 => ?_) (fun c1 => ?_)
    · refine er_aload_n d_St_makeRow_28 rfl ?_
      refine er_iload_n d_St_makeRow_29 rfl ?_
      refine er_callV (As := [.int (nI n)]) d_St_makeRow_30 k_St_makeRow_38 s0 rfl rfl rfl (Nat.le_of_ble_eq_true rfl) (by decide) (by decide) (st_add hl hS hm) ?_
      show jl_E l G m_St_makeRow (0, 0) 33 [some (.ref 14), some (.int (nI n)), some (.int (nI i))] [.int (nI sm)] ((σ.set (15) (.inl (0, 40, .inl (fun j => nI ((va_up ss sm n) j))))).set (14) (.inr (3, [.ref 15, .ref 16, .ref 17, .int (nI (sm + 1))]))) P
      exact er_iret d_St_makeRow_33 rfl (hT sv _ (by have z := hw; rw [show i = n by omega] at z; exact z) hS.s15.s14 ((hfr.set (by omega)).set (by omega))) (by decide) (by decide)
    · refine er_aload_n d_St_makeRow_7 rfl ?_
      refine er_getf d_St_makeRow_8 f_St_makeRow_18 s0 rfl ?_
      refine er_aload_n d_St_makeRow_11 rfl ?_
      refine er_aload_n d_St_makeRow_12 rfl ?_
      refine er_getf d_St_makeRow_13 f_St_makeRow_21 s0 rfl ?_
      refine er_iload_n d_St_makeRow_16 rfl ?_
      refine er_callV (As := [.int (nI sm), .int (nI i)]) d_St_makeRow_17 k_St_makeRow_35 s0 rfl rfl rfl (Nat.le_of_ble_eq_true rfl) (by decide) (by decide) (st_cellS hl hS) ?_
      show jl_E l G m_St_makeRow (0, 0) 20 [some (.ref 14), some (.int (nI n)), some (.int (nI i))] [.int (nI (sm * 18 + i)), .ref 17] (σ) P
      refine er_iconst ((nI (0))) d_St_makeRow_20 (by decide) ?_
      refine er_iastN d_St_makeRow_21 s3 (by omega) (by omega) ?_
      show jl_E l G m_St_makeRow (0, 0) 22 [some (.ref 14), some (.int (nI n)), some (.int (nI i))] [] (σ.set (17) (.inl (0, 720, .inl (upd (sv) (sm * 18 + i) ((nI (0))))))) P
      refine er_iinc ((nI (i + 1))) d_St_makeRow_22 (by decide) rfl (jl_inc _) ?_
      show jl_E l G m_St_makeRow (0, 0) 25 [some (.ref 14), some (.int (nI n)), some (.int (nI (i + 1)))] [] (σ.set (17) (.inl (0, 720, .inl (upd (sv) (sm * 18 + i) ((nI (0))))))) P
      refine er_goto 2 d_St_makeRow_25 (by decide) ?_
      exact ihn (i + 1) _ _ (by omega) (by omega) hS.s17 (hfr.set (by omega)) (by rw [upd_up]; exact hw.s rfl)
theorem d_St_makeRow_0 : decode m_St_makeRow.2.1 0 = .ok (.iconst 0, 1) := by decide +kernel
theorem d_St_makeRow_1 : decode m_St_makeRow.2.1 1 = .ok (.istore_n 2, 1) := by decide +kernel
theorem st_row (hl : l.stackTraces = false) {P : jl_O → jl_S → Prop} {n : Nat} (hS : StAt σ ss sy sv sm) (hm : sm < 40) (hn : n ≤ 8) (hT : ∀ sv' σ', wrt sv sv' (sm * 18) n (fun _ => 0) → StAt σ' (va_up ss sm n) sy sv' (sm + 1) → FrS σ σ' → P (.inl (some (.int (nI sm)))) σ') : jl_mE l G m_St_makeRow [.ref 14, .int (nI n)] σ P := by
  obtain ⟨s0, s1, s2, s3⟩ := id hS
  refine jl_ofE (as := [.ref 14, .int (nI n)]) rfl (by decide) hl (jl_cc rfl (jl_cc rfl jl_ca)) (Nat.le_of_ble_eq_true rfl) ?_
  show jl_E l G m_St_makeRow (0, 0) 0 [some (.ref 14), some (.int (nI n)), none] [] (σ) P
  refine er_iconst ((nI (0))) d_St_makeRow_0 (by decide) ?_
  refine er_istore_n d_St_makeRow_1 (by decide) ?_
  show jl_E l G m_St_makeRow (0, 0) 2 [some (.ref 14), some (.int (nI n)), some (.int (nI 0))] [] (σ) P
  exact st_row_l hl hm hn hT (n + 1) 0 σ sv (by omega) (by omega) hS FrS.refl wrt.z
end JSt
