/-! the class Machine: open (wip/gen/p96.py) -/
section JMab
variable {l : Launch} {G : jl_G} {σ : jl_S}
variable {t : Nat} {su dt dq aw : Int32} {ty : Nat → Option Nat} {va : Nat → Int32} {uw : Nat → Option Nat} {ps : Nat → Nat}
theorem d_Ma_open_32 : decode m_Ma_open.2.1 32 = .ok (.iload_n 2, 1) := by decide +kernel
theorem d_Ma_open_33 : decode m_Ma_open.2.1 33 = .ok (.bipush 6, 2) := by decide +kernel
theorem d_Ma_open_35 : decode m_Ma_open.2.1 35 = .ok (.if_icmp .ge 16, 3) := by decide +kernel
theorem d_Ma_open_51 : decode m_Ma_open.2.1 51 = .ok (.aload_n 0, 1) := by decide +kernel
theorem f_Ma_open_28 : jl_fd m_Ma_open 28 1 5 = true := by decide +kernel
theorem d_Ma_open_52 : decode m_Ma_open.2.1 52 = .ok (.getfield 28, 3) := by decide +kernel
theorem d_Ma_open_55 : decode m_Ma_open.2.1 55 = .ok (.aload_n 0, 1) := by decide +kernel
theorem f_Ma_open_34 : jl_fd m_Ma_open 34 1 7 = true := by decide +kernel
theorem d_Ma_open_56 : decode m_Ma_open.2.1 56 = .ok (.getfield 34, 3) := by decide +kernel
theorem d_Ma_open_59 : decode m_Ma_open.2.1 59 = .ok (.bipush 12, 2) := by decide +kernel
theorem d_Ma_open_61 : decode m_Ma_open.2.1 61 = .ok (.imul, 1) := by decide +kernel
theorem d_Ma_open_62 : decode m_Ma_open.2.1 62 = .ok (.bipush 6, 2) := by decide +kernel
theorem d_Ma_open_64 : decode m_Ma_open.2.1 64 = .ok (.iadd, 1) := by decide +kernel
theorem d_Ma_open_65 : decode m_Ma_open.2.1 65 = .ok (.iconst 0, 1) := by decide +kernel
theorem d_Ma_open_66 : decode m_Ma_open.2.1 66 = .ok (.iastore, 1) := by decide +kernel
theorem d_Ma_open_67 : decode m_Ma_open.2.1 67 = .ok (.return_, 1) := by decide +kernel
theorem d_Ma_open_38 : decode m_Ma_open.2.1 38 = .ok (.aload_n 0, 1) := by decide +kernel
theorem d_Ma_open_39 : decode m_Ma_open.2.1 39 = .ok (.iload_n 2, 1) := by decide +kernel
theorem d_Ma_open_40 : decode m_Ma_open.2.1 40 = .ok (.iconst (-1), 1) := by decide +kernel
theorem d_Ma_open_41 : decode m_Ma_open.2.1 41 = .ok (.iconst (-1), 1) := by decide +kernel
theorem k_Ma_open_69 : jl_cv m_Ma_open m_Ma_setLocal 69 3 = true := by decide +kernel
theorem d_Ma_open_42 : decode m_Ma_open.2.1 42 = .ok (.invokevirtual 69, 3) := by decide +kernel
theorem d_Ma_open_45 : decode m_Ma_open.2.1 45 = .ok (.iinc 2 1, 3) := by decide +kernel
theorem d_Ma_open_48 : decode m_Ma_open.2.1 48 = .ok (.goto (-16), 3) := by decide +kernel
theorem ma_open_l (hl : l.stackTraces = false) {P : jl_O → jl_S → Prop} {a : Nat} {ty0 : Nat → Option Nat} {va0 : Nat → Int32} {σ0 : jl_S}  (ht : t < 12) (hT : ∀ ty' va' σ', wrt ty0 ty' (t * 12) 6 (fun _ => none) → wrt va0 va' (t * 12) 6 (fun _ => -1) → MaAt σ' (nI t) su dt dq aw → σ'[20]? = some (.inl (0, 144, .inl fun j => en (va_up ty' (t * 12 + 6) (some 0) j))) → σ'[21]? = some (.inl (0, 144, .inl va')) → σ'.length = σ0.length → (∀ i, i ≠ 20 → i ≠ 21 → σ'[i]? = σ0[i]?) → P (.inl none) σ') : ∀ (nn : Nat) (i : Nat) (σ : jl_S) (ty : Nat → Option Nat) (va : Nat → Int32), 6 - i < nn → i ≤ 6 → MaAt σ (nI t) su dt dq aw → σ[20]? = some (.inl (0, 144, .inl fun j => en (ty j))) → σ[21]? = some (.inl (0, 144, .inl va)) → σ.length = σ0.length → (∀ i, i ≠ 20 → i ≠ 21 → σ[i]? = σ0[i]?) → wrt ty0 ty (t * 12) i (fun _ => none) → wrt va0 va (t * 12) i (fun _ => -1) → jl_E l G m_Ma_open (0, 0) 32 [some (.ref 13), some (.ref a), some (.int (nI i))] [] σ P := by
  intro nn
  induction nn with
  | zero => intro i σ ty va hnn; exact absurd hnn (Nat.not_lt_zero _)
  | succ nn ihn =>
    intro i σ ty va hnn hi hX t1 t2 hL hf w1 w2
    refine er_iload_n d_Ma_open_32 rfl ?_
    refine er_bipush ((nI (6))) d_Ma_open_33 (by decide) ?_
    refine er_icmp_geN 51 d_Ma_open_35 (by decide) (by omega) (by omega) (fun c1 => ?_) (fun c1 => ?_)
    · refine er_aload_n d_Ma_open_51 rfl ?_
      refine er_getf d_Ma_open_52 f_Ma_open_28 hX rfl ?_
      refine er_aload_n d_Ma_open_55 rfl ?_
      refine er_getf d_Ma_open_56 f_Ma_open_34 hX rfl ?_
      refine er_bipush ((nI (12))) d_Ma_open_59 (by decide) ?_
      refine er_imulN d_Ma_open_61 ?_
      refine er_bipush ((nI (6))) d_Ma_open_62 (by decide) ?_
      refine er_iaddN d_Ma_open_64 ?_
      refine er_iconst ((nI (0))) d_Ma_open_65 (by decide) ?_
      refine er_iastN d_Ma_open_66 t1 (by omega) (by omega) ?_
      rw [show upd (fun j => en (ty j)) (((t) * (12)) + (6)) ((nI (0))) = (fun j => en ((va_up ty (((t) * (12)) + (6)) ((some (0)))) j)) from en_up ty (((t) * (12)) + (6)) ((some (0)))]
      show jl_E l G m_Ma_open (0, 0) 67 [some (.ref 13), some (.ref a), some (.int (nI i))] [] (σ.set (20) (.inl (0, 144, .inl (fun j => en ((va_up ty (((t) * (12)) + (6)) ((some (0)))) j))))) P
      exact er_vret d_Ma_open_67 rfl (hT ty va _ (by have z := w1; rw [show i = 6 by omega] at z; exact z) (by have z := w2; rw [show i = 6 by omega] at z; exact z) (jl_sn (by decide) hX) (jl_ss t1) (jl_sn (by decide) t2) (by rw [List.length_set]; exact hL) (fun j h1 h2 => by rw [List.getElem?_set_ne (by omega)]; exact hf j h1 h2)) (by decide) (by decide)
    · refine er_aload_n d_Ma_open_38 rfl ?_
      refine er_iload_n d_Ma_open_39 rfl ?_
      refine er_iconst ((-1)) d_Ma_open_40 (by decide) ?_
      refine er_iconst ((-1)) d_Ma_open_41 (by decide) ?_
      refine er_callV (As := [.int (nI i), .int (-1), .int (-1)]) d_Ma_open_42 k_Ma_open_69 hX rfl rfl rfl (Nat.le_of_ble_eq_true rfl) (by decide) (by decide) (ma_local (y := none) hl hX t1 t2 ht (by omega)) ?_
      show jl_E l G m_Ma_open (0, 0) 45 [some (.ref 13), some (.ref a), some (.int (nI i))] [] ((σ.set (20) (.inl (0, 144, .inl (fun j => en ((va_up ty (t * 12 + i) none) j))))).set (21) (.inl (0, 144, .inl (upd va (t * 12 + i) (-1))))) P
      refine er_iinc ((nI (i + 1))) d_Ma_open_45 (by decide) rfl (jl_inc _) ?_
      show jl_E l G m_Ma_open (0, 0) 48 [some (.ref 13), some (.ref a), some (.int (nI (i + 1)))] [] ((σ.set (20) (.inl (0, 144, .inl (fun j => en ((va_up ty (t * 12 + i) none) j))))).set (21) (.inl (0, 144, .inl (upd va (t * 12 + i) (-1))))) P
      refine er_goto 32 d_Ma_open_48 (by decide) ?_
      exact ihn (i + 1) _ _ _ (by omega) (by omega) (jl_sn (by decide) (jl_sn (by decide) hX)) (jl_sn (by decide) (jl_ss t1)) (jl_ss (jl_sn (by decide) t2)) (by rw [List.length_set, List.length_set]; exact hL) (fun j h1 h2 => by rw [List.getElem?_set_ne (by omega), List.getElem?_set_ne (by omega)]; exact hf j h1 h2) (w1.s rfl) (by rw [upd_up]; exact w2.s rfl)
end JMab
