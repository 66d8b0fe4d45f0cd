/-! the class Machine: isJumpTaken, throwTaken, leave (wip/gen/p97g.py) -/
section JMg
variable {l : Launch} {G : jl_G} {σ : jl_S}
variable {tb : Nat → Bool} {pr : Nat → Option Nat} {ow fi ft : Nat → Nat} {mt : Nat → Option Nat}
variable {σ0 : jl_S} {N t m p b : Nat} {R : Rw} {V : Nat → Int32} {fs : List Fm} {H : Hp} {su dt dq aw x : Int32}
variable {sg : Int32 → Option Sg} {D : Nat → MDt} {MP : Nat → Nat → Int32} {FH : Nat → Nat → Bool}
theorem pv {P : jl_O → jl_S → Prop} {u v : Int32} {σ : jl_S} (e : u = v) (h : P (.inl (some (.int u))) σ) : P (.inl (some (.int v))) σ := e ▸ h
theorem six_id {R : Rw} {b : Nat} (h : R 6 = some b) : va_up R 6 (some b) = R := by rw [← h]; exact up_id
theorem d_Ma_isJumpTaken_0 : decode m_Ma_isJumpTaken.2.1 0 = .ok (.iload_n 1, 1) := by decide +kernel
theorem d_Ma_isJumpTaken_1 : decode m_Ma_isJumpTaken.2.1 1 = .ok (.bipush 7, 2) := by decide +kernel
theorem d_Ma_isJumpTaken_3 : decode m_Ma_isJumpTaken.2.1 3 = .ok (.if_icmp .ne 5, 3) := by decide +kernel
theorem d_Ma_isJumpTaken_6 : decode m_Ma_isJumpTaken.2.1 6 = .ok (.iconst 1, 1) := by decide +kernel
theorem d_Ma_isJumpTaken_7 : decode m_Ma_isJumpTaken.2.1 7 = .ok (.ireturn, 1) := by decide +kernel
theorem ma_jt_7 (hl : l.stackTraces = false) {P : jl_O → jl_S → Prop}  (hk : KB σ0 mt σ (7 + b) t m p (R) (V) (fs) (H) su dt dq aw) (ht : t < 12) (hh : R 6 = some (b)) (hb : b ≤ 5)  (hT : ∀ σ', KB σ0 mt σ' (7 + b) t m p (va_up R 6 (some b)) (V) (fs) (H) su dt dq aw → P (.inl (some (.int (bi (jtk 7 R V b))))) σ') : jl_mE l G m_Ma_isJumpTaken [.ref 13, .int (nI 7)] σ P := by
  obtain ⟨uw, ps, ty, va, hX, u1, u2, t1, t2, hS, hx, hto, hF⟩ := id hk
  obtain ⟨s0, s1, s2, s3⟩ := id hS
  obtain ⟨⟨⟨a, hma, hua⟩, hps, hty, hva⟩, hfs, hln, hob⟩ := id hx
  have hma : mt m = some a := hma
  have hps : ps t = p := hps
  have hty : ∀ j, j < _ → ty (t * 12 + j) = R j := hty
  have hva : ∀ j, j < _ → j ≠ 6 → va (t * 12 + j) = V j := hva
  have hRo := hx.rob
  have hh6 : ty (t * 12 + 6) = some (b) := (hty 6 (by omega)).trans hh
  refine jl_ofE (as := [.ref 13, .int (nI 7)]) rfl (by decide) hl (jl_cc rfl (jl_cc rfl jl_ca)) (Nat.le_of_ble_eq_true rfl) ?_
  show jl_E l G m_Ma_isJumpTaken (0, 0) 0 [some (.ref 13), some (.int (nI 7)), none] [] (σ) P
  refine er_iload_n d_Ma_isJumpTaken_0 rfl ?_
  refine er_bipush ((nI (7))) d_Ma_isJumpTaken_1 (by decide) ?_
  refine er_icmp_ne 8 d_Ma_isJumpTaken_3 (by decide) (fun z => absurd rfl z) (fun _ => ?_)
  refine er_iconst ((nI (1))) d_Ma_isJumpTaken_6 (by decide) ?_
  exact er_zret d_Ma_isJumpTaken_7 rfl (by decide) (pv (show bi (jtk 7 R V b) = nI 1 from bi_t1) (hT _ (by have z := hk; rw [six_id hh]; exact z))) (by decide) (by decide)
theorem d_Ma_isJumpTaken_8 : decode m_Ma_isJumpTaken.2.1 8 = .ok (.aload_n 0, 1) := by decide +kernel
theorem k_Ma_isJumpTaken_121 : jl_cv m_Ma_isJumpTaken m_Ma_take 121 0 = true := by decide +kernel
theorem d_Ma_isJumpTaken_9 : decode m_Ma_isJumpTaken.2.1 9 = .ok (.invokevirtual 121, 3) := by decide +kernel
theorem d_Ma_isJumpTaken_12 : decode m_Ma_isJumpTaken.2.1 12 = .ok (.istore_n 2, 1) := by decide +kernel
theorem d_Ma_isJumpTaken_13 : decode m_Ma_isJumpTaken.2.1 13 = .ok (.iload_n 1, 1) := by decide +kernel
theorem d_Ma_isJumpTaken_14 : decode m_Ma_isJumpTaken.2.1 14 = .ok (.bipush 16, 2) := by decide +kernel
theorem d_Ma_isJumpTaken_16 : decode m_Ma_isJumpTaken.2.1 16 = .ok (.if_icmp .ne 19, 3) := by decide +kernel
theorem d_Ma_isJumpTaken_35 : decode m_Ma_isJumpTaken.2.1 35 = .ok (.iload_n 1, 1) := by decide +kernel
theorem d_Ma_isJumpTaken_36 : decode m_Ma_isJumpTaken.2.1 36 = .ok (.bipush 8, 2) := by decide +kernel
theorem d_Ma_isJumpTaken_38 : decode m_Ma_isJumpTaken.2.1 38 = .ok (.if_icmp .ne 18, 3) := by decide +kernel
theorem d_Ma_isJumpTaken_41 : decode m_Ma_isJumpTaken.2.1 41 = .ok (.aload_n 0, 1) := by decide +kernel
theorem f_Ma_isJumpTaken_31 : jl_fd m_Ma_isJumpTaken 31 1 6 = true := by decide +kernel
theorem d_Ma_isJumpTaken_42 : decode m_Ma_isJumpTaken.2.1 42 = .ok (.getfield 31, 3) := by decide +kernel
theorem d_Ma_isJumpTaken_45 : decode m_Ma_isJumpTaken.2.1 45 = .ok (.iload_n 2, 1) := by decide +kernel
theorem d_Ma_isJumpTaken_46 : decode m_Ma_isJumpTaken.2.1 46 = .ok (.iaload, 1) := by decide +kernel
theorem d_Ma_isJumpTaken_47 : decode m_Ma_isJumpTaken.2.1 47 = .ok (.ifCond .ne 7, 3) := by decide +kernel
theorem d_Ma_isJumpTaken_54 : decode m_Ma_isJumpTaken.2.1 54 = .ok (.iconst 0, 1) := by decide +kernel
theorem d_Ma_isJumpTaken_55 : decode m_Ma_isJumpTaken.2.1 55 = .ok (.ireturn, 1) := by decide +kernel
theorem d_Ma_isJumpTaken_50 : decode m_Ma_isJumpTaken.2.1 50 = .ok (.iconst 1, 1) := by decide +kernel
theorem d_Ma_isJumpTaken_51 : decode m_Ma_isJumpTaken.2.1 51 = .ok (.goto 4, 3) := by decide +kernel
theorem ma_jt_8 (hl : l.stackTraces = false) {P : jl_O → jl_S → Prop}  (hk : KB σ0 mt σ (7 + (b + 1)) t m p (R) (V) (fs) (H) su dt dq aw) (ht : t < 12) (hh : R 6 = some (b + 1)) (hb : b + 1 ≤ 5)  (hT : ∀ σ', KB σ0 mt σ' (7 + b) t m p (va_up R 6 (some b)) (V) (fs) (H) su dt dq aw → P (.inl (some (.int (bi (jtk 8 R V b))))) σ') : jl_mE l G m_Ma_isJumpTaken [.ref 13, .int (nI 8)] σ P := by
  obtain ⟨uw, ps, ty, va, hX, u1, u2, t1, t2, hS, hx, hto, hF⟩ := id hk
  obtain ⟨s0, s1, s2, s3⟩ := id hS
  obtain ⟨⟨⟨a, hma, hua⟩, hps, hty, hva⟩, hfs, hln, hob⟩ := id hx
  have hma : mt m = some a := hma
  have hps : ps t = p := hps
  have hty : ∀ j, j < _ → ty (t * 12 + j) = R j := hty
  have hva : ∀ j, j < _ → j ≠ 6 → va (t * 12 + j) = V j := hva
  have hRo := hx.rob
  have hh6 : ty (t * 12 + 6) = some (b + 1) := (hty 6 (by omega)).trans hh
  have hT0 : ty (t * 12 + 7 + b) = R (7 + b) := by rw [show t * 12 + 7 + b = t * 12 + (7 + b) by omega]; exact hty _ (by omega)
  have hV0 : va (t * 12 + 7 + b) = V (7 + b) := by rw [show t * 12 + 7 + b = t * 12 + (7 + b) by omega]; exact hva _ (by omega) (by omega)
  refine jl_ofE (as := [.ref 13, .int (nI 8)]) rfl (by decide) hl (jl_cc rfl (jl_cc rfl jl_ca)) (Nat.le_of_ble_eq_true rfl) ?_
  show jl_E l G m_Ma_isJumpTaken (0, 0) 0 [some (.ref 13), some (.int (nI 8)), none] [] (σ) P
  refine er_iload_n d_Ma_isJumpTaken_0 rfl ?_
  refine er_bipush ((nI (7))) d_Ma_isJumpTaken_1 (by decide) ?_
  refine er_icmp_ne 8 d_Ma_isJumpTaken_3 (by decide) (fun _ => ?_) (fun z => absurd z (by decide))
  refine er_aload_n d_Ma_isJumpTaken_8 rfl ?_
  refine er_callV (As := []) d_Ma_isJumpTaken_9 k_Ma_isJumpTaken_121 hX rfl rfl rfl (Nat.le_of_ble_eq_true rfl) (by decide) (by decide) (ma_takeA (h := b) hl hX t1 t2 ht hh6 (by omega)) ?_
  show jl_E l G m_Ma_isJumpTaken (0, 0) 12 [some (.ref 13), some (.int (nI 8)), none] [.int (nI (t * 12 + 7 + b))] (σ.set (20) (.inl (0, 144, .inl (fun j => en ((va_up ty (t * 12 + 6) (some (b))) j))))) P
  refine er_istore_n d_Ma_isJumpTaken_12 (by decide) ?_
  show jl_E l G m_Ma_isJumpTaken (0, 0) 13 [some (.ref 13), some (.int (nI 8)), some (.int (nI (t * 12 + 7 + b)))] [] (σ.set (20) (.inl (0, 144, .inl (fun j => en ((va_up ty (t * 12 + 6) (some (b))) j))))) P
  refine er_iload_n d_Ma_isJumpTaken_13 rfl ?_
  refine er_bipush ((nI (16))) d_Ma_isJumpTaken_14 (by decide) ?_
  refine er_icmp_ne 35 d_Ma_isJumpTaken_16 (by decide) (fun _ => ?_) (fun z => absurd z (by decide))
  refine er_iload_n d_Ma_isJumpTaken_35 rfl ?_
  refine er_bipush ((nI (8))) d_Ma_isJumpTaken_36 (by decide) ?_
  refine er_icmp_ne 56 d_Ma_isJumpTaken_38 (by decide) (fun z => absurd rfl z) (fun _ => ?_)
  refine er_aload_n d_Ma_isJumpTaken_41 rfl ?_
  refine er_getf d_Ma_isJumpTaken_42 f_Ma_isJumpTaken_31 (jl_sn (by decide) hX) rfl ?_
  refine er_iload_n d_Ma_isJumpTaken_45 rfl ?_
  refine er_ialdQ (v := (V (7 + b))) d_Ma_isJumpTaken_46 (jl_sn (by decide) t2) (by omega) (by omega) (hV0) ?_
  refine er_if_ne 54 d_Ma_isJumpTaken_47 (by decide) (fun c1 => ?_) (fun c1 => ?_)
  · refine er_iconst ((nI (0))) d_Ma_isJumpTaken_54 (by decide) ?_
    exact er_zret d_Ma_isJumpTaken_55 rfl (by decide) (pv (show bi (jtk 8 R V b) = nI 0 by rw [show jtk 8 R V b = false from decide_eq_false c1]; exact bi_f0) (hT _ ⟨_, _, _, _, (jl_sn (by decide) hX), (jl_sn (by decide) u1), (jl_sn (by decide) u2), (jl_ss t1), (jl_sn (by decide) t2), ⟨(jl_sn (by decide) s0), (jl_sn (by decide) s1), (jl_sn (by decide) s2), (jl_sn (by decide) s3)⟩, (((((hx).six (y := some (b)) (ob_s (by omega)))).le (by omega)).cc (by first | rfl | simp only [six_six]) (by first | rfl | simp only [six_six])), hto, (hF.set (by omega))⟩)) (by decide) (by decide)
  · refine er_iconst ((nI (1))) d_Ma_isJumpTaken_50 (by decide) ?_
    refine er_goto 55 d_Ma_isJumpTaken_51 (by decide) ?_
    exact er_zret d_Ma_isJumpTaken_55 rfl (by decide) (pv (show bi (jtk 8 R V b) = nI 1 by rw [show jtk 8 R V b = true from decide_eq_true c1]; exact bi_t1) (hT _ ⟨_, _, _, _, (jl_sn (by decide) hX), (jl_sn (by decide) u1), (jl_sn (by decide) u2), (jl_ss t1), (jl_sn (by decide) t2), ⟨(jl_sn (by decide) s0), (jl_sn (by decide) s1), (jl_sn (by decide) s2), (jl_sn (by decide) s3)⟩, (((((hx).six (y := some (b)) (ob_s (by omega)))).le (by omega)).cc (by first | rfl | simp only [six_six]) (by first | rfl | simp only [six_six])), hto, (hF.set (by omega))⟩)) (by decide) (by decide)
theorem d_Ma_isJumpTaken_56 : decode m_Ma_isJumpTaken.2.1 56 = .ok (.aload_n 0, 1) := by decide +kernel
theorem d_Ma_isJumpTaken_57 : decode m_Ma_isJumpTaken.2.1 57 = .ok (.getfield 31, 3) := by decide +kernel
theorem d_Ma_isJumpTaken_60 : decode m_Ma_isJumpTaken.2.1 60 = .ok (.aload_n 0, 1) := by decide +kernel
theorem d_Ma_isJumpTaken_61 : decode m_Ma_isJumpTaken.2.1 61 = .ok (.invokevirtual 121, 3) := by decide +kernel
theorem d_Ma_isJumpTaken_64 : decode m_Ma_isJumpTaken.2.1 64 = .ok (.iaload, 1) := by decide +kernel
theorem d_Ma_isJumpTaken_65 : decode m_Ma_isJumpTaken.2.1 65 = .ok (.aload_n 0, 1) := by decide +kernel
theorem d_Ma_isJumpTaken_66 : decode m_Ma_isJumpTaken.2.1 66 = .ok (.getfield 31, 3) := by decide +kernel
theorem d_Ma_isJumpTaken_69 : decode m_Ma_isJumpTaken.2.1 69 = .ok (.iload_n 2, 1) := by decide +kernel
theorem d_Ma_isJumpTaken_70 : decode m_Ma_isJumpTaken.2.1 70 = .ok (.iaload, 1) := by decide +kernel
theorem d_Ma_isJumpTaken_71 : decode m_Ma_isJumpTaken.2.1 71 = .ok (.if_icmp .ge 7, 3) := by decide +kernel
theorem d_Ma_isJumpTaken_78 : decode m_Ma_isJumpTaken.2.1 78 = .ok (.iconst 0, 1) := by decide +kernel
theorem d_Ma_isJumpTaken_79 : decode m_Ma_isJumpTaken.2.1 79 = .ok (.ireturn, 1) := by decide +kernel
theorem d_Ma_isJumpTaken_74 : decode m_Ma_isJumpTaken.2.1 74 = .ok (.iconst 1, 1) := by decide +kernel
theorem d_Ma_isJumpTaken_75 : decode m_Ma_isJumpTaken.2.1 75 = .ok (.goto 4, 3) := by decide +kernel
theorem ma_jt_9 (hl : l.stackTraces = false) {P : jl_O → jl_S → Prop}  (hk : KB σ0 mt σ (7 + (b + 2)) t m p (R) (V) (fs) (H) su dt dq aw) (ht : t < 12) (hh : R 6 = some (b + 2)) (hb : b + 2 ≤ 5)  (hT : ∀ σ', KB σ0 mt σ' (7 + b) t m p (va_up R 6 (some b)) (V) (fs) (H) su dt dq aw → P (.inl (some (.int (bi (jtk 9 R V b))))) σ') : jl_mE l G m_Ma_isJumpTaken [.ref 13, .int (nI 9)] σ P := by
  obtain ⟨uw, ps, ty, va, hX, u1, u2, t1, t2, hS, hx, hto, hF⟩ := id hk
  obtain ⟨s0, s1, s2, s3⟩ := id hS
  obtain ⟨⟨⟨a, hma, hua⟩, hps, hty, hva⟩, hfs, hln, hob⟩ := id hx
  have hma : mt m = some a := hma
  have hps : ps t = p := hps
  have hty : ∀ j, j < _ → ty (t * 12 + j) = R j := hty
  have hva : ∀ j, j < _ → j ≠ 6 → va (t * 12 + j) = V j := hva
  have hRo := hx.rob
  have hh6 : ty (t * 12 + 6) = some (b + 2) := (hty 6 (by omega)).trans hh
  have hT0 : ty (t * 12 + 7 + b) = R (7 + b) := by rw [show t * 12 + 7 + b = t * 12 + (7 + b) by omega]; exact hty _ (by omega)
  have hV0 : va (t * 12 + 7 + b) = V (7 + b) := by rw [show t * 12 + 7 + b = t * 12 + (7 + b) by omega]; exact hva _ (by omega) (by omega)
  have hT1 : ty (t * 12 + 7 + (b + 1)) = R (8 + b) := by rw [show t * 12 + 7 + (b + 1) = t * 12 + (8 + b) by omega]; exact hty _ (by omega)
  have hV1 : va (t * 12 + 7 + (b + 1)) = V (8 + b) := by rw [show t * 12 + 7 + (b + 1) = t * 12 + (8 + b) by omega]; exact hva _ (by omega) (by omega)
  refine jl_ofE (as := [.ref 13, .int (nI 9)]) rfl (by decide) hl (jl_cc rfl (jl_cc rfl jl_ca)) (Nat.le_of_ble_eq_true rfl) ?_
  show jl_E l G m_Ma_isJumpTaken (0, 0) 0 [some (.ref 13), some (.int (nI 9)), none] [] (σ) P
  refine er_iload_n d_Ma_isJumpTaken_0 rfl ?_
  refine er_bipush ((nI (7))) d_Ma_isJumpTaken_1 (by decide) ?_
  refine er_icmp_ne 8 d_Ma_isJumpTaken_3 (by decide) (fun _ => ?_) (fun z => absurd z (by decide))
  refine er_aload_n d_Ma_isJumpTaken_8 rfl ?_
  refine er_callV (As := []) d_Ma_isJumpTaken_9 k_Ma_isJumpTaken_121 hX rfl rfl rfl (Nat.le_of_ble_eq_true rfl) (by decide) (by decide) (ma_takeA (h := b + 1) hl hX t1 t2 ht hh6 (by omega)) ?_
  show jl_E l G m_Ma_isJumpTaken (0, 0) 12 [some (.ref 13), some (.int (nI 9)), none] [.int (nI (t * 12 + 7 + (b + 1)))] (σ.set (20) (.inl (0, 144, .inl (fun j => en ((va_up ty (t * 12 + 6) (some (b + 1))) j))))) P
  refine er_istore_n d_Ma_isJumpTaken_12 (by decide) ?_
  show jl_E l G m_Ma_isJumpTaken (0, 0) 13 [some (.ref 13), some (.int (nI 9)), some (.int (nI (t * 12 + 7 + (b + 1))))] [] (σ.set (20) (.inl (0, 144, .inl (fun j => en ((va_up ty (t * 12 + 6) (some (b + 1))) j))))) P
  refine er_iload_n d_Ma_isJumpTaken_13 rfl ?_
  refine er_bipush ((nI (16))) d_Ma_isJumpTaken_14 (by decide) ?_
  refine er_icmp_ne 35 d_Ma_isJumpTaken_16 (by decide) (fun _ => ?_) (fun z => absurd z (by decide))
  refine er_iload_n d_Ma_isJumpTaken_35 rfl ?_
  refine er_bipush ((nI (8))) d_Ma_isJumpTaken_36 (by decide) ?_
  refine er_icmp_ne 56 d_Ma_isJumpTaken_38 (by decide) (fun _ => ?_) (fun z => absurd z (by decide))
  refine er_aload_n d_Ma_isJumpTaken_56 rfl ?_
  refine er_getf d_Ma_isJumpTaken_57 f_Ma_isJumpTaken_31 (jl_sn (by decide) hX) rfl ?_
  refine er_aload_n d_Ma_isJumpTaken_60 rfl ?_
  refine er_callV (As := []) d_Ma_isJumpTaken_61 k_Ma_isJumpTaken_121 (jl_sn (by decide) hX) rfl rfl rfl (Nat.le_of_ble_eq_true rfl) (by decide) (by decide) (ma_takeA (h := b) hl (jl_sn (by decide) hX) (jl_ss t1) (jl_sn (by decide) t2) ht (va_up_self _ _ _) (by omega)) ?_
  show jl_E l G m_Ma_isJumpTaken (0, 0) 64 [some (.ref 13), some (.int (nI 9)), some (.int (nI (t * 12 + 7 + (b + 1))))] [.int (nI (t * 12 + 7 + b)), .ref 21] ((σ.set (20) (.inl (0, 144, .inl (fun j => en ((va_up ty (t * 12 + 6) (some (b + 1))) j))))).set (20) (.inl (0, 144, .inl (fun j => en ((va_up (va_up ty (t * 12 + 6) (some (b + 1))) (t * 12 + 6) (some (b))) j))))) P
  refine er_ialdQ (v := (V (7 + b))) d_Ma_isJumpTaken_64 (jl_sn (by decide) (jl_sn (by decide) t2)) (by omega) (by omega) (hV0) ?_
  refine er_aload_n d_Ma_isJumpTaken_65 rfl ?_
  refine er_getf d_Ma_isJumpTaken_66 f_Ma_isJumpTaken_31 (jl_sn (by decide) (jl_sn (by decide) hX)) rfl ?_
  refine er_iload_n d_Ma_isJumpTaken_69 rfl ?_
  refine er_ialdQ (v := (V (8 + b))) d_Ma_isJumpTaken_70 (jl_sn (by decide) (jl_sn (by decide) t2)) (by omega) (by omega) (hV1) ?_
  refine er_icmp_ge 78 d_Ma_isJumpTaken_71 (by decide) (fun c1 => ?_) (fun c1 => ?_)
  · refine er_iconst ((nI (0))) d_Ma_isJumpTaken_78 (by decide) ?_
    exact er_zret d_Ma_isJumpTaken_79 rfl (by decide) (pv (show bi (jtk 9 R V b) = nI 0 by rw [show jtk 9 R V b = false from decide_eq_false (Int32.not_lt.mpr c1)]; exact bi_f0) (hT _ ⟨_, _, _, _, (jl_sn (by decide) (jl_sn (by decide) hX)), (jl_sn (by decide) (jl_sn (by decide) u1)), (jl_sn (by decide) (jl_sn (by decide) u2)), (jl_ss (jl_ss t1)), (jl_sn (by decide) (jl_sn (by decide) t2)), ⟨(jl_sn (by decide) (jl_sn (by decide) s0)), (jl_sn (by decide) (jl_sn (by decide) s1)), (jl_sn (by decide) (jl_sn (by decide) s2)), (jl_sn (by decide) (jl_sn (by decide) s3))⟩, (((((((hx).six (y := some (b + 1)) (ob_s (by omega)))).six (y := some (b)) (ob_s (by omega)))).le (by omega)).cc (by first | rfl | simp only [six_six]) (by first | rfl | simp only [six_six])), hto, ((hF.set (by omega)).set (by omega))⟩)) (by decide) (by decide)
  · refine er_iconst ((nI (1))) d_Ma_isJumpTaken_74 (by decide) ?_
    refine er_goto 79 d_Ma_isJumpTaken_75 (by decide) ?_
    exact er_zret d_Ma_isJumpTaken_79 rfl (by decide) (pv (show bi (jtk 9 R V b) = nI 1 by rw [show jtk 9 R V b = true from decide_eq_true (Int32.not_le.mp c1)]; exact bi_t1) (hT _ ⟨_, _, _, _, (jl_sn (by decide) (jl_sn (by decide) hX)), (jl_sn (by decide) (jl_sn (by decide) u1)), (jl_sn (by decide) (jl_sn (by decide) u2)), (jl_ss (jl_ss t1)), (jl_sn (by decide) (jl_sn (by decide) t2)), ⟨(jl_sn (by decide) (jl_sn (by decide) s0)), (jl_sn (by decide) (jl_sn (by decide) s1)), (jl_sn (by decide) (jl_sn (by decide) s2)), (jl_sn (by decide) (jl_sn (by decide) s3))⟩, (((((((hx).six (y := some (b + 1)) (ob_s (by omega)))).six (y := some (b)) (ob_s (by omega)))).le (by omega)).cc (by first | rfl | simp only [six_six]) (by first | rfl | simp only [six_six])), hto, ((hF.set (by omega)).set (by omega))⟩)) (by decide) (by decide)
theorem d_Ma_isJumpTaken_19 : decode m_Ma_isJumpTaken.2.1 19 = .ok (.aload_n 0, 1) := by decide +kernel
theorem f_Ma_isJumpTaken_28 : jl_fd m_Ma_isJumpTaken 28 1 5 = true := by decide +kernel
theorem d_Ma_isJumpTaken_20 : decode m_Ma_isJumpTaken.2.1 20 = .ok (.getfield 28, 3) := by decide +kernel
theorem d_Ma_isJumpTaken_23 : decode m_Ma_isJumpTaken.2.1 23 = .ok (.iload_n 2, 1) := by decide +kernel
theorem d_Ma_isJumpTaken_24 : decode m_Ma_isJumpTaken.2.1 24 = .ok (.iaload, 1) := by decide +kernel
theorem d_Ma_isJumpTaken_25 : decode m_Ma_isJumpTaken.2.1 25 = .ok (.iconst 2, 1) := by decide +kernel
theorem d_Ma_isJumpTaken_26 : decode m_Ma_isJumpTaken.2.1 26 = .ok (.if_icmp .ne 7, 3) := by decide +kernel
theorem d_Ma_isJumpTaken_33 : decode m_Ma_isJumpTaken.2.1 33 = .ok (.iconst 0, 1) := by decide +kernel
theorem d_Ma_isJumpTaken_34 : decode m_Ma_isJumpTaken.2.1 34 = .ok (.ireturn, 1) := by decide +kernel
theorem d_Ma_isJumpTaken_29 : decode m_Ma_isJumpTaken.2.1 29 = .ok (.iconst 1, 1) := by decide +kernel
theorem d_Ma_isJumpTaken_30 : decode m_Ma_isJumpTaken.2.1 30 = .ok (.goto 4, 3) := by decide +kernel
theorem ma_jt_16 (hl : l.stackTraces = false) {P : jl_O → jl_S → Prop}  (hk : KB σ0 mt σ (7 + (b + 1)) t m p (R) (V) (fs) (H) su dt dq aw) (ht : t < 12) (hh : R 6 = some (b + 1)) (hb : b + 1 ≤ 5)  (hT : ∀ σ', KB σ0 mt σ' (7 + b) t m p (va_up R 6 (some b)) (V) (fs) (H) su dt dq aw → P (.inl (some (.int (bi (jtk 16 R V b))))) σ') : jl_mE l G m_Ma_isJumpTaken [.ref 13, .int (nI 16)] σ P := by
  obtain ⟨uw, ps, ty, va, hX, u1, u2, t1, t2, hS, hx, hto, hF⟩ := id hk
  obtain ⟨s0, s1, s2, s3⟩ := id hS
  obtain ⟨⟨⟨a, hma, hua⟩, hps, hty, hva⟩, hfs, hln, hob⟩ := id hx
  have hma : mt m = some a := hma
  have hps : ps t = p := hps
  have hty : ∀ j, j < _ → ty (t * 12 + j) = R j := hty
  have hva : ∀ j, j < _ → j ≠ 6 → va (t * 12 + j) = V j := hva
  have hRo := hx.rob
  have hh6 : ty (t * 12 + 6) = some (b + 1) := (hty 6 (by omega)).trans hh
  have hT0 : ty (t * 12 + 7 + b) = R (7 + b) := by rw [show t * 12 + 7 + b = t * 12 + (7 + b) by omega]; exact hty _ (by omega)
  have hV0 : va (t * 12 + 7 + b) = V (7 + b) := by rw [show t * 12 + 7 + b = t * 12 + (7 + b) by omega]; exact hva _ (by omega) (by omega)
  refine jl_ofE (as := [.ref 13, .int (nI 16)]) rfl (by decide) hl (jl_cc rfl (jl_cc rfl jl_ca)) (Nat.le_of_ble_eq_true rfl) ?_
  show jl_E l G m_Ma_isJumpTaken (0, 0) 0 [some (.ref 13), some (.int (nI 16)), none] [] (σ) P
  refine er_iload_n d_Ma_isJumpTaken_0 rfl ?_
  refine er_bipush ((nI (7))) d_Ma_isJumpTaken_1 (by decide) ?_
  refine er_icmp_ne 8 d_Ma_isJumpTaken_3 (by decide) (fun _ => ?_) (fun z => absurd z (by decide))
  refine er_aload_n d_Ma_isJumpTaken_8 rfl ?_
  refine er_callV (As := []) d_Ma_isJumpTaken_9 k_Ma_isJumpTaken_121 hX rfl rfl rfl (Nat.le_of_ble_eq_true rfl) (by decide) (by decide) (ma_takeA (h := b) hl hX t1 t2 ht hh6 (by omega)) ?_
  show jl_E l G m_Ma_isJumpTaken (0, 0) 12 [some (.ref 13), some (.int (nI 16)), none] [.int (nI (t * 12 + 7 + b))] (σ.set (20) (.inl (0, 144, .inl (fun j => en ((va_up ty (t * 12 + 6) (some (b))) j))))) P
  refine er_istore_n d_Ma_isJumpTaken_12 (by decide) ?_
  show jl_E l G m_Ma_isJumpTaken (0, 0) 13 [some (.ref 13), some (.int (nI 16)), some (.int (nI (t * 12 + 7 + b)))] [] (σ.set (20) (.inl (0, 144, .inl (fun j => en ((va_up ty (t * 12 + 6) (some (b))) j))))) P
  refine er_iload_n d_Ma_isJumpTaken_13 rfl ?_
  refine er_bipush ((nI (16))) d_Ma_isJumpTaken_14 (by decide) ?_
  refine er_icmp_ne 35 d_Ma_isJumpTaken_16 (by decide) (fun z => absurd rfl z) (fun _ => ?_)
  refine er_aload_n d_Ma_isJumpTaken_19 rfl ?_
  refine er_getf d_Ma_isJumpTaken_20 f_Ma_isJumpTaken_28 (jl_sn (by decide) hX) rfl ?_
  refine er_iload_n d_Ma_isJumpTaken_23 rfl ?_
  refine er_ialdQ (v := (en (R (7 + b)))) d_Ma_isJumpTaken_24 (jl_ss t1) (by omega) (by omega) (congrArg en ((va_up_ne _ _ (by omega)).trans (hT0))) ?_
  refine er_iconst ((nI (2))) d_Ma_isJumpTaken_25 (by decide) ?_
  refine er_icmp_ne 33 d_Ma_isJumpTaken_26 (by decide) (fun c1 => ?_) (fun c1 => ?_)
  · refine er_iconst ((nI (0))) d_Ma_isJumpTaken_33 (by decide) ?_
    exact er_zret d_Ma_isJumpTaken_34 rfl (by decide) (pv (show bi (jtk 16 R V b) = nI 0 by rw [show jtk 16 R V b = false from decide_eq_false (fun z => c1 ((en_i (x := R (7 + b)) (y := some 2) (hRo _ (by omega)) (ob_s (by decide))).mpr z))]; exact bi_f0) (hT _ ⟨_, _, _, _, (jl_sn (by decide) hX), (jl_sn (by decide) u1), (jl_sn (by decide) u2), (jl_ss t1), (jl_sn (by decide) t2), ⟨(jl_sn (by decide) s0), (jl_sn (by decide) s1), (jl_sn (by decide) s2), (jl_sn (by decide) s3)⟩, (((((hx).six (y := some (b)) (ob_s (by omega)))).le (by omega)).cc (by first | rfl | simp only [six_six]) (by first | rfl | simp only [six_six])), hto, (hF.set (by omega))⟩)) (by decide) (by decide)
  · refine er_iconst ((nI (1))) d_Ma_isJumpTaken_29 (by decide) ?_
    refine er_goto 34 d_Ma_isJumpTaken_30 (by decide) ?_
    exact er_zret d_Ma_isJumpTaken_34 rfl (by decide) (pv (show bi (jtk 16 R V b) = nI 1 by rw [show jtk 16 R V b = true from decide_eq_true ((en_i (x := R (7 + b)) (y := some 2) (hRo _ (by omega)) (ob_s (by decide))).mp c1)]; exact bi_t1) (hT _ ⟨_, _, _, _, (jl_sn (by decide) hX), (jl_sn (by decide) u1), (jl_sn (by decide) u2), (jl_ss t1), (jl_sn (by decide) t2), ⟨(jl_sn (by decide) s0), (jl_sn (by decide) s1), (jl_sn (by decide) s2), (jl_sn (by decide) s3)⟩, (((((hx).six (y := some (b)) (ob_s (by omega)))).le (by omega)).cc (by first | rfl | simp only [six_six]) (by first | rfl | simp only [six_six])), hto, (hF.set (by omega))⟩)) (by decide) (by decide)
end JMg
