/-! the class Machine: throwTaken, leave (wip/gen/p97h.py) -/
section JMh
variable {l : Launch} {G : jl_G} {σ : jl_S}
variable {tb : Nat → Bool} {pr : Nat → Option Nat} {ow fi ft : Nat → Nat} {mt : Nat → Option Nat}
variable {σ0 : jl_S} {N t m p b : Nat} {R : Rw} {V : Nat → Int32} {fs : List Fm} {H : Hp} {su dt dq aw x : Int32}
variable {sg : Int32 → Option Sg} {D : Nat → MDt} {MP : Nat → Nat → Int32} {FH : Nat → Nat → Bool} {g : Fm} {e k : Nat}
theorem nI_0k : nI 0 = 0 := by decide +kernel
theorem d_Ma_throwTaken_0 : decode m_Ma_throwTaken.2.1 0 = .ok (.aload_n 0, 1) := by decide +kernel
theorem k_Ma_throwTaken_121 : jl_cv m_Ma_throwTaken m_Ma_take 121 0 = true := by decide +kernel
theorem d_Ma_throwTaken_1 : decode m_Ma_throwTaken.2.1 1 = .ok (.invokevirtual 121, 3) := by decide +kernel
theorem d_Ma_throwTaken_4 : decode m_Ma_throwTaken.2.1 4 = .ok (.istore_n 1, 1) := by decide +kernel
theorem d_Ma_throwTaken_5 : decode m_Ma_throwTaken.2.1 5 = .ok (.aload_n 0, 1) := by decide +kernel
theorem f_Ma_throwTaken_28 : jl_fd m_Ma_throwTaken 28 1 5 = true := by decide +kernel
theorem d_Ma_throwTaken_6 : decode m_Ma_throwTaken.2.1 6 = .ok (.getfield 28, 3) := by decide +kernel
theorem d_Ma_throwTaken_9 : decode m_Ma_throwTaken.2.1 9 = .ok (.iload_n 1, 1) := by decide +kernel
theorem d_Ma_throwTaken_10 : decode m_Ma_throwTaken.2.1 10 = .ok (.iaload, 1) := by decide +kernel
theorem d_Ma_throwTaken_11 : decode m_Ma_throwTaken.2.1 11 = .ok (.iconst 2, 1) := by decide +kernel
theorem d_Ma_throwTaken_12 : decode m_Ma_throwTaken.2.1 12 = .ok (.if_icmp .ne 13, 3) := by decide +kernel
theorem d_Ma_throwTaken_15 : decode m_Ma_throwTaken.2.1 15 = .ok (.aload_n 0, 1) := by decide +kernel
theorem d_Ma_throwTaken_16 : decode m_Ma_throwTaken.2.1 16 = .ok (.iconst 2, 1) := by decide +kernel
theorem d_Ma_throwTaken_17 : decode m_Ma_throwTaken.2.1 17 = .ok (.iconst (-1), 1) := by decide +kernel
theorem d_Ma_throwTaken_18 : decode m_Ma_throwTaken.2.1 18 = .ok (.iconst (-1), 1) := by decide +kernel
theorem k_Ma_throwTaken_118 : jl_cv m_Ma_throwTaken m_Ma_raise 118 3 = true := by decide +kernel
theorem d_Ma_throwTaken_19 : decode m_Ma_throwTaken.2.1 19 = .ok (.invokevirtual 118, 3) := by decide +kernel
theorem d_Ma_throwTaken_22 : decode m_Ma_throwTaken.2.1 22 = .ok (.goto 21, 3) := by decide +kernel
theorem d_Ma_throwTaken_43 : decode m_Ma_throwTaken.2.1 43 = .ok (.return_, 1) := by decide +kernel
theorem ma_throw_n (hl : l.stackTraces = false) {P : jl_O → jl_S → Prop}  (hk : KB σ0 mt σ (7 + (b + 1)) t m p (R) (V) (fs) (H) su dt dq aw) (ht : t < 12) (hh : R 6 = some (b + 1)) (hb : b + 1 ≤ 5) (hwx : WX σ0 tb pr ow fi ft mt sg D MP FH) (hmt : MtOk mt) (hok : WoOk tb pr ow fi) (hD : ∀ m, mt m ≠ none → MdOk (D m)) (hp : p < 24) (hpf : ∀ k ∈ fs, k.p < 24) (hy : R (7 + b) = some 2) (hG : ∀ f' fs' σ', rse pr D (none) (-1) (⟨m, p, R, V⟩ :: fs) = some (f' :: fs') → KB σ0 mt σ' (7 + hgt f'.R) fs'.length f'.m f'.p f'.R f'.V fs' H su dt dq aw → P (.inl none) σ') (hE : rse pr D (none) (-1) (⟨m, p, R, V⟩ :: fs) = none → ∀ σ', KZ σ0 σ' H (nI 2) (nI 0) dq aw → P (.inl none) σ') : jl_mE l G m_Ma_throwTaken [.ref 13] σ P := by
  obtain ⟨uw, ps, ty, va, hX, u1, u2, t1, t2, hS, hx, hto, hF⟩ := id hk
  obtain ⟨s0, s1, s2, s3⟩ := id hS
  obtain ⟨⟨⟨a, hma, hua⟩, hps, hty, hva⟩, hfs, hln, hob⟩ := id hx
  have hma : mt m = some a := hma
  have hps : ps t = p := hps
  have hty : ∀ j, j < _ → ty (t * 12 + j) = R j := hty
  have hva : ∀ j, j < _ → j ≠ 6 → va (t * 12 + j) = V j := hva
  have hRo := hx.rob
  have hh6 : ty (t * 12 + 6) = some (b + 1) := (hty 6 (by omega)).trans hh
  have hT0 : ty (t * 12 + 7 + b) = R (7 + b) := by rw [show t * 12 + 7 + b = t * 12 + (7 + b) by omega]; exact hty _ (by omega)
  have hV0 : va (t * 12 + 7 + b) = V (7 + b) := by rw [show t * 12 + 7 + b = t * 12 + (7 + b) by omega]; exact hva _ (by omega) (by omega)
  refine jl_ofE (as := [.ref 13]) rfl (by decide) hl (jl_cc rfl jl_ca) (Nat.le_of_ble_eq_true rfl) ?_
  show jl_E l G m_Ma_throwTaken (0, 0) 0 [some (.ref 13), none] [] (σ) P
  refine er_aload_n d_Ma_throwTaken_0 rfl ?_
  refine er_callV (As := []) d_Ma_throwTaken_1 k_Ma_throwTaken_121 hX rfl rfl rfl (Nat.le_of_ble_eq_true rfl) (by decide) (by decide) (ma_takeA (h := b) hl hX t1 t2 ht hh6 (by omega)) ?_
  show jl_E l G m_Ma_throwTaken (0, 0) 4 [some (.ref 13), none] [.int (nI (t * 12 + 7 + b))] (σ.set (20) (.inl (0, 144, .inl (fun j => en ((va_up ty (t * 12 + 6) (some (b))) j))))) P
  refine er_istore_n d_Ma_throwTaken_4 (by decide) ?_
  show jl_E l G m_Ma_throwTaken (0, 0) 5 [some (.ref 13), some (.int (nI (t * 12 + 7 + b)))] [] (σ.set (20) (.inl (0, 144, .inl (fun j => en ((va_up ty (t * 12 + 6) (some (b))) j))))) P
  refine er_aload_n d_Ma_throwTaken_5 rfl ?_
  refine er_getf d_Ma_throwTaken_6 f_Ma_throwTaken_28 (jl_sn (by decide) hX) rfl ?_
  refine er_iload_n d_Ma_throwTaken_9 rfl ?_
  refine er_ialdQ (v := (nI (2))) d_Ma_throwTaken_10 (jl_ss t1) (by omega) (by omega) ((congrArg en ((va_up_ne _ _ (by omega)).trans (hT0))).trans (congrArg en hy)) ?_
  refine er_iconst ((nI (2))) d_Ma_throwTaken_11 (by decide) ?_
  refine er_icmp_ne 25 d_Ma_throwTaken_12 (by decide) (fun z => absurd rfl z) (fun _ => ?_)
  refine er_aload_n d_Ma_throwTaken_15 rfl ?_
  refine er_iconst ((nI (2))) d_Ma_throwTaken_16 (by decide) ?_
  refine er_iconst ((-1)) d_Ma_throwTaken_17 (by decide) ?_
  refine er_iconst ((-1)) d_Ma_throwTaken_18 (by decide) ?_
  refine er_callVE (As := [.int (nI 2), .int (-1), .int (-1)]) d_Ma_throwTaken_19 k_Ma_throwTaken_118 (jl_sn (by decide) hX) rfl rfl rfl (Nat.le_of_ble_eq_true rfl) (by decide) (by decide) (ma_raise (y := none) (v := -1) (n := 2) (R := R) (V := V) hl ⟨_, _, _, _, (jl_sn (by decide) hX), (jl_sn (by decide) u1), (jl_sn (by decide) u2), (jl_ss t1), (jl_sn (by decide) t2), ⟨(jl_sn (by decide) s0), (jl_sn (by decide) s1), (jl_sn (by decide) s2), (jl_sn (by decide) s3)⟩, (((hx).six (y := some (b)) (ob_s (by omega)))).lo (by omega) (fun j hj => ⟨va_up_ne _ _ (by omega), rfl⟩), hto, (hF.set (by omega))⟩ hwx hmt hok hD (fun _ q => by cases q) (by decide) ht hp hpf (fun f1 fs1 σ e1 h1 => ⟨_, rfl, ?_⟩) (fun e1 σ h1 => ⟨_, rfl, ?_⟩))
  · skip
    show jl_E l G m_Ma_throwTaken (0, 0) 22 [some (.ref 13), some (.int (nI (t * 12 + 7 + b)))] [] (σ) P
    refine er_goto 43 d_Ma_throwTaken_22 (by decide) ?_
    exact er_vret d_Ma_throwTaken_43 rfl (hG f1 fs1 _ e1 h1) (by decide) (by decide)
  · skip
    show jl_E l G m_Ma_throwTaken (0, 0) 22 [some (.ref 13), some (.int (nI (t * 12 + 7 + b)))] [] (σ) P
    refine er_goto 43 d_Ma_throwTaken_22 (by decide) ?_
    exact er_vret d_Ma_throwTaken_43 rfl (hE e1 _ h1) (by decide) (by decide)
theorem d_Ma_throwTaken_25 : decode m_Ma_throwTaken.2.1 25 = .ok (.aload_n 0, 1) := by decide +kernel
theorem d_Ma_throwTaken_26 : decode m_Ma_throwTaken.2.1 26 = .ok (.bipush 7, 2) := by decide +kernel
theorem d_Ma_throwTaken_28 : decode m_Ma_throwTaken.2.1 28 = .ok (.aload_n 0, 1) := by decide +kernel
theorem d_Ma_throwTaken_29 : decode m_Ma_throwTaken.2.1 29 = .ok (.getfield 28, 3) := by decide +kernel
theorem d_Ma_throwTaken_32 : decode m_Ma_throwTaken.2.1 32 = .ok (.iload_n 1, 1) := by decide +kernel
theorem d_Ma_throwTaken_33 : decode m_Ma_throwTaken.2.1 33 = .ok (.iaload, 1) := by decide +kernel
theorem d_Ma_throwTaken_34 : decode m_Ma_throwTaken.2.1 34 = .ok (.aload_n 0, 1) := by decide +kernel
theorem f_Ma_throwTaken_31 : jl_fd m_Ma_throwTaken 31 1 6 = true := by decide +kernel
theorem d_Ma_throwTaken_35 : decode m_Ma_throwTaken.2.1 35 = .ok (.getfield 31, 3) := by decide +kernel
theorem d_Ma_throwTaken_38 : decode m_Ma_throwTaken.2.1 38 = .ok (.iload_n 1, 1) := by decide +kernel
theorem d_Ma_throwTaken_39 : decode m_Ma_throwTaken.2.1 39 = .ok (.iaload, 1) := by decide +kernel
theorem d_Ma_throwTaken_40 : decode m_Ma_throwTaken.2.1 40 = .ok (.invokevirtual 118, 3) := by decide +kernel
theorem ma_throw_o (hl : l.stackTraces = false) {P : jl_O → jl_S → Prop}  (hk : KB σ0 mt σ (7 + (b + 1)) t m p (R) (V) (fs) (H) su dt dq aw) (ht : t < 12) (hh : R 6 = some (b + 1)) (hb : b + 1 ≤ 5) (hwx : WX σ0 tb pr ow fi ft mt sg D MP FH) (hmt : MtOk mt) (hok : WoOk tb pr ow fi) (hD : ∀ m, mt m ≠ none → MdOk (D m)) (hp : p < 24) (hpf : ∀ k ∈ fs, k.p < 24) (hy : ¬ R (7 + b) = some 2) (hG : ∀ f' fs' σ', rse pr D (R (7 + b)) (V (7 + b)) (⟨m, p, R, V⟩ :: fs) = some (f' :: fs') → KB σ0 mt σ' (7 + hgt f'.R) fs'.length f'.m f'.p f'.R f'.V fs' H su dt dq aw → P (.inl none) σ') (hE : rse pr D (R (7 + b)) (V (7 + b)) (⟨m, p, R, V⟩ :: fs) = none → ∀ σ', KZ σ0 σ' H (nI 7) (en (R (7 + b)) - nI 10) dq aw → P (.inl none) σ') : jl_mE l G m_Ma_throwTaken [.ref 13] σ P := by
  obtain ⟨uw, ps, ty, va, hX, u1, u2, t1, t2, hS, hx, hto, hF⟩ := id hk
  obtain ⟨s0, s1, s2, s3⟩ := id hS
  obtain ⟨⟨⟨a, hma, hua⟩, hps, hty, hva⟩, hfs, hln, hob⟩ := id hx
  have hma : mt m = some a := hma
  have hps : ps t = p := hps
  have hty : ∀ j, j < _ → ty (t * 12 + j) = R j := hty
  have hva : ∀ j, j < _ → j ≠ 6 → va (t * 12 + j) = V j := hva
  have hRo := hx.rob
  have hh6 : ty (t * 12 + 6) = some (b + 1) := (hty 6 (by omega)).trans hh
  have hT0 : ty (t * 12 + 7 + b) = R (7 + b) := by rw [show t * 12 + 7 + b = t * 12 + (7 + b) by omega]; exact hty _ (by omega)
  have hV0 : va (t * 12 + 7 + b) = V (7 + b) := by rw [show t * 12 + 7 + b = t * 12 + (7 + b) by omega]; exact hva _ (by omega) (by omega)
  refine jl_ofE (as := [.ref 13]) rfl (by decide) hl (jl_cc rfl jl_ca) (Nat.le_of_ble_eq_true rfl) ?_
  show jl_E l G m_Ma_throwTaken (0, 0) 0 [some (.ref 13), none] [] (σ) P
  refine er_aload_n d_Ma_throwTaken_0 rfl ?_
  refine er_callV (As := []) d_Ma_throwTaken_1 k_Ma_throwTaken_121 hX rfl rfl rfl (Nat.le_of_ble_eq_true rfl) (by decide) (by decide) (ma_takeA (h := b) hl hX t1 t2 ht hh6 (by omega)) ?_
  show jl_E l G m_Ma_throwTaken (0, 0) 4 [some (.ref 13), none] [.int (nI (t * 12 + 7 + b))] (σ.set (20) (.inl (0, 144, .inl (fun j => en ((va_up ty (t * 12 + 6) (some (b))) j))))) P
  refine er_istore_n d_Ma_throwTaken_4 (by decide) ?_
  show jl_E l G m_Ma_throwTaken (0, 0) 5 [some (.ref 13), some (.int (nI (t * 12 + 7 + b)))] [] (σ.set (20) (.inl (0, 144, .inl (fun j => en ((va_up ty (t * 12 + 6) (some (b))) j))))) P
  refine er_aload_n d_Ma_throwTaken_5 rfl ?_
  refine er_getf d_Ma_throwTaken_6 f_Ma_throwTaken_28 (jl_sn (by decide) hX) rfl ?_
  refine er_iload_n d_Ma_throwTaken_9 rfl ?_
  refine er_ialdQ (v := (en (R (7 + b)))) d_Ma_throwTaken_10 (jl_ss t1) (by omega) (by omega) (congrArg en ((va_up_ne _ _ (by omega)).trans (hT0))) ?_
  refine er_iconst ((nI (2))) d_Ma_throwTaken_11 (by decide) ?_
  refine er_icmp_ne 25 d_Ma_throwTaken_12 (by decide) (fun _ => ?_) (fun z => absurd z (fun z => hy ((en_i (x := R (7 + b)) (y := some 2) (hRo _ (by omega)) (ob_s (by decide))).mp z)))
  refine er_aload_n d_Ma_throwTaken_25 rfl ?_
  refine er_bipush ((nI (7))) d_Ma_throwTaken_26 (by decide) ?_
  refine er_aload_n d_Ma_throwTaken_28 rfl ?_
  refine er_getf d_Ma_throwTaken_29 f_Ma_throwTaken_28 (jl_sn (by decide) hX) rfl ?_
  refine er_iload_n d_Ma_throwTaken_32 rfl ?_
  refine er_ialdQ (v := (en (R (7 + b)))) d_Ma_throwTaken_33 (jl_ss t1) (by omega) (by omega) (congrArg en ((va_up_ne _ _ (by omega)).trans (hT0))) ?_
  refine er_aload_n d_Ma_throwTaken_34 rfl ?_
  refine er_getf d_Ma_throwTaken_35 f_Ma_throwTaken_31 (jl_sn (by decide) hX) rfl ?_
  refine er_iload_n d_Ma_throwTaken_38 rfl ?_
  refine er_ialdQ (v := (V (7 + b))) d_Ma_throwTaken_39 (jl_sn (by decide) t2) (by omega) (by omega) (hV0) ?_
  refine er_callVE (As := [.int (nI 7), .int (en (R (7 + b))), .int (V (7 + b))]) d_Ma_throwTaken_40 k_Ma_throwTaken_118 (jl_sn (by decide) hX) rfl rfl rfl (Nat.le_of_ble_eq_true rfl) (by decide) (by decide) (ma_raise (y := R (7 + b)) (v := V (7 + b)) (n := 7) (R := R) (V := V) hl ⟨_, _, _, _, (jl_sn (by decide) hX), (jl_sn (by decide) u1), (jl_sn (by decide) u2), (jl_ss t1), (jl_sn (by decide) t2), ⟨(jl_sn (by decide) s0), (jl_sn (by decide) s1), (jl_sn (by decide) s2), (jl_sn (by decide) s3)⟩, (((hx).six (y := some (b)) (ob_s (by omega)))).lo (by omega) (fun j hj => ⟨va_up_ne _ _ (by omega), rfl⟩), hto, (hF.set (by omega))⟩ hwx hmt hok hD (hRo _ (by omega)) (by decide) ht hp hpf (fun f1 fs1 σ e1 h1 => ⟨_, rfl, ?_⟩) (fun e1 σ h1 => ⟨_, rfl, ?_⟩))
  · skip
    show jl_E l G m_Ma_throwTaken (0, 0) 43 [some (.ref 13), some (.int (nI (t * 12 + 7 + b)))] [] (σ) P
    exact er_vret d_Ma_throwTaken_43 rfl (hG f1 fs1 _ e1 h1) (by decide) (by decide)
  · skip
    show jl_E l G m_Ma_throwTaken (0, 0) 43 [some (.ref 13), some (.int (nI (t * 12 + 7 + b)))] [] (σ) P
    exact er_vret d_Ma_throwTaken_43 rfl (hE e1 _ h1) (by decide) (by decide)
theorem d_Ma_leave_0 : decode m_Ma_leave.2.1 0 = .ok (.aload_n 0, 1) := by decide +kernel
theorem k_Ma_leave_121 : jl_cv m_Ma_leave m_Ma_take 121 0 = true := by decide +kernel
theorem d_Ma_leave_1 : decode m_Ma_leave.2.1 1 = .ok (.invokevirtual 121, 3) := by decide +kernel
theorem d_Ma_leave_4 : decode m_Ma_leave.2.1 4 = .ok (.istore_n 1, 1) := by decide +kernel
theorem d_Ma_leave_5 : decode m_Ma_leave.2.1 5 = .ok (.aload_n 0, 1) := by decide +kernel
theorem f_Ma_leave_34 : jl_fd m_Ma_leave 34 1 7 = true := by decide +kernel
theorem d_Ma_leave_6 : decode m_Ma_leave.2.1 6 = .ok (.getfield 34, 3) := by decide +kernel
theorem d_Ma_leave_9 : decode m_Ma_leave.2.1 9 = .ok (.ifCond .ne 20, 3) := by decide +kernel
theorem d_Ma_leave_12 : decode m_Ma_leave.2.1 12 = .ok (.aload_n 0, 1) := by decide +kernel
theorem d_Ma_leave_13 : decode m_Ma_leave.2.1 13 = .ok (.aload_n 0, 1) := by decide +kernel
theorem f_Ma_leave_31 : jl_fd m_Ma_leave 31 1 6 = true := by decide +kernel
theorem d_Ma_leave_14 : decode m_Ma_leave.2.1 14 = .ok (.getfield 31, 3) := by decide +kernel
theorem d_Ma_leave_17 : decode m_Ma_leave.2.1 17 = .ok (.iload_n 1, 1) := by decide +kernel
theorem d_Ma_leave_18 : decode m_Ma_leave.2.1 18 = .ok (.iaload, 1) := by decide +kernel
theorem p_Ma_leave_47 : jl_fp m_Ma_leave 47 1 11 = true := by decide +kernel
theorem d_Ma_leave_19 : decode m_Ma_leave.2.1 19 = .ok (.putfield 47, 3) := by decide +kernel
theorem d_Ma_leave_22 : decode m_Ma_leave.2.1 22 = .ok (.aload_n 0, 1) := by decide +kernel
theorem d_Ma_leave_23 : decode m_Ma_leave.2.1 23 = .ok (.iconst 0, 1) := by decide +kernel
theorem d_Ma_leave_24 : decode m_Ma_leave.2.1 24 = .ok (.iconst 0, 1) := by decide +kernel
theorem k_Ma_leave_87 : jl_cv m_Ma_leave m_Ma_end 87 2 = true := by decide +kernel
theorem d_Ma_leave_25 : decode m_Ma_leave.2.1 25 = .ok (.invokevirtual 87, 3) := by decide +kernel
theorem d_Ma_leave_28 : decode m_Ma_leave.2.1 28 = .ok (.return_, 1) := by decide +kernel
theorem ma_leave_0 (hl : l.stackTraces = false) {P : jl_O → jl_S → Prop}  (hk : KB σ0 mt σ (7 + (b + 1)) t m p (R) (V) (fs) (H) su dt dq aw) (ht : t < 12) (hh : R 6 = some (b + 1)) (hb : b + 1 ≤ 5) (h0 : t = 0) (hT : ∀ σ', KZ σ0 σ' H (nI 0) (nI 0) dq (V (7 + b)) → P (.inl none) σ') : jl_mE l G m_Ma_leave [.ref 13] σ P := by
  obtain ⟨uw, ps, ty, va, hX, u1, u2, t1, t2, hS, hx, hto, hF⟩ := id hk
  obtain ⟨s0, s1, s2, s3⟩ := id hS
  obtain ⟨⟨⟨a, hma, hua⟩, hps, hty, hva⟩, hfs, hln, hob⟩ := id hx
  have hma : mt m = some a := hma
  have hps : ps t = p := hps
  have hty : ∀ j, j < _ → ty (t * 12 + j) = R j := hty
  have hva : ∀ j, j < _ → j ≠ 6 → va (t * 12 + j) = V j := hva
  have hRo := hx.rob
  have hh6 : ty (t * 12 + 6) = some (b + 1) := (hty 6 (by omega)).trans hh
  have hT0 : ty (t * 12 + 7 + b) = R (7 + b) := by rw [show t * 12 + 7 + b = t * 12 + (7 + b) by omega]; exact hty _ (by omega)
  have hV0 : va (t * 12 + 7 + b) = V (7 + b) := by rw [show t * 12 + 7 + b = t * 12 + (7 + b) by omega]; exact hva _ (by omega) (by omega)
  refine jl_ofE (as := [.ref 13]) rfl (by decide) hl (jl_cc rfl jl_ca) (Nat.le_of_ble_eq_true rfl) ?_
  show jl_E l G m_Ma_leave (0, 0) 0 [some (.ref 13), none] [] (σ) P
  refine er_aload_n d_Ma_leave_0 rfl ?_
  refine er_callV (As := []) d_Ma_leave_1 k_Ma_leave_121 hX rfl rfl rfl (Nat.le_of_ble_eq_true rfl) (by decide) (by decide) (ma_takeA (h := b) hl hX t1 t2 ht hh6 (by omega)) ?_
  show jl_E l G m_Ma_leave (0, 0) 4 [some (.ref 13), none] [.int (nI (t * 12 + 7 + b))] (σ.set (20) (.inl (0, 144, .inl (fun j => en ((va_up ty (t * 12 + 6) (some (b))) j))))) P
  refine er_istore_n d_Ma_leave_4 (by decide) ?_
  show jl_E l G m_Ma_leave (0, 0) 5 [some (.ref 13), some (.int (nI (t * 12 + 7 + b)))] [] (σ.set (20) (.inl (0, 144, .inl (fun j => en ((va_up ty (t * 12 + 6) (some (b))) j))))) P
  refine er_aload_n d_Ma_leave_5 rfl ?_
  refine er_getf d_Ma_leave_6 f_Ma_leave_34 (jl_sn (by decide) hX) rfl ?_
  refine er_if_ne 29 d_Ma_leave_9 (by decide) (fun z => absurd ((show nI t = 0 by rw [h0]; exact nI_0k)) z) (fun _ => ?_)
  refine er_aload_n d_Ma_leave_12 rfl ?_
  refine er_aload_n d_Ma_leave_13 rfl ?_
  refine er_getf d_Ma_leave_14 f_Ma_leave_31 (jl_sn (by decide) hX) rfl ?_
  refine er_iload_n d_Ma_leave_17 rfl ?_
  refine er_ialdQ (v := (V (7 + b))) d_Ma_leave_18 (jl_sn (by decide) t2) (by omega) (by omega) (hV0) ?_
  refine er_putf d_Ma_leave_19 p_Ma_leave_47 (jl_sn (by decide) hX) (Nat.le_of_ble_eq_true rfl) jl_fit_int ?_
  show jl_E l G m_Ma_leave (0, 0) 22 [some (.ref 13), some (.int (nI (t * 12 + 7 + b)))] [] ((σ.set (20) (.inl (0, 144, .inl (fun j => en ((va_up ty (t * 12 + 6) (some (b))) j))))).set (13) (.inr (1, [.ref 1, .ref 8, .ref 14, .ref 18, .ref 19, .ref 20, .ref 21, .int (nI t), .int (su), .int (dt), .int (dq), .int (V (7 + b))]))) P
  refine er_aload_n d_Ma_leave_22 rfl ?_
  refine er_iconst ((nI (0))) d_Ma_leave_23 (by decide) ?_
  refine er_iconst ((nI (0))) d_Ma_leave_24 (by decide) ?_
  refine er_callV (As := [.int (nI 0), .int (nI 0)]) d_Ma_leave_25 k_Ma_leave_87 (jl_ss (jl_sn (by decide) hX)) rfl rfl rfl (Nat.le_of_ble_eq_true rfl) (by decide) (by decide) (ma_end hl (jl_ss (jl_sn (by decide) hX))) ?_
  show jl_E l G m_Ma_leave (0, 0) 28 [some (.ref 13), some (.int (nI (t * 12 + 7 + b)))] [] (((σ.set (20) (.inl (0, 144, .inl (fun j => en ((va_up ty (t * 12 + 6) (some (b))) j))))).set (13) (.inr (1, [.ref 1, .ref 8, .ref 14, .ref 18, .ref 19, .ref 20, .ref 21, .int (nI t), .int (su), .int (dt), .int (dq), .int (V (7 + b))]))).set (13) (.inr (1, [.ref 1, .ref 8, .ref 14, .ref 18, .ref 19, .ref 20, .ref 21, .int (nI t), .int (nI 0), .int (nI 0), .int (dq), .int (V (7 + b))]))) P
  exact er_vret d_Ma_leave_28 rfl (hT _ ⟨_, _, _, _, _, (jl_ss (jl_ss (jl_sn (by decide) hX))), (jl_sn (by decide) (jl_sn (by decide) (jl_sn (by decide) u1))), (jl_sn (by decide) (jl_sn (by decide) (jl_sn (by decide) u2))), (jl_sn (by decide) (jl_sn (by decide) (jl_ss t1))), (jl_sn (by decide) (jl_sn (by decide) (jl_sn (by decide) t2))), ⟨(jl_sn (by decide) (jl_sn (by decide) (jl_sn (by decide) s0))), (jl_sn (by decide) (jl_sn (by decide) (jl_sn (by decide) s1))), (jl_sn (by decide) (jl_sn (by decide) (jl_sn (by decide) s2))), (jl_sn (by decide) (jl_sn (by decide) (jl_sn (by decide) s3)))⟩, (((hx).six (y := some (b)) (ob_s (by omega)))).2.2.2, hto, (((hF.set (by omega)).set (by omega)).set (by omega))⟩) (by decide) (by decide)
theorem d_Ma_leave_29 : decode m_Ma_leave.2.1 29 = .ok (.aload_n 0, 1) := by decide +kernel
theorem d_Ma_leave_30 : decode m_Ma_leave.2.1 30 = .ok (.dup, 1) := by decide +kernel
theorem d_Ma_leave_31 : decode m_Ma_leave.2.1 31 = .ok (.getfield 34, 3) := by decide +kernel
theorem d_Ma_leave_34 : decode m_Ma_leave.2.1 34 = .ok (.iconst 1, 1) := by decide +kernel
theorem d_Ma_leave_35 : decode m_Ma_leave.2.1 35 = .ok (.isub, 1) := by decide +kernel
theorem p_Ma_leave_34 : jl_fp m_Ma_leave 34 1 7 = true := by decide +kernel
theorem d_Ma_leave_36 : decode m_Ma_leave.2.1 36 = .ok (.putfield 34, 3) := by decide +kernel
theorem d_Ma_leave_39 : decode m_Ma_leave.2.1 39 = .ok (.aload_n 0, 1) := by decide +kernel
theorem d_Ma_leave_40 : decode m_Ma_leave.2.1 40 = .ok (.aload_n 0, 1) := by decide +kernel
theorem f_Ma_leave_28 : jl_fd m_Ma_leave 28 1 5 = true := by decide +kernel
theorem d_Ma_leave_41 : decode m_Ma_leave.2.1 41 = .ok (.getfield 28, 3) := by decide +kernel
theorem d_Ma_leave_44 : decode m_Ma_leave.2.1 44 = .ok (.iload_n 1, 1) := by decide +kernel
theorem d_Ma_leave_45 : decode m_Ma_leave.2.1 45 = .ok (.iaload, 1) := by decide +kernel
theorem d_Ma_leave_46 : decode m_Ma_leave.2.1 46 = .ok (.aload_n 0, 1) := by decide +kernel
theorem d_Ma_leave_47 : decode m_Ma_leave.2.1 47 = .ok (.getfield 31, 3) := by decide +kernel
theorem d_Ma_leave_50 : decode m_Ma_leave.2.1 50 = .ok (.iload_n 1, 1) := by decide +kernel
theorem d_Ma_leave_51 : decode m_Ma_leave.2.1 51 = .ok (.iaload, 1) := by decide +kernel
theorem k_Ma_leave_133 : jl_cv m_Ma_leave m_Ma_put 133 2 = true := by decide +kernel
theorem d_Ma_leave_52 : decode m_Ma_leave.2.1 52 = .ok (.invokevirtual 133, 3) := by decide +kernel
theorem d_Ma_leave_55 : decode m_Ma_leave.2.1 55 = .ok (.aload_n 0, 1) := by decide +kernel
theorem f_Ma_leave_24 : jl_fd m_Ma_leave 24 1 4 = true := by decide +kernel
theorem d_Ma_leave_56 : decode m_Ma_leave.2.1 56 = .ok (.getfield 24, 3) := by decide +kernel
theorem d_Ma_leave_59 : decode m_Ma_leave.2.1 59 = .ok (.aload_n 0, 1) := by decide +kernel
theorem d_Ma_leave_60 : decode m_Ma_leave.2.1 60 = .ok (.getfield 34, 3) := by decide +kernel
theorem d_Ma_leave_63 : decode m_Ma_leave.2.1 63 = .ok (.dup2, 1) := by decide +kernel
theorem d_Ma_leave_64 : decode m_Ma_leave.2.1 64 = .ok (.iaload, 1) := by decide +kernel
theorem d_Ma_leave_65 : decode m_Ma_leave.2.1 65 = .ok (.iconst 1, 1) := by decide +kernel
theorem d_Ma_leave_66 : decode m_Ma_leave.2.1 66 = .ok (.iadd, 1) := by decide +kernel
theorem d_Ma_leave_67 : decode m_Ma_leave.2.1 67 = .ok (.iastore, 1) := by decide +kernel
theorem d_Ma_leave_68 : decode m_Ma_leave.2.1 68 = .ok (.return_, 1) := by decide +kernel
theorem ma_leave_s (hl : l.stackTraces = false) {P : jl_O → jl_S → Prop}  (hk : KB σ0 mt σ (7 + (b + 1)) t m p (R) (V) (g :: fs) (H) su dt dq aw) (ht : t < 12) (hh : R 6 = some (b + 1)) (hb : b + 1 ≤ 5) (hg6 : g.R 6 = some (hgt g.R)) (hg4 : hgt g.R ≤ 4) (hT : ∀ σ', KB σ0 mt σ' (8 + hgt g.R) fs.length g.m (g.p + 1) (psh g.R (hgt g.R) (R (7 + b))) (va_up g.V (7 + hgt g.R) (V (7 + b))) fs H su dt dq aw → P (.inl none) σ') : jl_mE l G m_Ma_leave [.ref 13] σ P := by
  obtain ⟨uw, ps, ty, va, hX, u1, u2, t1, t2, hS, hx, hto, hF⟩ := id hk
  obtain ⟨s0, s1, s2, s3⟩ := id hS
  obtain ⟨⟨⟨a, hma, hua⟩, hps, hty, hva⟩, hfs, hln, hob⟩ := id hx
  have hma : mt m = some a := hma
  have hps : ps t = p := hps
  have hty : ∀ j, j < _ → ty (t * 12 + j) = R j := hty
  have hva : ∀ j, j < _ → j ≠ 6 → va (t * 12 + j) = V j := hva
  have hRo := hx.rob
  obtain ⟨hx2, hg5, hte⟩ := hx.dn
  have hx3 := hx2.out (q := t * 12 + 6) (y := some b) (by omega) (by omega) (ob_s (by omega))
  have hh6 : ty (t * 12 + 6) = some (b + 1) := (hty 6 (by omega)).trans hh
  have hT0 : ty (t * 12 + 7 + b) = R (7 + b) := by rw [show t * 12 + 7 + b = t * 12 + (7 + b) by omega]; exact hty _ (by omega)
  have hV0 : va (t * 12 + 7 + b) = V (7 + b) := by rw [show t * 12 + 7 + b = t * 12 + (7 + b) by omega]; exact hva _ (by omega) (by omega)
  refine jl_ofE (as := [.ref 13]) rfl (by decide) hl (jl_cc rfl jl_ca) (Nat.le_of_ble_eq_true rfl) ?_
  show jl_E l G m_Ma_leave (0, 0) 0 [some (.ref 13), none] [] (σ) P
  refine er_aload_n d_Ma_leave_0 rfl ?_
  refine er_callV (As := []) d_Ma_leave_1 k_Ma_leave_121 hX rfl rfl rfl (Nat.le_of_ble_eq_true rfl) (by decide) (by decide) (ma_takeA (h := b) hl hX t1 t2 ht hh6 (by omega)) ?_
  show jl_E l G m_Ma_leave (0, 0) 4 [some (.ref 13), none] [.int (nI (t * 12 + 7 + b))] (σ.set (20) (.inl (0, 144, .inl (fun j => en ((va_up ty (t * 12 + 6) (some (b))) j))))) P
  refine er_istore_n d_Ma_leave_4 (by decide) ?_
  show jl_E l G m_Ma_leave (0, 0) 5 [some (.ref 13), some (.int (nI (t * 12 + 7 + b)))] [] (σ.set (20) (.inl (0, 144, .inl (fun j => en ((va_up ty (t * 12 + 6) (some (b))) j))))) P
  refine er_aload_n d_Ma_leave_5 rfl ?_
  refine er_getf d_Ma_leave_6 f_Ma_leave_34 (jl_sn (by decide) hX) rfl ?_
  refine er_if_ne 29 d_Ma_leave_9 (by decide) (fun _ => ?_) (fun z => absurd z ((fun z => by have z2 : nI t = nI 0 := z.trans nI_0k.symm; rw [nI_eq (by omega) (by omega)] at z2; omega)))
  refine er_aload_n d_Ma_leave_29 rfl ?_
  refine er_dup d_Ma_leave_30 rfl ?_
  refine er_getf d_Ma_leave_31 f_Ma_leave_34 (jl_sn (by decide) hX) rfl ?_
  refine er_iconst ((nI (1))) d_Ma_leave_34 (by decide) ?_
  refine er_isubN d_Ma_leave_35 (by omega) ?_
  rw [show (t) - (1) = fs.length by omega]
  show jl_E l G m_Ma_leave (0, 0) 36 [some (.ref 13), some (.int (nI (t * 12 + 7 + b)))] [.int (nI (fs.length)), .ref 13] (σ.set (20) (.inl (0, 144, .inl (fun j => en ((va_up ty (t * 12 + 6) (some (b))) j))))) P
  refine er_putf d_Ma_leave_36 p_Ma_leave_34 (jl_sn (by decide) hX) (Nat.le_of_ble_eq_true rfl) jl_fit_int ?_
  show jl_E l G m_Ma_leave (0, 0) 39 [some (.ref 13), some (.int (nI (t * 12 + 7 + b)))] [] ((σ.set (20) (.inl (0, 144, .inl (fun j => en ((va_up ty (t * 12 + 6) (some (b))) j))))).set (13) (.inr (1, [.ref 1, .ref 8, .ref 14, .ref 18, .ref 19, .ref 20, .ref 21, .int (nI (fs.length)), .int (su), .int (dt), .int (dq), .int (aw)]))) P
  refine er_aload_n d_Ma_leave_39 rfl ?_
  refine er_aload_n d_Ma_leave_40 rfl ?_
  refine er_getf d_Ma_leave_41 f_Ma_leave_28 (jl_ss (jl_sn (by decide) hX)) rfl ?_
  refine er_iload_n d_Ma_leave_44 rfl ?_
  refine er_ialdQ (v := (en (R (7 + b)))) d_Ma_leave_45 (jl_sn (by decide) (jl_ss t1)) (by omega) (by omega) (congrArg en ((va_up_ne _ _ (by omega)).trans (hT0))) ?_
  refine er_aload_n d_Ma_leave_46 rfl ?_
  refine er_getf d_Ma_leave_47 f_Ma_leave_31 (jl_ss (jl_sn (by decide) hX)) rfl ?_
  refine er_iload_n d_Ma_leave_50 rfl ?_
  refine er_ialdQ (v := (V (7 + b))) d_Ma_leave_51 (jl_sn (by decide) (jl_sn (by decide) t2)) (by omega) (by omega) (hV0) ?_
  refine er_callV (As := [.int (en (R (7 + b))), .int (V (7 + b))]) d_Ma_leave_52 k_Ma_leave_133 (jl_ss (jl_sn (by decide) hX)) rfl rfl rfl (Nat.le_of_ble_eq_true rfl) (by decide) (by decide) (ma_put (t := fs.length) (h := hgt g.R) (y := (R (7 + b))) (v := (V (7 + b))) hl (jl_ss (jl_sn (by decide) hX)) (jl_sn (by decide) (jl_ss t1)) (jl_sn (by decide) (jl_sn (by decide) t2)) (by omega) ((hx3.1.2.2.1 6 (by omega)).trans hg6) (by omega)) ?_
  show jl_E l G m_Ma_leave (0, 0) 55 [some (.ref 13), some (.int (nI (t * 12 + 7 + b)))] [] (((((σ.set (20) (.inl (0, 144, .inl (fun j => en ((va_up ty (t * 12 + 6) (some (b))) j))))).set (13) (.inr (1, [.ref 1, .ref 8, .ref 14, .ref 18, .ref 19, .ref 20, .ref 21, .int (nI (fs.length)), .int (su), .int (dt), .int (dq), .int (aw)]))).set (20) (.inl (0, 144, .inl (fun j => en ((va_up (va_up ty (t * 12 + 6) (some (b))) (fs.length * 12 + 7 + hgt g.R) (R (7 + b))) j))))).set (21) (.inl (0, 144, .inl (upd va (fs.length * 12 + 7 + hgt g.R) (V (7 + b)))))).set (20) (.inl (0, 144, .inl (fun j => en ((va_up (va_up (va_up ty (t * 12 + 6) (some (b))) (fs.length * 12 + 7 + hgt g.R) (R (7 + b))) (fs.length * 12 + 6) (some (hgt g.R + 1))) j))))) P
  refine er_aload_n d_Ma_leave_55 rfl ?_
  refine er_getf d_Ma_leave_56 f_Ma_leave_24 (jl_sn (by decide) (jl_sn (by decide) (jl_sn (by decide) (jl_ss (jl_sn (by decide) hX))))) rfl ?_
  refine er_aload_n d_Ma_leave_59 rfl ?_
  refine er_getf d_Ma_leave_60 f_Ma_leave_34 (jl_sn (by decide) (jl_sn (by decide) (jl_sn (by decide) (jl_ss (jl_sn (by decide) hX))))) rfl ?_
  refine er_dup2 d_Ma_leave_63 rfl rfl ?_
  refine er_ialdQ (v := (nI (g.p))) d_Ma_leave_64 (jl_sn (by decide) (jl_sn (by decide) (jl_sn (by decide) (jl_sn (by decide) (jl_sn (by decide) u2))))) (by omega) (by omega) (congrArg nI hx3.1.2.1) ?_
  refine er_iconst ((nI (1))) d_Ma_leave_65 (by decide) ?_
  refine er_iaddN d_Ma_leave_66 ?_
  refine er_iastN d_Ma_leave_67 (jl_sn (by decide) (jl_sn (by decide) (jl_sn (by decide) (jl_sn (by decide) (jl_sn (by decide) u2))))) (by omega) (by omega) ?_
  rw [show upd (fun j => nI (ps j)) (fs.length) ((nI ((g.p) + (1)))) = (fun j => nI ((va_up ps (fs.length) ((g.p) + (1))) j)) from nI_up ps (fs.length) ((g.p) + (1))]
  show jl_E l G m_Ma_leave (0, 0) 68 [some (.ref 13), some (.int (nI (t * 12 + 7 + b)))] [] ((((((σ.set (20) (.inl (0, 144, .inl (fun j => en ((va_up ty (t * 12 + 6) (some (b))) j))))).set (13) (.inr (1, [.ref 1, .ref 8, .ref 14, .ref 18, .ref 19, .ref 20, .ref 21, .int (nI (fs.length)), .int (su), .int (dt), .int (dq), .int (aw)]))).set (20) (.inl (0, 144, .inl (fun j => en ((va_up (va_up ty (t * 12 + 6) (some (b))) (fs.length * 12 + 7 + hgt g.R) (R (7 + b))) j))))).set (21) (.inl (0, 144, .inl (upd va (fs.length * 12 + 7 + hgt g.R) (V (7 + b)))))).set (20) (.inl (0, 144, .inl (fun j => en ((va_up (va_up (va_up ty (t * 12 + 6) (some (b))) (fs.length * 12 + 7 + hgt g.R) (R (7 + b))) (fs.length * 12 + 6) (some (hgt g.R + 1))) j))))).set (19) (.inl (0, 12, .inl (fun j => nI ((va_up ps (fs.length) ((g.p) + (1))) j))))) P
  exact er_vret d_Ma_leave_68 rfl (hT _ ⟨_, _, _, _, (jl_sn (by decide) (jl_sn (by decide) (jl_sn (by decide) (jl_sn (by decide) (jl_ss (jl_sn (by decide) hX)))))), (jl_sn (by decide) (jl_sn (by decide) (jl_sn (by decide) (jl_sn (by decide) (jl_sn (by decide) (jl_sn (by decide) u1)))))), (jl_ss (jl_sn (by decide) (jl_sn (by decide) (jl_sn (by decide) (jl_sn (by decide) (jl_sn (by decide) u2)))))), (jl_sn (by decide) (jl_ss (jl_sn (by decide) (jl_ss (jl_sn (by decide) (jl_ss t1)))))), (jl_sn (by decide) (jl_sn (by decide) (jl_ss (jl_sn (by decide) (jl_sn (by decide) (jl_sn (by decide) t2)))))), ⟨(jl_sn (by decide) (jl_sn (by decide) (jl_sn (by decide) (jl_sn (by decide) (jl_sn (by decide) (jl_sn (by decide) s0)))))), (jl_sn (by decide) (jl_sn (by decide) (jl_sn (by decide) (jl_sn (by decide) (jl_sn (by decide) (jl_sn (by decide) s1)))))), (jl_sn (by decide) (jl_sn (by decide) (jl_sn (by decide) (jl_sn (by decide) (jl_sn (by decide) (jl_sn (by decide) s2)))))), (jl_sn (by decide) (jl_sn (by decide) (jl_sn (by decide) (jl_sn (by decide) (jl_sn (by decide) (jl_sn (by decide) s3))))))⟩, ((hx3.put (by omega) (by omega) (hRo _ (by omega))).pc), hto, ((((((hF.set (by omega)).set (by omega)).set (by omega)).set (by omega)).set (by omega)).set (by omega))⟩) (by decide) (by decide)
end JMh
