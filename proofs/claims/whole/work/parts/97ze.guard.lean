/-! the model's machine: typeOf, guard (wip/gen/p97ze.py) -/
section JNze
variable {l : Launch} {G : jl_G} {σ : jl_S}
variable {tb : Nat → Bool} {pr : Nat → Option Nat} {ow fi ft : Nat → Nat} {hs : Nat → Bool} {fa vf wh wy hg dp md ov oh dn an : Int32}
variable {u1 u2 : Nat → Option Nat} {ur ul uo : Nat → Nat} {ua : Nat → Int32} {uc us ut uk : Nat → Nat}
variable {σ0 : jl_S} {N t m p h b n : Nat} {R : Rw} {V : Nat → Int32} {fs : List Fm} {H : Hp} {fa vf wh wy hg ov oh dn an x a v : Int32} {y : Option Nat}
variable {q k i : Nat} {ks lw lk vl vk : Nat → Int32} {kc : Nat → Nat} {kv : Nat → Int32} {lo sk : Nat → Option Nat} {fx fp fh : Nat → Nat} {σ1 : jl_S} {sg : Int32 → Option Sg}
theorem d_Mo_typeOf_0 : decode m_Mo_typeOf.2.1 0 = .ok (.iload_n 1, 1) := by decide +kernel
theorem d_Mo_typeOf_1 : decode m_Mo_typeOf.2.1 1 = .ok (.ifCond .gt 5, 3) := by decide +kernel
theorem d_Mo_typeOf_4 : decode m_Mo_typeOf.2.1 4 = .ok (.iload_n 1, 1) := by decide +kernel
theorem d_Mo_typeOf_5 : decode m_Mo_typeOf.2.1 5 = .ok (.ireturn, 1) := by decide +kernel
theorem mo_ty_n (hl : l.stackTraces = false)  (hO : MoO σ fa vf wh wy hg dp md ov oh dn an) (k1 : σ[50]? = some (.inl (0, 41, .inl ks)))  : jl_m l G m_Mo_typeOf [.ref 22, .int (-1), .int (v)] σ (.inl (some (.int (-1)))) (σ) := by
  refine jl_of (as := [.ref 22, .int (-1), .int (v)]) rfl (by decide) hl (jl_cc rfl (jl_cc rfl (jl_cc rfl jl_ca))) (Nat.le_of_ble_eq_true rfl) ?_
  show jl_W l G m_Mo_typeOf (0, 0) 0 [some (.ref 22), some (.int (-1)), some (.int (v))] [] (σ) (.inl (some (.int (-1)))) (σ)
  refine jr_iload_n d_Mo_typeOf_0 rfl ?_
  refine jr_if_gt 6 d_Mo_typeOf_1 (by decide) (fun z => absurd z (by decide)) (fun _ => ?_)
  refine jr_iload_n d_Mo_typeOf_4 rfl ?_
  exact jr_iretE d_Mo_typeOf_5 rfl (rfl) (rfl) (by decide) (by decide)
theorem mo_ty_0 (hl : l.stackTraces = false)  (hO : MoO σ fa vf wh wy hg dp md ov oh dn an) (k1 : σ[50]? = some (.inl (0, 41, .inl ks)))  : jl_m l G m_Mo_typeOf [.ref 22, .int (nI 0), .int (v)] σ (.inl (some (.int (nI 0)))) (σ) := by
  refine jl_of (as := [.ref 22, .int (nI 0), .int (v)]) rfl (by decide) hl (jl_cc rfl (jl_cc rfl (jl_cc rfl jl_ca))) (Nat.le_of_ble_eq_true rfl) ?_
  show jl_W l G m_Mo_typeOf (0, 0) 0 [some (.ref 22), some (.int (nI 0)), some (.int (v))] [] (σ) (.inl (some (.int (nI 0)))) (σ)
  refine jr_iload_n d_Mo_typeOf_0 rfl ?_
  refine jr_if_gt 6 d_Mo_typeOf_1 (by decide) (fun z => absurd z (by decide)) (fun _ => ?_)
  refine jr_iload_n d_Mo_typeOf_4 rfl ?_
  exact jr_iretE d_Mo_typeOf_5 rfl (rfl) (rfl) (by decide) (by decide)
theorem d_Mo_typeOf_6 : decode m_Mo_typeOf.2.1 6 = .ok (.iload_n 2, 1) := by decide +kernel
theorem d_Mo_typeOf_7 : decode m_Mo_typeOf.2.1 7 = .ok (.ifCond .ge 7, 3) := by decide +kernel
theorem d_Mo_typeOf_10 : decode m_Mo_typeOf.2.1 10 = .ok (.iconst 2, 1) := by decide +kernel
theorem d_Mo_typeOf_11 : decode m_Mo_typeOf.2.1 11 = .ok (.goto 27, 3) := by decide +kernel
theorem d_Mo_typeOf_38 : decode m_Mo_typeOf.2.1 38 = .ok (.ireturn, 1) := by decide +kernel
theorem mo_ty_2 (hl : l.stackTraces = false)  (hO : MoO σ fa vf wh wy hg dp md ov oh dn an) (k1 : σ[50]? = some (.inl (0, 41, .inl ks)))  : jl_m l G m_Mo_typeOf [.ref 22, .int (nI 1), .int (-1)] σ (.inl (some (.int (nI 2)))) (σ) := by
  refine jl_of (as := [.ref 22, .int (nI 1), .int (-1)]) rfl (by decide) hl (jl_cc rfl (jl_cc rfl (jl_cc rfl jl_ca))) (Nat.le_of_ble_eq_true rfl) ?_
  show jl_W l G m_Mo_typeOf (0, 0) 0 [some (.ref 22), some (.int (nI 1)), some (.int (-1))] [] (σ) (.inl (some (.int (nI 2)))) (σ)
  refine jr_iload_n d_Mo_typeOf_0 rfl ?_
  refine jr_if_gt 6 d_Mo_typeOf_1 (by decide) (fun _ => ?_) (fun z => absurd (by decide) z)
  refine jr_iload_n d_Mo_typeOf_6 rfl ?_
  refine jr_if_ge 14 d_Mo_typeOf_7 (by decide) (fun z => absurd z (by decide)) (fun _ => ?_)
  refine jr_iconst ((nI (2))) d_Mo_typeOf_10 (by decide) ?_
  refine jr_goto 38 d_Mo_typeOf_11 (by decide) ?_
  exact jr_iretE d_Mo_typeOf_38 rfl (rfl) (rfl) (by decide) (by decide)
theorem d_Mo_typeOf_14 : decode m_Mo_typeOf.2.1 14 = .ok (.aload_n 0, 1) := by decide +kernel
theorem f_Mo_typeOf_99 : jl_fd m_Mo_typeOf 99 7 33 = true := by decide +kernel
theorem d_Mo_typeOf_15 : decode m_Mo_typeOf.2.1 15 = .ok (.getfield 99, 3) := by decide +kernel
theorem d_Mo_typeOf_18 : decode m_Mo_typeOf.2.1 18 = .ok (.iload_n 2, 1) := by decide +kernel
theorem d_Mo_typeOf_19 : decode m_Mo_typeOf.2.1 19 = .ok (.iaload, 1) := by decide +kernel
theorem d_Mo_typeOf_20 : decode m_Mo_typeOf.2.1 20 = .ok (.bipush (-2), 2) := by decide +kernel
theorem d_Mo_typeOf_22 : decode m_Mo_typeOf.2.1 22 = .ok (.if_icmp .ne 7, 3) := by decide +kernel
theorem d_Mo_typeOf_25 : decode m_Mo_typeOf.2.1 25 = .ok (.iconst 1, 1) := by decide +kernel
theorem d_Mo_typeOf_26 : decode m_Mo_typeOf.2.1 26 = .ok (.goto 12, 3) := by decide +kernel
theorem mo_ty_1 (hl : l.stackTraces = false)  (hO : MoO σ fa vf wh wy hg dp md ov oh dn an) (k1 : σ[50]? = some (.inl (0, 41, .inl ks))) (hq : q < 41) (hks : ks q = -2) : jl_m l G m_Mo_typeOf [.ref 22, .int (nI 1), .int (nI q)] σ (.inl (some (.int (nI 1)))) (σ) := by
  refine jl_of (as := [.ref 22, .int (nI 1), .int (nI q)]) rfl (by decide) hl (jl_cc rfl (jl_cc rfl (jl_cc rfl jl_ca))) (Nat.le_of_ble_eq_true rfl) ?_
  show jl_W l G m_Mo_typeOf (0, 0) 0 [some (.ref 22), some (.int (nI 1)), some (.int (nI q))] [] (σ) (.inl (some (.int (nI 1)))) (σ)
  refine jr_iload_n d_Mo_typeOf_0 rfl ?_
  refine jr_if_gt 6 d_Mo_typeOf_1 (by decide) (fun _ => ?_) (fun z => absurd (by decide) z)
  refine jr_iload_n d_Mo_typeOf_6 rfl ?_
  refine jr_if_ge 14 d_Mo_typeOf_7 (by decide) (fun _ => ?_) (fun z => absurd (Int32.not_lt.mp (nI_pos (by omega))) z)
  refine jr_aload_n d_Mo_typeOf_14 rfl ?_
  refine jr_getf d_Mo_typeOf_15 f_Mo_typeOf_99 hO rfl ?_
  refine jr_iload_n d_Mo_typeOf_18 rfl ?_
  refine jr_ialdQ (v := (-2)) d_Mo_typeOf_19 k1 (by omega) (by omega) (hks) ?_
  refine jr_bipush ((-2)) d_Mo_typeOf_20 (by decide) ?_
  refine jr_icmp_ne 29 d_Mo_typeOf_22 (by decide) (fun z => absurd rfl z) (fun _ => ?_)
  refine jr_iconst ((nI (1))) d_Mo_typeOf_25 (by decide) ?_
  refine jr_goto 38 d_Mo_typeOf_26 (by decide) ?_
  exact jr_iretE d_Mo_typeOf_38 rfl (rfl) (rfl) (by decide) (by decide)
theorem d_Mo_typeOf_29 : decode m_Mo_typeOf.2.1 29 = .ok (.bipush 10, 2) := by decide +kernel
theorem d_Mo_typeOf_31 : decode m_Mo_typeOf.2.1 31 = .ok (.aload_n 0, 1) := by decide +kernel
theorem d_Mo_typeOf_32 : decode m_Mo_typeOf.2.1 32 = .ok (.getfield 99, 3) := by decide +kernel
theorem d_Mo_typeOf_35 : decode m_Mo_typeOf.2.1 35 = .ok (.iload_n 2, 1) := by decide +kernel
theorem d_Mo_typeOf_36 : decode m_Mo_typeOf.2.1 36 = .ok (.iaload, 1) := by decide +kernel
theorem d_Mo_typeOf_37 : decode m_Mo_typeOf.2.1 37 = .ok (.iadd, 1) := by decide +kernel
theorem mo_ty_o (hl : l.stackTraces = false)  (hO : MoO σ fa vf wh wy hg dp md ov oh dn an) (k1 : σ[50]? = some (.inl (0, 41, .inl ks))) (hq : q < 41) (hk6 : k < 6) (hks : ks q = nI k) : jl_m l G m_Mo_typeOf [.ref 22, .int (nI 1), .int (nI q)] σ (.inl (some (.int (nI (10 + k))))) (σ) := by
  refine jl_of (as := [.ref 22, .int (nI 1), .int (nI q)]) rfl (by decide) hl (jl_cc rfl (jl_cc rfl (jl_cc rfl jl_ca))) (Nat.le_of_ble_eq_true rfl) ?_
  show jl_W l G m_Mo_typeOf (0, 0) 0 [some (.ref 22), some (.int (nI 1)), some (.int (nI q))] [] (σ) (.inl (some (.int (nI (10 + k))))) (σ)
  refine jr_iload_n d_Mo_typeOf_0 rfl ?_
  refine jr_if_gt 6 d_Mo_typeOf_1 (by decide) (fun _ => ?_) (fun z => absurd (by decide) z)
  refine jr_iload_n d_Mo_typeOf_6 rfl ?_
  refine jr_if_ge 14 d_Mo_typeOf_7 (by decide) (fun _ => ?_) (fun z => absurd (Int32.not_lt.mp (nI_pos (by omega))) z)
  refine jr_aload_n d_Mo_typeOf_14 rfl ?_
  refine jr_getf d_Mo_typeOf_15 f_Mo_typeOf_99 hO rfl ?_
  refine jr_iload_n d_Mo_typeOf_18 rfl ?_
  refine jr_ialdQ (v := (nI (k))) d_Mo_typeOf_19 k1 (by omega) (by omega) (hks) ?_
  refine jr_bipush ((-2)) d_Mo_typeOf_20 (by decide) ?_
  refine jr_icmp_ne 29 d_Mo_typeOf_22 (by decide) (fun _ => ?_) (fun z => absurd z (nI_m2 (by omega)))
  refine jr_bipush ((nI (10))) d_Mo_typeOf_29 (by decide) ?_
  refine jr_aload_n d_Mo_typeOf_31 rfl ?_
  refine jr_getf d_Mo_typeOf_32 f_Mo_typeOf_99 hO rfl ?_
  refine jr_iload_n d_Mo_typeOf_35 rfl ?_
  refine jr_ialdQ (v := (nI (k))) d_Mo_typeOf_36 k1 (by omega) (by omega) (hks) ?_
  refine jr_iaddN d_Mo_typeOf_37 ?_
  exact jr_iretE d_Mo_typeOf_38 rfl (rfl) (rfl) (by decide) (by decide)
theorem mo_typeOf (hl : l.stackTraces = false) (hO : MoO σ fa vf wh wy hg dp md ov oh dn an) (k1 : σ[50]? = some (.inl (0, 41, .inl ks))) (hB : HpB H ks kc kv) (hn40 : H.n ≤ 40) (hg : gdv H y v) : jl_m l G m_Mo_typeOf [.ref 22, .int (kdI y), .int v] σ (.inl (some (.int (en y)))) σ := by
  cases y with
  | none => exact mo_ty_n hl hO k1
  | some a =>
    rcases hg a rfl with e | ⟨e, q, hq, ev, hs⟩ | ⟨e, ev⟩ | ⟨k, q, e, hk, hq, ev, hs⟩
    · subst e; exact mo_ty_0 hl hO k1
    · subst e ev
      have z := (hB q hq).1
      rw [hs] at z
      exact mo_ty_1 hl hO k1 (by omega) z
    · subst e ev; exact mo_ty_2 hl hO k1
    · subst e ev
      have z := (hB q hq).1
      rw [hs] at z
      have z2 := mo_ty_o (G := G) hl hO k1 (by omega) hk z
      rw [← kd_o (show 10 + k ≠ 0 by omega)]
      exact z2
theorem row_s {R : Rw} (h : ∀ k, k < i → lo k = R (n + k)) : ∀ k, k < i + 1 → va_up lo i (R (n + i)) k = R (n + k) := by
  intro k hk
  by_cases e : k = i
  · rw [e, va_up_self]
  · rw [va_up_ne _ _ e]; exact h k (by omega)
theorem d_Mo_guard_9 : decode m_Mo_guard.2.1 9 = .ok (.iload_n 2, 1) := by decide +kernel
theorem d_Mo_guard_10 : decode m_Mo_guard.2.1 10 = .ok (.bipush 6, 2) := by decide +kernel
theorem d_Mo_guard_12 : decode m_Mo_guard.2.1 12 = .ok (.if_icmp .ge 41, 3) := by decide +kernel
theorem d_Mo_guard_15 : decode m_Mo_guard.2.1 15 = .ok (.aload_n 0, 1) := by decide +kernel
theorem f_Mo_guard_69 : jl_fd m_Mo_guard 69 7 21 = true := by decide +kernel
theorem d_Mo_guard_16 : decode m_Mo_guard.2.1 16 = .ok (.getfield 69, 3) := by decide +kernel
theorem d_Mo_guard_19 : decode m_Mo_guard.2.1 19 = .ok (.iload_n 2, 1) := by decide +kernel
theorem d_Mo_guard_20 : decode m_Mo_guard.2.1 20 = .ok (.aload_n 0, 1) := by decide +kernel
theorem d_Mo_guard_21 : decode m_Mo_guard.2.1 21 = .ok (.aload_n 0, 1) := by decide +kernel
theorem f_Mo_guard_90 : jl_fd m_Mo_guard 90 7 29 = true := by decide +kernel
theorem d_Mo_guard_22 : decode m_Mo_guard.2.1 22 = .ok (.getfield 90, 3) := by decide +kernel
theorem d_Mo_guard_25 : decode m_Mo_guard.2.1 25 = .ok (.bipush 6, 2) := by decide +kernel
theorem d_Mo_guard_27 : decode m_Mo_guard.2.1 27 = .ok (.iload_n 1, 1) := by decide +kernel
theorem d_Mo_guard_28 : decode m_Mo_guard.2.1 28 = .ok (.imul, 1) := by decide +kernel
theorem d_Mo_guard_29 : decode m_Mo_guard.2.1 29 = .ok (.iload_n 2, 1) := by decide +kernel
theorem d_Mo_guard_30 : decode m_Mo_guard.2.1 30 = .ok (.iadd, 1) := by decide +kernel
theorem d_Mo_guard_31 : decode m_Mo_guard.2.1 31 = .ok (.iaload, 1) := by decide +kernel
theorem d_Mo_guard_32 : decode m_Mo_guard.2.1 32 = .ok (.aload_n 0, 1) := by decide +kernel
theorem f_Mo_guard_87 : jl_fd m_Mo_guard 87 7 28 = true := by decide +kernel
theorem d_Mo_guard_33 : decode m_Mo_guard.2.1 33 = .ok (.getfield 87, 3) := by decide +kernel
theorem d_Mo_guard_36 : decode m_Mo_guard.2.1 36 = .ok (.bipush 6, 2) := by decide +kernel
theorem d_Mo_guard_38 : decode m_Mo_guard.2.1 38 = .ok (.iload_n 1, 1) := by decide +kernel
theorem d_Mo_guard_39 : decode m_Mo_guard.2.1 39 = .ok (.imul, 1) := by decide +kernel
theorem d_Mo_guard_40 : decode m_Mo_guard.2.1 40 = .ok (.iload_n 2, 1) := by decide +kernel
theorem d_Mo_guard_41 : decode m_Mo_guard.2.1 41 = .ok (.iadd, 1) := by decide +kernel
theorem d_Mo_guard_42 : decode m_Mo_guard.2.1 42 = .ok (.iaload, 1) := by decide +kernel
theorem k_Mo_guard_233 : jl_cv m_Mo_guard m_Mo_typeOf 233 2 = true := by decide +kernel
theorem d_Mo_guard_43 : decode m_Mo_guard.2.1 43 = .ok (.invokevirtual 233, 3) := by decide +kernel
theorem d_Mo_guard_46 : decode m_Mo_guard.2.1 46 = .ok (.iastore, 1) := by decide +kernel
theorem d_Mo_guard_47 : decode m_Mo_guard.2.1 47 = .ok (.iinc 2 1, 3) := by decide +kernel
theorem d_Mo_guard_50 : decode m_Mo_guard.2.1 50 = .ok (.goto (-41), 3) := by decide +kernel
theorem mo_gd_1 (hl : l.stackTraces = false) {P : jl_O → jl_S → Prop}   (ht : t < 12) (hB : HpB H ks kc kv) (hn40 : H.n ≤ 40) (hkl : ∀ i, i < 6 → lk (6 * t + i) = kdI (R (0 + i))) (hgl : ∀ i, i < 6 → gdv H (R (0 + i)) (lw (6 * t + i))) (hN : ∀ (lo' : Nat → Option Nat) (σ' : jl_S), σ'[40]? = some (.inl (0, 6, .inl fun j => en (lo' j))) → (∀ j, ob 16 (lo' j)) → (∀ k, k < 6 → lo' k = R (0 + k)) → σ'.length = σ1.length → (∀ j, j ≠ 40 → σ'[j]? = σ1[j]?) → jl_E l G m_Mo_guard (0, 0) 53 [some (.ref 22), some (.int (nI t)), none] [] σ' P) : ∀ (nn : Nat) (i : Nat) (σ : jl_S) (lo : Nat → Option Nat), 6 - i < nn → i ≤ 6 → MoO σ fa vf wh wy hg dp md ov oh dn an → σ[40]? = some (.inl (0, 6, .inl fun j => en (lo j))) → σ[46]? = some (.inl (0, 78, .inl lw)) → σ[47]? = some (.inl (0, 78, .inl lk)) → σ[50]? = some (.inl (0, 41, .inl ks)) → σ.length = σ1.length → (∀ j, j ≠ 40 → σ[j]? = σ1[j]?) → (∀ j, ob 16 (lo j)) → (∀ k, k < i → lo k = R (0 + k)) → jl_E l G m_Mo_guard (0, 0) 9 [some (.ref 22), some (.int (nI t)), some (.int (nI i))] [] σ P := by
  intro nn
  induction nn with
  | zero => intro i σ lo hnn; exact absurd hnn (Nat.not_lt_zero _)
  | succ nn ihn =>
    intro i σ lo hnn hi hO r1 f4 f5 k1 hL hf hob hle
    refine er_iload_n d_Mo_guard_9 rfl ?_
    refine er_bipush ((nI (6))) d_Mo_guard_10 (by decide) ?_
    refine er_icmp_geN 53 d_Mo_guard_12 (by decide) (by omega) (by omega) (fun c1 => ?_) (fun c1 => ?_)
    · exact er_weak (ls' := [some (.ref 22), some (.int (nI t)), none]) (fun q v hv => by match q, hv with | 0, hv => exact hv | 1, hv => exact hv | 2, hv => cases hv | q + 3, hv => cases hv) (hN lo σ r1 hob (by have z := hle; rw [show i = 6 by omega] at z; exact z) hL hf)
    · refine er_aload_n d_Mo_guard_15 rfl ?_
      refine er_getf d_Mo_guard_16 f_Mo_guard_69 hO rfl ?_
      refine er_iload_n d_Mo_guard_19 rfl ?_
      refine er_aload_n d_Mo_guard_20 rfl ?_
      refine er_aload_n d_Mo_guard_21 rfl ?_
      refine er_getf d_Mo_guard_22 f_Mo_guard_90 hO rfl ?_
      refine er_bipush ((nI (6))) d_Mo_guard_25 (by decide) ?_
      refine er_iload_n d_Mo_guard_27 rfl ?_
      refine er_imulN d_Mo_guard_28 ?_
      refine er_iload_n d_Mo_guard_29 rfl ?_
      refine er_iaddN d_Mo_guard_30 ?_
      refine er_ialdQ (v := (kdI (R (0 + i)))) d_Mo_guard_31 f5 (by omega) (by omega) (hkl i (by omega)) ?_
      refine er_aload_n d_Mo_guard_32 rfl ?_
      refine er_getf d_Mo_guard_33 f_Mo_guard_87 hO rfl ?_
      refine er_bipush ((nI (6))) d_Mo_guard_36 (by decide) ?_
      refine er_iload_n d_Mo_guard_38 rfl ?_
      refine er_imulN d_Mo_guard_39 ?_
      refine er_iload_n d_Mo_guard_40 rfl ?_
      refine er_iaddN d_Mo_guard_41 ?_
      refine er_ialdN d_Mo_guard_42 f4 (by omega) (by omega) ?_
      refine er_callV (As := [.int (kdI (R (0 + i))), .int (lw (((6) * (t)) + (i)))]) d_Mo_guard_43 k_Mo_guard_233 hO rfl rfl rfl (Nat.le_of_ble_eq_true rfl) (by decide) (by decide) (mo_typeOf (y := R (0 + i)) (v := lw (6 * t + i)) hl hO k1 hB hn40 (hgl i (by omega))) ?_
      show jl_E l G m_Mo_guard (0, 0) 46 [some (.ref 22), some (.int (nI t)), some (.int (nI i))] [.int (en (R (0 + i))), .int (nI i), .ref 40] (σ) P
      refine er_iastN d_Mo_guard_46 r1 (by omega) (by omega) ?_
      rw [show upd (fun j => en (lo j)) (i) ((en (R (0 + i)))) = (fun j => en ((va_up lo (i) ((R (0 + i)))) j)) from en_up lo (i) ((R (0 + i)))]
      show jl_E l G m_Mo_guard (0, 0) 47 [some (.ref 22), some (.int (nI t)), some (.int (nI i))] [] (σ.set (40) (.inl (0, 6, .inl (fun j => en ((va_up lo (i) ((R (0 + i)))) j))))) P
      refine er_iinc ((nI (i + 1))) d_Mo_guard_47 (by decide) rfl (jl_inc _) ?_
      show jl_E l G m_Mo_guard (0, 0) 50 [some (.ref 22), some (.int (nI t)), some (.int (nI (i + 1)))] [] (σ.set (40) (.inl (0, 6, .inl (fun j => en ((va_up lo (i) ((R (0 + i)))) j))))) P
      refine er_goto 9 d_Mo_guard_50 (by decide) ?_
      exact ihn (i + 1) _ _ (by omega) (by omega) (jl_sn (by decide) hO) (jl_ss r1) (jl_sn (by decide) f4) (jl_sn (by decide) f5) (jl_sn (by decide) k1) (by rw [List.length_set]; exact hL) (fun j h1 => by rw [List.getElem?_set_ne (by omega)]; exact hf j h1) (obU_up hob (hgl i (by omega)).tyv.ob) (row_s hle)
theorem d_Mo_guard_65 : decode m_Mo_guard.2.1 65 = .ok (.iload_n 2, 1) := by decide +kernel
theorem d_Mo_guard_66 : decode m_Mo_guard.2.1 66 = .ok (.aload_n 0, 1) := by decide +kernel
theorem f_Mo_guard_179 : jl_fd m_Mo_guard 179 7 23 = true := by decide +kernel
theorem d_Mo_guard_67 : decode m_Mo_guard.2.1 67 = .ok (.getfield 179, 3) := by decide +kernel
theorem d_Mo_guard_70 : decode m_Mo_guard.2.1 70 = .ok (.if_icmp .ge 39, 3) := by decide +kernel
theorem d_Mo_guard_73 : decode m_Mo_guard.2.1 73 = .ok (.aload_n 0, 1) := by decide +kernel
theorem f_Mo_guard_72 : jl_fd m_Mo_guard 72 7 22 = true := by decide +kernel
theorem d_Mo_guard_74 : decode m_Mo_guard.2.1 74 = .ok (.getfield 72, 3) := by decide +kernel
theorem d_Mo_guard_77 : decode m_Mo_guard.2.1 77 = .ok (.iload_n 2, 1) := by decide +kernel
theorem d_Mo_guard_78 : decode m_Mo_guard.2.1 78 = .ok (.aload_n 0, 1) := by decide +kernel
theorem d_Mo_guard_79 : decode m_Mo_guard.2.1 79 = .ok (.aload_n 0, 1) := by decide +kernel
theorem f_Mo_guard_96 : jl_fd m_Mo_guard 96 7 31 = true := by decide +kernel
theorem d_Mo_guard_80 : decode m_Mo_guard.2.1 80 = .ok (.getfield 96, 3) := by decide +kernel
theorem d_Mo_guard_83 : decode m_Mo_guard.2.1 83 = .ok (.iconst 5, 1) := by decide +kernel
theorem d_Mo_guard_84 : decode m_Mo_guard.2.1 84 = .ok (.iload_n 1, 1) := by decide +kernel
theorem d_Mo_guard_85 : decode m_Mo_guard.2.1 85 = .ok (.imul, 1) := by decide +kernel
theorem d_Mo_guard_86 : decode m_Mo_guard.2.1 86 = .ok (.iload_n 2, 1) := by decide +kernel
theorem d_Mo_guard_87 : decode m_Mo_guard.2.1 87 = .ok (.iadd, 1) := by decide +kernel
theorem d_Mo_guard_88 : decode m_Mo_guard.2.1 88 = .ok (.iaload, 1) := by decide +kernel
theorem d_Mo_guard_89 : decode m_Mo_guard.2.1 89 = .ok (.aload_n 0, 1) := by decide +kernel
theorem f_Mo_guard_93 : jl_fd m_Mo_guard 93 7 30 = true := by decide +kernel
theorem d_Mo_guard_90 : decode m_Mo_guard.2.1 90 = .ok (.getfield 93, 3) := by decide +kernel
theorem d_Mo_guard_93 : decode m_Mo_guard.2.1 93 = .ok (.iconst 5, 1) := by decide +kernel
theorem d_Mo_guard_94 : decode m_Mo_guard.2.1 94 = .ok (.iload_n 1, 1) := by decide +kernel
theorem d_Mo_guard_95 : decode m_Mo_guard.2.1 95 = .ok (.imul, 1) := by decide +kernel
theorem d_Mo_guard_96 : decode m_Mo_guard.2.1 96 = .ok (.iload_n 2, 1) := by decide +kernel
theorem d_Mo_guard_97 : decode m_Mo_guard.2.1 97 = .ok (.iadd, 1) := by decide +kernel
theorem d_Mo_guard_98 : decode m_Mo_guard.2.1 98 = .ok (.iaload, 1) := by decide +kernel
theorem d_Mo_guard_99 : decode m_Mo_guard.2.1 99 = .ok (.invokevirtual 233, 3) := by decide +kernel
theorem d_Mo_guard_102 : decode m_Mo_guard.2.1 102 = .ok (.iastore, 1) := by decide +kernel
theorem d_Mo_guard_103 : decode m_Mo_guard.2.1 103 = .ok (.iinc 2 1, 3) := by decide +kernel
theorem d_Mo_guard_106 : decode m_Mo_guard.2.1 106 = .ok (.goto (-41), 3) := by decide +kernel
theorem mo_gd_2 (hl : l.stackTraces = false) {P : jl_O → jl_S → Prop}   (ht : t < 12) (hh5 : h ≤ 5) (hB : HpB H ks kc kv) (hn40 : H.n ≤ 40) (hkl : ∀ i, i < h → vk (5 * t + i) = kdI (R (7 + i))) (hgl : ∀ i, i < h → gdv H (R (7 + i)) (vl (5 * t + i))) (hN : ∀ (sk' : Nat → Option Nat) (σ' : jl_S), σ'[41]? = some (.inl (0, 8, .inl fun j => en (sk' j))) → (∀ j, ob 16 (sk' j)) → (∀ k, k < h → sk' k = R (7 + k)) → σ'.length = σ1.length → (∀ j, j ≠ 41 → σ'[j]? = σ1[j]?) → jl_E l G m_Mo_guard (0, 0) 109 [some (.ref 22), some (.int (nI t)), none] [] σ' P) : ∀ (nn : Nat) (i : Nat) (σ : jl_S) (sk : Nat → Option Nat), h - i < nn → i ≤ h → MoO σ fa vf wh wy (nI h) dp md ov oh dn an → σ[41]? = some (.inl (0, 8, .inl fun j => en (sk j))) → σ[48]? = some (.inl (0, 65, .inl vl)) → σ[49]? = some (.inl (0, 65, .inl vk)) → σ[50]? = some (.inl (0, 41, .inl ks)) → σ.length = σ1.length → (∀ j, j ≠ 41 → σ[j]? = σ1[j]?) → (∀ j, ob 16 (sk j)) → (∀ k, k < i → sk k = R (7 + k)) → jl_E l G m_Mo_guard (0, 0) 65 [some (.ref 22), some (.int (nI t)), some (.int (nI i))] [] σ P := by
  intro nn
  induction nn with
  | zero => intro i σ sk hnn; exact absurd hnn (Nat.not_lt_zero _)
  | succ nn ihn =>
    intro i σ sk hnn hi hO r2 f6 f7 k1 hL hf hob hle
    refine er_iload_n d_Mo_guard_65 rfl ?_
    refine er_aload_n d_Mo_guard_66 rfl ?_
    refine er_getf d_Mo_guard_67 f_Mo_guard_179 hO rfl ?_
    refine er_icmp_geN 109 d_Mo_guard_70 (by decide) (by omega) (by omega) (fun c1 => ?_) (fun c1 => ?_)
    · exact er_weak (ls' := [some (.ref 22), some (.int (nI t)), none]) (fun q v hv => by match q, hv with | 0, hv => exact hv | 1, hv => exact hv | 2, hv => cases hv | q + 3, hv => cases hv) (hN sk σ r2 hob (by have z := hle; rw [show i = h by omega] at z; exact z) hL hf)
    · refine er_aload_n d_Mo_guard_73 rfl ?_
      refine er_getf d_Mo_guard_74 f_Mo_guard_72 hO rfl ?_
      refine er_iload_n d_Mo_guard_77 rfl ?_
      refine er_aload_n d_Mo_guard_78 rfl ?_
      refine er_aload_n d_Mo_guard_79 rfl ?_
      refine er_getf d_Mo_guard_80 f_Mo_guard_96 hO rfl ?_
      refine er_iconst ((nI (5))) d_Mo_guard_83 (by decide) ?_
      refine er_iload_n d_Mo_guard_84 rfl ?_
      refine er_imulN d_Mo_guard_85 ?_
      refine er_iload_n d_Mo_guard_86 rfl ?_
      refine er_iaddN d_Mo_guard_87 ?_
      refine er_ialdQ (v := (kdI (R (7 + i)))) d_Mo_guard_88 f7 (by omega) (by omega) (hkl i (by omega)) ?_
      refine er_aload_n d_Mo_guard_89 rfl ?_
      refine er_getf d_Mo_guard_90 f_Mo_guard_93 hO rfl ?_
      refine er_iconst ((nI (5))) d_Mo_guard_93 (by decide) ?_
      refine er_iload_n d_Mo_guard_94 rfl ?_
      refine er_imulN d_Mo_guard_95 ?_
      refine er_iload_n d_Mo_guard_96 rfl ?_
      refine er_iaddN d_Mo_guard_97 ?_
      refine er_ialdN d_Mo_guard_98 f6 (by omega) (by omega) ?_
      refine er_callV (As := [.int (kdI (R (7 + i))), .int (vl (((5) * (t)) + (i)))]) d_Mo_guard_99 k_Mo_guard_233 hO rfl rfl rfl (Nat.le_of_ble_eq_true rfl) (by decide) (by decide) (mo_typeOf (y := R (7 + i)) (v := vl (5 * t + i)) hl hO k1 hB hn40 (hgl i (by omega))) ?_
      show jl_E l G m_Mo_guard (0, 0) 102 [some (.ref 22), some (.int (nI t)), some (.int (nI i))] [.int (en (R (7 + i))), .int (nI i), .ref 41] (σ) P
      refine er_iastN d_Mo_guard_102 r2 (by omega) (by omega) ?_
      rw [show upd (fun j => en (sk j)) (i) ((en (R (7 + i)))) = (fun j => en ((va_up sk (i) ((R (7 + i)))) j)) from en_up sk (i) ((R (7 + i)))]
      show jl_E l G m_Mo_guard (0, 0) 103 [some (.ref 22), some (.int (nI t)), some (.int (nI i))] [] (σ.set (41) (.inl (0, 8, .inl (fun j => en ((va_up sk (i) ((R (7 + i)))) j))))) P
      refine er_iinc ((nI (i + 1))) d_Mo_guard_103 (by decide) rfl (jl_inc _) ?_
      show jl_E l G m_Mo_guard (0, 0) 106 [some (.ref 22), some (.int (nI t)), some (.int (nI (i + 1)))] [] (σ.set (41) (.inl (0, 8, .inl (fun j => en ((va_up sk (i) ((R (7 + i)))) j))))) P
      refine er_goto 65 d_Mo_guard_106 (by decide) ?_
      exact ihn (i + 1) _ _ (by omega) (by omega) (jl_sn (by decide) hO) (jl_ss r2) (jl_sn (by decide) f6) (jl_sn (by decide) f7) (jl_sn (by decide) k1) (by rw [List.length_set]; exact hL) (fun j h1 => by rw [List.getElem?_set_ne (by omega)]; exact hf j h1) (obU_up hob (hgl i (by omega)).tyv.ob) (row_s hle)
theorem mo_faultAtE {q : Nat} (hl : l.stackTraces = false) {m pc o h : Nat} {x : Int32} (hO : MoO σ fa vf wh wy (nI (h)) dp md ov oh dn an) (hw : MoW σ tb pr ow ft hs) (hu : MoM σ u1 u2 ur ul uo ua uc us ut uk) (hr : MoR σ lo sk) (hok : WoOk tb pr ow fi) (hsg : SgM tb pr hs u1 u2 ur sg) (hK : MoK u1 u2 ur ul uo uc us ut uk) (hm : m < 24) (hpc : pc < 24) (ho : uo (24 * m + pc) = o) (hx : ua (24 * m + pc) = x) (hh5 : h ≤ 5) (hlo : ∀ j, ob 16 (lo j)) (hsk : ∀ j, j < h → ∃ t, sk j = some t ∧ t < 16 ∧ (t ≤ 2 ∨ 10 ≤ t)) (hft : ∀ k f, fty pr fi ft k f < 16) (hsk' : ∀ j, ob 16 (sk j)) (hq : flt tb pr ow fi ft sg o x (ul m) (fun i => us (2 * m + i) / 32) (fun i => us (2 * m + i) % 32) (fun i => ut (2 * m + i)) (fun i => uk (2 * m + i)) (uc m) (ur m) pc (rwM lo sk) h = q) : jl_m l G m_Mo_faultAt [.ref 22, .int (nI m), .int (nI pc)] σ (.inl (some (.int (nI q)))) σ := by
  have z := mo_faultAt (G := G) hl hO hw hu hr hok hsg hK hm hpc ho hx hh5 hlo hsk hft hsk'
  rw [hq] at z
  exact z
theorem d_Mo_guard_109 : decode m_Mo_guard.2.1 109 = .ok (.aload_n 0, 1) := by decide +kernel
theorem d_Mo_guard_110 : decode m_Mo_guard.2.1 110 = .ok (.aload_n 0, 1) := by decide +kernel
theorem f_Mo_guard_78 : jl_fd m_Mo_guard 78 7 25 = true := by decide +kernel
theorem d_Mo_guard_111 : decode m_Mo_guard.2.1 111 = .ok (.getfield 78, 3) := by decide +kernel
theorem d_Mo_guard_114 : decode m_Mo_guard.2.1 114 = .ok (.iload_n 1, 1) := by decide +kernel
theorem d_Mo_guard_115 : decode m_Mo_guard.2.1 115 = .ok (.iaload, 1) := by decide +kernel
theorem d_Mo_guard_116 : decode m_Mo_guard.2.1 116 = .ok (.aload_n 0, 1) := by decide +kernel
theorem f_Mo_guard_81 : jl_fd m_Mo_guard 81 7 26 = true := by decide +kernel
theorem d_Mo_guard_117 : decode m_Mo_guard.2.1 117 = .ok (.getfield 81, 3) := by decide +kernel
theorem d_Mo_guard_120 : decode m_Mo_guard.2.1 120 = .ok (.iload_n 1, 1) := by decide +kernel
theorem d_Mo_guard_121 : decode m_Mo_guard.2.1 121 = .ok (.iaload, 1) := by decide +kernel
theorem k_Mo_guard_200 : jl_cv m_Mo_guard m_Mo_faultAt 200 2 = true := by decide +kernel
theorem d_Mo_guard_122 : decode m_Mo_guard.2.1 122 = .ok (.invokevirtual 200, 3) := by decide +kernel
theorem d_Mo_guard_125 : decode m_Mo_guard.2.1 125 = .ok (.ireturn, 1) := by decide +kernel
theorem mo_gd_c (hl : l.stackTraces = false) {P : jl_O → jl_S → Prop}  (hO : MoO σ fa vf wh wy (nI h) dp md ov oh dn an) (f1 : σ[43]? = some (.inl (0, 13, .inl fun j => nI (fx j)))) (f2 : σ[44]? = some (.inl (0, 13, .inl fun j => nI (fp j)))) (hok : WoOk tb pr ow fi) (hsg : SgM tb pr hs u1 u2 ur sg) (hK : MoK u1 u2 ur ul uo uc us ut uk) (hm24 : m < 24) (hp24 : p < 24) (hft : ∀ k f, fty pr fi ft k f < 16) (ht : t < 12) (hh5 : h ≤ 5) (hw : MoW σ tb pr ow ft hs) (hu : MoM σ u1 u2 ur ul uo ua uc us ut uk) (hfx : fx t = m) (hfp : fp t = p) (hr : MoR σ lo sk) (hlo : ∀ j, ob 16 (lo j)) (hsk' : ∀ j, ob 16 (sk j)) (hsk : ∀ j, j < h → ∃ t, sk j = some t ∧ t < 16 ∧ (t ≤ 2 ∨ 10 ≤ t)) (hq : flt tb pr ow fi ft sg (uo (24 * m + p)) (ua (24 * m + p)) (ul m) (fun i => us (2 * m + i) / 32) (fun i => us (2 * m + i) % 32) (fun i => ut (2 * m + i)) (fun i => uk (2 * m + i)) (uc m) (ur m) p (rwM lo sk) h = q) (hP : P (.inl (some (.int (nI q)))) σ) : jl_E l G m_Mo_guard (0, 0) 109 [some (.ref 22), some (.int (nI t)), none] [] σ P := by
  refine er_aload_n d_Mo_guard_109 rfl ?_
  refine er_aload_n d_Mo_guard_110 rfl ?_
  refine er_getf d_Mo_guard_111 f_Mo_guard_78 hO rfl ?_
  refine er_iload_n d_Mo_guard_114 rfl ?_
  refine er_ialdQ (v := (nI (m))) d_Mo_guard_115 f1 (by omega) (by omega) (congrArg nI hfx) ?_
  refine er_aload_n d_Mo_guard_116 rfl ?_
  refine er_getf d_Mo_guard_117 f_Mo_guard_81 hO rfl ?_
  refine er_iload_n d_Mo_guard_120 rfl ?_
  refine er_ialdQ (v := (nI (p))) d_Mo_guard_121 f2 (by omega) (by omega) (congrArg nI hfp) ?_
  refine er_callV (As := [.int (nI m), .int (nI p)]) d_Mo_guard_122 k_Mo_guard_200 hO rfl rfl rfl (Nat.le_of_ble_eq_true rfl) (by decide) (by decide) (mo_faultAtE hl hO hw hu hr hok hsg hK hm24 hp24 rfl rfl hh5 hlo hsk hft hsk' hq) ?_
  show jl_E l G m_Mo_guard (0, 0) 125 [some (.ref 22), some (.int (nI t)), none] [.int (nI q)] (σ) P
  exact er_iret d_Mo_guard_125 rfl (hP) (by decide) (by decide)
theorem NB.gd1 {lo' : Nat → Option Nat} {σ' : jl_S} (hn : NB σ0 σ (h) t m (p) (h) (R) (V) (fs) (H) fa vf wh wy hg ov oh dn an) (hob : ∀ j, ob 16 (lo' j)) (e40 : σ'[40]? = some (.inl (0, 6, .inl fun j => en (lo' j)))) (hL : σ'.length = σ.length) (hf : ∀ j, j ≠ 40 → σ'[j]? = σ[j]?) : NB σ0 σ' (h) t m (p) (h) (R) (V) (fs) (H) fa vf wh wy hg ov oh dn an := by
  obtain ⟨fx, fp, fh, lw, lk, vl, vk, ks, kc, kv, lo, sk, hO, f1, f2, f3, f4, f5, f6, f7, ⟨k1, k2, k3⟩, hB, hy1, ⟨⟨r1, r2⟩, hlo, hsk⟩, hF⟩ := hn
  have g : ∀ {j : Nat} {c : jl_C}, j ≠ 40 → σ[j]? = some c → σ'[j]? = some c := fun h e => (hf _ h).trans e
  exact ⟨fx, fp, fh, lw, lk, vl, vk, ks, kc, kv, lo', sk, g (by decide) hO, g (by decide) f1, g (by decide) f2, g (by decide) f3, g (by decide) f4, g (by decide) f5, g (by decide) f6, g (by decide) f7, ⟨g (by decide) k1, g (by decide) k2, g (by decide) k3⟩, hB, hy1, ⟨⟨e40, g (by decide) r2⟩, hob, hsk⟩, hL.trans hF.1, fun i h1 h2 => (hf i (by omega)).trans (hF.2 i h1 h2)⟩
theorem NB.gd2 {sk' : Nat → Option Nat} {σ' : jl_S} (hn : NB σ0 σ (h) t m (p) (h) (R) (V) (fs) (H) fa vf wh wy hg ov oh dn an) (hob : ∀ j, ob 16 (sk' j)) (e41 : σ'[41]? = some (.inl (0, 8, .inl fun j => en (sk' j)))) (hL : σ'.length = σ.length) (hf : ∀ j, j ≠ 41 → σ'[j]? = σ[j]?) : NB σ0 σ' (h) t m (p) (h) (R) (V) (fs) (H) fa vf wh wy hg ov oh dn an := by
  obtain ⟨fx, fp, fh, lw, lk, vl, vk, ks, kc, kv, lo, sk, hO, f1, f2, f3, f4, f5, f6, f7, ⟨k1, k2, k3⟩, hB, hy1, ⟨⟨r1, r2⟩, hlo, hsk⟩, hF⟩ := hn
  have g : ∀ {j : Nat} {c : jl_C}, j ≠ 41 → σ[j]? = some c → σ'[j]? = some c := fun h e => (hf _ h).trans e
  exact ⟨fx, fp, fh, lw, lk, vl, vk, ks, kc, kv, lo, sk', g (by decide) hO, g (by decide) f1, g (by decide) f2, g (by decide) f3, g (by decide) f4, g (by decide) f5, g (by decide) f6, g (by decide) f7, ⟨g (by decide) k1, g (by decide) k2, g (by decide) k3⟩, hB, hy1, ⟨⟨g (by decide) r1, e41⟩, hlo, hob⟩, hL.trans hF.1, fun i h1 h2 => (hf i (by omega)).trans (hF.2 i h1 h2)⟩
theorem d_Mo_guard_53 : decode m_Mo_guard.2.1 53 = .ok (.aload_n 0, 1) := by decide +kernel
theorem d_Mo_guard_54 : decode m_Mo_guard.2.1 54 = .ok (.aload_n 0, 1) := by decide +kernel
theorem f_Mo_guard_84 : jl_fd m_Mo_guard 84 7 27 = true := by decide +kernel
theorem d_Mo_guard_55 : decode m_Mo_guard.2.1 55 = .ok (.getfield 84, 3) := by decide +kernel
theorem d_Mo_guard_58 : decode m_Mo_guard.2.1 58 = .ok (.iload_n 1, 1) := by decide +kernel
theorem d_Mo_guard_59 : decode m_Mo_guard.2.1 59 = .ok (.iaload, 1) := by decide +kernel
theorem p_Mo_guard_179 : jl_fp m_Mo_guard 179 7 23 = true := by decide +kernel
theorem d_Mo_guard_60 : decode m_Mo_guard.2.1 60 = .ok (.putfield 179, 3) := by decide +kernel
theorem d_Mo_guard_63 : decode m_Mo_guard.2.1 63 = .ok (.iconst 0, 1) := by decide +kernel
theorem d_Mo_guard_64 : decode m_Mo_guard.2.1 64 = .ok (.istore_n 2, 1) := by decide +kernel
theorem mo_gd_b (hl : l.stackTraces = false) {P : jl_O → jl_S → Prop} {lo1 : Nat → Option Nat} (hn : NB σ0 σ (h) t m (p) (h) (R) (V) (fs) (H) fa vf wh wy hg ov oh dn an) (hw0 : MoW σ0 tb pr ow ft hs) (hu0 : MoM σ0 u1 u2 ur ul uo ua uc us ut uk) (hok : WoOk tb pr ow fi) (hsg : SgM tb pr hs u1 u2 ur sg) (hK : MoK u1 u2 ur ul uo uc us ut uk) (hm24 : m < 24) (hp24 : p < 24) (hft : ∀ k f, fty pr fi ft k f < 16) (ht : t < 12) (hh5 : h ≤ 5) (hlv : lv H R V h) (hn40 : H.n ≤ 40) (hpq : ∀ g, sg (ua (24 * m + p)) = some g → g.1 = none → g.2.1 = none) (hq : flt tb pr ow fi ft sg (uo (24 * m + p)) (ua (24 * m + p)) (ul m) (fun i => us (2 * m + i) / 32) (fun i => us (2 * m + i) % 32) (fun i => ut (2 * m + i)) (fun i => uk (2 * m + i)) (uc m) (ur m) p R h = q) (hle1 : ∀ k, k < 6 → lo1 k = R (0 + k)) (e40 : σ[40]? = some (.inl (0, 6, .inl fun j => en (lo1 j)))) (hob1 : ∀ j, ob 16 (lo1 j)) (hT : ∀ σ', NB σ0 σ' (h) t m (p) (h) (R) (V) (fs) (H) fa vf wh wy (nI h) ov oh dn an → P (.inl (some (.int (nI q)))) σ') : jl_E l G m_Mo_guard (0, 0) 53 [some (.ref 22), some (.int (nI t)), none] [] σ P := by
  obtain ⟨fx, fp, fh, lw, lk, vl, vk, ks, kc, kv, lo, sk, hO, f1, f2, f3, f4, f5, f6, f7, hH, hB, hy1, hR1, hF⟩ := id hn
  obtain ⟨k1, k2, k3⟩ := id hH
  obtain ⟨⟨r1, r2⟩, hlo, hsk⟩ := id hR1
  obtain ⟨⟨hfx, hfp, hlc, hst⟩, hfh, hfs, hln⟩ := id hy1
  have hfx : fx t = m := hfx
  have hfp : fp t = p := hfp
  have hlc : ∀ k, k < 6 → lk (6 * t + k) = kdI (R k) ∧ (R k ≠ none → lw (6 * t + k) = V k) := hlc
  have hst : ∀ j, j < _ → vk (5 * t + j) = kdI (R (7 + j)) ∧ vl (5 * t + j) = V (7 + j) := hst
  refine er_aload_n d_Mo_guard_53 rfl ?_
  refine er_aload_n d_Mo_guard_54 rfl ?_
  refine er_getf d_Mo_guard_55 f_Mo_guard_84 hO rfl ?_
  refine er_iload_n d_Mo_guard_58 rfl ?_
  refine er_ialdQ (v := (nI (h))) d_Mo_guard_59 f3 (by omega) (by omega) (congrArg nI hfh) ?_
  refine er_putf d_Mo_guard_60 p_Mo_guard_179 hO (Nat.le_of_ble_eq_true rfl) jl_fit_int ?_
  show jl_E l G m_Mo_guard (0, 0) 63 [some (.ref 22), some (.int (nI t)), none] [] (σ.set (22) (.inr (7, [.int (fa), .ref 23, .ref 24, .ref 25, .ref 26, .ref 27, .ref 28, .ref 29, .ref 30, .ref 31, .ref 32, .ref 33, .ref 34, .ref 35, .ref 36, .ref 37, .int (vf), .int (wh), .int (wy), .ref 38, .ref 39, .ref 40, .ref 41, .int (nI h), .ref 42, .ref 43, .ref 44, .ref 45, .ref 46, .ref 47, .ref 48, .ref 49, .int (nI (t + 1)), .ref 50, .ref 51, .ref 52, .int (nI (H.n)), .int (ov), .int (oh), .int (dn), .int (an)]))) P
  refine er_iconst ((nI (0))) d_Mo_guard_63 (by decide) ?_
  refine er_istore_n d_Mo_guard_64 (by decide) ?_
  show jl_E l G m_Mo_guard (0, 0) 65 [some (.ref 22), some (.int (nI t)), some (.int (nI 0))] [] (σ.set (22) (.inr (7, [.int (fa), .ref 23, .ref 24, .ref 25, .ref 26, .ref 27, .ref 28, .ref 29, .ref 30, .ref 31, .ref 32, .ref 33, .ref 34, .ref 35, .ref 36, .ref 37, .int (vf), .int (wh), .int (wy), .ref 38, .ref 39, .ref 40, .ref 41, .int (nI h), .ref 42, .ref 43, .ref 44, .ref 45, .ref 46, .ref 47, .ref 48, .ref 49, .int (nI (t + 1)), .ref 50, .ref 51, .ref 52, .int (nI (H.n)), .int (ov), .int (oh), .int (dn), .int (an)]))) P
  have hn2 : NB σ0 (σ.set (22) (.inr (7, [.int (fa), .ref 23, .ref 24, .ref 25, .ref 26, .ref 27, .ref 28, .ref 29, .ref 30, .ref 31, .ref 32, .ref 33, .ref 34, .ref 35, .ref 36, .ref 37, .int (vf), .int (wh), .int (wy), .ref 38, .ref 39, .ref 40, .ref 41, .int (nI h), .ref 42, .ref 43, .ref 44, .ref 45, .ref 46, .ref 47, .ref 48, .ref 49, .int (nI (t + 1)), .ref 50, .ref 51, .ref 52, .int (nI (H.n)), .int (ov), .int (oh), .int (dn), .int (an)]))) (h) t m (p) (h) (R) (V) (fs) (H) fa vf wh wy (nI h) ov oh dn an := ⟨_, _, _, _, _, _, _, _, _, _, _, _, (jl_ss hO), (jl_sn (by decide) f1), (jl_sn (by decide) f2), (jl_sn (by decide) f3), (jl_sn (by decide) f4), (jl_sn (by decide) f5), (jl_sn (by decide) f6), (jl_sn (by decide) f7), ⟨(jl_sn (by decide) k1), (jl_sn (by decide) k2), (jl_sn (by decide) k3)⟩, hB, hy1, ⟨⟨(jl_sn (by decide) r1), (jl_sn (by decide) r2)⟩, hlo, hsk⟩, (hF.set (by omega))⟩
  refine mo_gd_2 (R := R) (σ1 := σ.set (22) (.inr (7, [.int (fa), .ref 23, .ref 24, .ref 25, .ref 26, .ref 27, .ref 28, .ref 29, .ref 30, .ref 31, .ref 32, .ref 33, .ref 34, .ref 35, .ref 36, .ref 37, .int (vf), .int (wh), .int (wy), .ref 38, .ref 39, .ref 40, .ref 41, .int (nI h), .ref 42, .ref 43, .ref 44, .ref 45, .ref 46, .ref 47, .ref 48, .ref 49, .int (nI (t + 1)), .ref 50, .ref 51, .ref 52, .int (nI (H.n)), .int (ov), .int (oh), .int (dn), .int (an)]))) hl ht hh5 hB hn40 (fun i hi => (hst i hi).1) (fun i hi => ?_) (fun sk' σ' e41 hob2 hle2 hL2 hf2 => ?_) (h + 1) 0 _ sk (by omega) (Nat.zero_le _) (jl_ss hO) (jl_sn (by decide) r2) (jl_sn (by decide) f6) (jl_sn (by decide) f7) (jl_sn (by decide) k1) rfl (fun _ _ => rfl) hsk (fun k hk => absurd hk (Nat.not_lt_zero _))
  · rw [(hst i hi).2]; exact hlv.1 (7 + i) (by omega) (by omega)
  · have hn3 := hn2.gd2 hob2 e41 hL2 hf2
    have g : ∀ {j : Nat} {c : jl_C}, j ≠ 41 → j ≠ 22 → σ[j]? = some c → σ'[j]? = some c := fun h1 h2 e => (hf2 _ h1).trans (jl_sn (Ne.symm h2) e)
    have hF3 : FrN σ0 σ' := ⟨hL2.trans ((List.length_set ..).trans hF.1), fun i h1 h2 => by rw [hf2 i (by omega), List.getElem?_set_ne (by omega)]; exact hF.2 i h1 h2⟩
    refine mo_gd_c (lo := lo1) (sk := sk') hl ((hf2 22 (by decide)).trans (jl_ss hO)) (g (by decide) (by decide) f1) (g (by decide) (by decide) f2) hok hsg hK hm24 hp24 hft ht hh5 (hw0.fn hF3) (hu0.fn hF3) hfx hfp ⟨g (by decide) (by decide) e40, e41⟩ hob1 hob2 (fun j hj => ?_) (q := q) ?_ (hT σ' hn3)
    · rw [hle2 j hj]
      have z := hlv.2 j hj
      cases e : R (7 + j) with
      | none => exact absurd e z
      | some a => exact ⟨a, rfl, (hlv.1 (7 + j) (by omega) (by omega)).tyv a e⟩
    · rw [← hq]
      refine (flt_w hok (hK.2.1 _ (by omega)) hpq (fun j hj hj6 => ?_) (fun j hj hj6 => (hlv.1 j hj hj6).tyv.ob)).symm
      unfold rwM
      by_cases e : j < 6
      · rw [if_pos e, hle1 j e, Nat.zero_add]
      · rw [if_neg e, hle2 (j - 7) (by omega), show 7 + (j - 7) = j by omega]
theorem d_Mo_guard_0 : decode m_Mo_guard.2.1 0 = .ok (.aload_n 0, 1) := by decide +kernel
theorem f_Mo_guard_224 : jl_fd m_Mo_guard 224 7 32 = true := by decide +kernel
theorem d_Mo_guard_1 : decode m_Mo_guard.2.1 1 = .ok (.getfield 224, 3) := by decide +kernel
theorem d_Mo_guard_4 : decode m_Mo_guard.2.1 4 = .ok (.iconst 1, 1) := by decide +kernel
theorem d_Mo_guard_5 : decode m_Mo_guard.2.1 5 = .ok (.isub, 1) := by decide +kernel
theorem d_Mo_guard_6 : decode m_Mo_guard.2.1 6 = .ok (.istore_n 1, 1) := by decide +kernel
theorem d_Mo_guard_7 : decode m_Mo_guard.2.1 7 = .ok (.iconst 0, 1) := by decide +kernel
theorem d_Mo_guard_8 : decode m_Mo_guard.2.1 8 = .ok (.istore_n 2, 1) := by decide +kernel
theorem mo_guard (hl : l.stackTraces = false) {P : jl_O → jl_S → Prop}  (hn : NB σ0 σ (h) t m (p) (h) (R) (V) (fs) (H) fa vf wh wy hg ov oh dn an) (hw0 : MoW σ0 tb pr ow ft hs) (hu0 : MoM σ0 u1 u2 ur ul uo ua uc us ut uk) (hok : WoOk tb pr ow fi) (hsg : SgM tb pr hs u1 u2 ur sg) (hK : MoK u1 u2 ur ul uo uc us ut uk) (hm24 : m < 24) (hp24 : p < 24) (hft : ∀ k f, fty pr fi ft k f < 16) (ht : t < 12) (hh5 : h ≤ 5) (hlv : lv H R V h) (hn40 : H.n ≤ 40) (hpq : ∀ g, sg (ua (24 * m + p)) = some g → g.1 = none → g.2.1 = none) (hq : flt tb pr ow fi ft sg (uo (24 * m + p)) (ua (24 * m + p)) (ul m) (fun i => us (2 * m + i) / 32) (fun i => us (2 * m + i) % 32) (fun i => ut (2 * m + i)) (fun i => uk (2 * m + i)) (uc m) (ur m) p R h = q) (hT : ∀ σ', NB σ0 σ' (h) t m (p) (h) (R) (V) (fs) (H) fa vf wh wy (nI h) ov oh dn an → P (.inl (some (.int (nI q)))) σ') : jl_mE l G m_Mo_guard [.ref 22] σ P := by
  obtain ⟨fx, fp, fh, lw, lk, vl, vk, ks, kc, kv, lo, sk, hO, f1, f2, f3, f4, f5, f6, f7, hH, hB, hy1, hR1, hF⟩ := id hn
  obtain ⟨k1, k2, k3⟩ := id hH
  obtain ⟨⟨r1, r2⟩, hlo, hsk⟩ := id hR1
  obtain ⟨⟨hfx, hfp, hlc, hst⟩, hfh, hfs, hln⟩ := id hy1
  have hfx : fx t = m := hfx
  have hfp : fp t = p := hfp
  have hlc : ∀ k, k < 6 → lk (6 * t + k) = kdI (R k) ∧ (R k ≠ none → lw (6 * t + k) = V k) := hlc
  have hst : ∀ j, j < _ → vk (5 * t + j) = kdI (R (7 + j)) ∧ vl (5 * t + j) = V (7 + j) := hst
  refine jl_ofE (as := [.ref 22]) rfl (by decide) hl (jl_cc rfl jl_ca) (Nat.le_of_ble_eq_true rfl) ?_
  show jl_E l G m_Mo_guard (0, 0) 0 [some (.ref 22), none, none] [] (σ) P
  refine er_aload_n d_Mo_guard_0 rfl ?_
  refine er_getf d_Mo_guard_1 f_Mo_guard_224 hO rfl ?_
  refine er_iconst ((nI (1))) d_Mo_guard_4 (by decide) ?_
  refine er_isubN d_Mo_guard_5 (by omega) ?_
  rw [show (t + 1) - (1) = t by omega]
  show jl_E l G m_Mo_guard (0, 0) 6 [some (.ref 22), none, none] [.int (nI t)] (σ) P
  refine er_istore_n d_Mo_guard_6 (by decide) ?_
  show jl_E l G m_Mo_guard (0, 0) 7 [some (.ref 22), some (.int (nI t)), none] [] (σ) P
  refine er_iconst ((nI (0))) d_Mo_guard_7 (by decide) ?_
  refine er_istore_n d_Mo_guard_8 (by decide) ?_
  show jl_E l G m_Mo_guard (0, 0) 9 [some (.ref 22), some (.int (nI t)), some (.int (nI 0))] [] (σ) P
  refine mo_gd_1 (R := R) hl ht hB hn40 (fun i hi => ?_) (fun i hi => ?_) (fun lo' σ' e40 hob1 hle1 hL1 hf1 => ?_) 7 0 σ lo (by omega) (by decide) hO r1 f4 f5 k1 rfl (fun _ _ => rfl) hlo (fun k hk => absurd hk (Nat.not_lt_zero _))
  · rw [Nat.zero_add]; exact (hlc i hi).1
  · rw [Nat.zero_add]
    by_cases e : R i = none
    · rw [e]; exact gdv_n
    · rw [(hlc i hi).2 e]; exact hlv.1 i (by omega) (by omega)
  · exact mo_gd_b hl (hn.gd1 hob1 e40 hL1 hf1) hw0 hu0 hok hsg hK hm24 hp24 hft ht hh5 hlv hn40 hpq hq hle1 e40 hob1 hT
end JNze
