/-! World: leaf methods (wip/gen/p20.py) -/
section JWo
variable {l : Launch} {G : jl_G} {σ : jl_S} {th su ow fi ft : Nat → Int32} {mt : Nat → Option Nat} {tb : Nat → Bool} {pr : Nat → Option Nat}
def f_has (th : Nat → Int32) (k : Int32) : Int32 := if k < 0 then 0 else if nI 6 ≤ k then 0 else if th k.toNatClampNeg = 0 then 0 else 1
theorem d_Wo_has_0 : decode m_Wo_has.2.1 0 = .ok (.iload_n 1, 1) := by decide +kernel
theorem d_Wo_has_1 : decode m_Wo_has.2.1 1 = .ok (.ifCond .lt 22, 3) := by decide +kernel
theorem d_Wo_has_23 : decode m_Wo_has.2.1 23 = .ok (.iconst 0, 1) := by decide +kernel
theorem d_Wo_has_24 : decode m_Wo_has.2.1 24 = .ok (.ireturn, 1) := by decide +kernel
theorem d_Wo_has_4 : decode m_Wo_has.2.1 4 = .ok (.iload_n 1, 1) := by decide +kernel
theorem d_Wo_has_5 : decode m_Wo_has.2.1 5 = .ok (.bipush 6, 2) := by decide +kernel
theorem d_Wo_has_7 : decode m_Wo_has.2.1 7 = .ok (.if_icmp .ge 16, 3) := by decide +kernel
theorem d_Wo_has_10 : decode m_Wo_has.2.1 10 = .ok (.aload_n 0, 1) := by decide +kernel
theorem f_Wo_has_9 : jl_fd m_Wo_has 9 5 0 = true := by decide +kernel
theorem d_Wo_has_11 : decode m_Wo_has.2.1 11 = .ok (.getfield 9, 3) := by decide +kernel
theorem d_Wo_has_14 : decode m_Wo_has.2.1 14 = .ok (.iload_n 1, 1) := by decide +kernel
theorem d_Wo_has_15 : decode m_Wo_has.2.1 15 = .ok (.baload, 1) := by decide +kernel
theorem d_Wo_has_16 : decode m_Wo_has.2.1 16 = .ok (.ifCond .eq 7, 3) := by decide +kernel
theorem d_Wo_has_19 : decode m_Wo_has.2.1 19 = .ok (.iconst 1, 1) := by decide +kernel
theorem d_Wo_has_20 : decode m_Wo_has.2.1 20 = .ok (.goto 4, 3) := by decide +kernel
theorem wo_has (hl : l.stackTraces = false) {k : Int32} (hW : σ[1]? = some (.inr (5, [.ref 2, .ref 3, .ref 4, .ref 5, .ref 6, .ref 7]))) (h2 : σ[2]? = some (.inl (1, 6, .inl th)))  : jl_m l G m_Wo_has [.ref 1, .int (k)] σ (.inl (some (.int (f_has th k)))) (σ) := by
  refine jl_of (as := [.ref 1, .int (k)]) rfl (by decide) hl (jl_cc rfl (jl_cc rfl jl_ca)) (Nat.le_of_ble_eq_true rfl) ?_
  show jl_W l G m_Wo_has (0, 0) 0 [some (.ref 1), some (.int (k))] [] (σ) (.inl (some (.int (f_has th k)))) (σ)
  refine jr_iload_n d_Wo_has_0 rfl ?_
  refine jr_if_lt 23 d_Wo_has_1 (by decide) (fun c1 => ?_) (fun c1 => ?_)
  · refine jr_iconst ((nI (0))) d_Wo_has_23 (by decide) ?_
    exact jr_zretE d_Wo_has_24 rfl (by decide) (by unfold f_has; simp only [if_pos c1]; rfl) rfl (by decide) (by decide)
  · refine jr_iload_n d_Wo_has_4 rfl ?_
    refine jr_bipush ((nI (6))) d_Wo_has_5 (by decide) ?_
    refine jr_icmp_ge 23 d_Wo_has_7 (by decide) (fun c2 => ?_) (fun c2 => ?_)
    · refine jr_iconst ((nI (0))) d_Wo_has_23 (by decide) ?_
      exact jr_zretE d_Wo_has_24 rfl (by decide) (by unfold f_has; simp only [if_neg c1, if_pos c2]; rfl) rfl (by decide) (by decide)
    · refine jr_aload_n d_Wo_has_10 rfl ?_
      refine jr_getf d_Wo_has_11 f_Wo_has_9 hW rfl ?_
      refine jr_iload_n d_Wo_has_14 rfl ?_
      refine jr_bald d_Wo_has_15 h2 (jl_vin c1 c2 (by decide)) ?_
      refine jr_if_eq 23 d_Wo_has_16 (by decide) (fun c3 => ?_) (fun c3 => ?_)
      · refine jr_iconst ((nI (0))) d_Wo_has_23 (by decide) ?_
        exact jr_zretE d_Wo_has_24 rfl (by decide) (by unfold f_has; simp only [if_neg c1, if_neg c2, if_pos c3]; rfl) rfl (by decide) (by decide)
      · refine jr_iconst ((nI (1))) d_Wo_has_19 (by decide) ?_
        refine jr_goto 24 d_Wo_has_20 (by decide) ?_
        exact jr_zretE d_Wo_has_24 rfl (by decide) (by unfold f_has; simp only [if_neg c1, if_neg c2, if_neg c3]; rfl) rfl (by decide) (by decide)
theorem d_Wo_isOrIsAbove_0 : decode m_Wo_isOrIsAbove.2.1 0 = .ok (.iload_n 2, 1) := by decide +kernel
theorem d_Wo_isOrIsAbove_1 : decode m_Wo_isOrIsAbove.2.1 1 = .ok (.istore_n 3, 1) := by decide +kernel
theorem d_Wo_isOrIsAbove_2 : decode m_Wo_isOrIsAbove.2.1 2 = .ok (.iconst 0, 1) := by decide +kernel
theorem d_Wo_isOrIsAbove_3 : decode m_Wo_isOrIsAbove.2.1 3 = .ok (.istore 4, 2) := by decide +kernel
theorem d_Wo_isOrIsAbove_5 : decode m_Wo_isOrIsAbove.2.1 5 = .ok (.iload 4, 2) := by decide +kernel
theorem d_Wo_isOrIsAbove_7 : decode m_Wo_isOrIsAbove.2.1 7 = .ok (.bipush 6, 2) := by decide +kernel
theorem d_Wo_isOrIsAbove_9 : decode m_Wo_isOrIsAbove.2.1 9 = .ok (.if_icmp .ge 21, 3) := by decide +kernel
theorem d_Wo_isOrIsAbove_12 : decode m_Wo_isOrIsAbove.2.1 12 = .ok (.iload_n 3, 1) := by decide +kernel
theorem d_Wo_isOrIsAbove_13 : decode m_Wo_isOrIsAbove.2.1 13 = .ok (.iload_n 1, 1) := by decide +kernel
theorem d_Wo_isOrIsAbove_14 : decode m_Wo_isOrIsAbove.2.1 14 = .ok (.if_icmp .le 16, 3) := by decide +kernel
theorem d_Wo_isOrIsAbove_17 : decode m_Wo_isOrIsAbove.2.1 17 = .ok (.aload_n 0, 1) := by decide +kernel
theorem d_Wo_isOrIsAbove_18 : decode m_Wo_isOrIsAbove.2.1 18 = .ok (.getfield 15, 3) := by decide +kernel
theorem d_Wo_isOrIsAbove_21 : decode m_Wo_isOrIsAbove.2.1 21 = .ok (.iload_n 3, 1) := by decide +kernel
theorem d_Wo_isOrIsAbove_22 : decode m_Wo_isOrIsAbove.2.1 22 = .ok (.iaload, 1) := by decide +kernel
theorem d_Wo_isOrIsAbove_23 : decode m_Wo_isOrIsAbove.2.1 23 = .ok (.istore_n 3, 1) := by decide +kernel
theorem d_Wo_isOrIsAbove_24 : decode m_Wo_isOrIsAbove.2.1 24 = .ok (.iinc 4 1, 3) := by decide +kernel
theorem d_Wo_isOrIsAbove_27 : decode m_Wo_isOrIsAbove.2.1 27 = .ok (.goto (-22), 3) := by decide +kernel
theorem d_Wo_isOrIsAbove_30 : decode m_Wo_isOrIsAbove.2.1 30 = .ok (.iload_n 3, 1) := by decide +kernel
theorem d_Wo_isOrIsAbove_31 : decode m_Wo_isOrIsAbove.2.1 31 = .ok (.iload_n 1, 1) := by decide +kernel
theorem d_Wo_isOrIsAbove_32 : decode m_Wo_isOrIsAbove.2.1 32 = .ok (.if_icmp .ne 7, 3) := by decide +kernel
theorem d_Wo_isOrIsAbove_35 : decode m_Wo_isOrIsAbove.2.1 35 = .ok (.iconst 1, 1) := by decide +kernel
theorem d_Wo_isOrIsAbove_36 : decode m_Wo_isOrIsAbove.2.1 36 = .ok (.goto 4, 3) := by decide +kernel
theorem d_Wo_isOrIsAbove_39 : decode m_Wo_isOrIsAbove.2.1 39 = .ok (.iconst 0, 1) := by decide +kernel
theorem d_Wo_isOrIsAbove_40 : decode m_Wo_isOrIsAbove.2.1 40 = .ok (.ireturn, 1) := by decide +kernel
theorem f_Wo_isOrIsAbove_15 : jl_fd m_Wo_isOrIsAbove 15 5 1 = true := by decide +kernel
theorem wo_up_loop (hl : l.stackTraces = false) {h : Nat} {x0 : Option Nat} (hh : h < 2 ^ 31) (hW : σ[1]? = some (.inr (5, [.ref 2, .ref 3, .ref 4, .ref 5, .ref 6, .ref 7]))) (h3 : σ[3]? = some (.inl (0, 6, .inl su))) (hsu : ∀ j, j < 6 → su j = en (pr j)) (hpr : ∀ j, ob 6 (pr j)) : ∀ (n i : Nat) (x : Option Nat), i + n = 6 → ob 6 x → jl_W l G m_Wo_isOrIsAbove (0, 0) 5 [some (.ref 1), some (.int (nI h)), some (.int (en x0)), some (.int (en x)), some (.int (nI i))] [] σ (.inl (some (.int (bi (decide (up pr h n x = some h)))))) σ := by
  have tail : ∀ (y x : Option Nat) (i : Nat), ob 6 x → y = x → jl_W l G m_Wo_isOrIsAbove (0, 0) 30 [some (.ref 1), some (.int (nI h)), some (.int (en x0)), some (.int (en x)), some (.int (nI i))] [] σ (.inl (some (.int (bi (decide (y = some h)))))) σ := by
    intro y x i hx hy
    subst hy
    have hin : en y = nI h ↔ y = some h := en_inj (y := some h) (fun a ha => Nat.lt_trans (hx a ha) (by decide)) (fun a ha => by cases ha; exact hh)
    refine jr_iload_n d_Wo_isOrIsAbove_30 rfl ?_
    refine jr_iload_n d_Wo_isOrIsAbove_31 rfl ?_
    refine jr_icmp_ne 39 d_Wo_isOrIsAbove_32 (by decide) (fun c9 => ?_) (fun c9 => ?_)
    · refine jr_iconst (nI 0) d_Wo_isOrIsAbove_39 (by decide) ?_
      exact jr_zretE d_Wo_isOrIsAbove_40 rfl (by decide) (by rw [bi_f (decide_eq_false (fun q => c9 (hin.mpr q)))]; rfl) rfl (by decide) (by decide)
    · refine jr_iconst (nI 1) d_Wo_isOrIsAbove_35 (by decide) ?_
      refine jr_goto 40 d_Wo_isOrIsAbove_36 (by decide) ?_
      exact jr_zretE d_Wo_isOrIsAbove_40 rfl (by decide) (by rw [bi_t (decide_eq_true (hin.mp c9))]; rfl) rfl (by decide) (by decide)
  intro n
  induction n with
  | zero =>
    intro i x hi hx
    refine jr_iload d_Wo_isOrIsAbove_5 rfl ?_
    refine jr_bipush (nI 6) d_Wo_isOrIsAbove_7 (by decide) ?_
    refine jr_icmp_geN 30 d_Wo_isOrIsAbove_9 (by decide) (by omega) (by omega) (fun c1 => ?_) (fun c1 => absurd c1 (by omega))
    exact tail _ x i hx rfl
  | succ n ih =>
    intro i x hi hx
    refine jr_iload d_Wo_isOrIsAbove_5 rfl ?_
    refine jr_bipush (nI 6) d_Wo_isOrIsAbove_7 (by decide) ?_
    refine jr_icmp_geN 30 d_Wo_isOrIsAbove_9 (by decide) (by omega) (by omega) (fun c1 => absurd c1 (by omega)) (fun c1 => ?_)
    refine jr_iload_n d_Wo_isOrIsAbove_12 rfl ?_
    refine jr_iload_n d_Wo_isOrIsAbove_13 rfl ?_
    cases x with
    | none =>
      refine jr_icmp_le 30 d_Wo_isOrIsAbove_14 (by decide) (fun c2 => ?_) (fun c2 => absurd (en_m1le hh) c2)
      exact tail _ none i hx rfl
    | some j =>
      have hj := hx j rfl
      refine jr_icmp_leN 30 d_Wo_isOrIsAbove_14 (by decide) (by omega) hh (fun c2 => ?_) (fun c2 => ?_)
      · refine tail _ (some j) i hx ?_
        simp only [up]
        rw [if_pos c2]
      · refine jr_aload_n d_Wo_isOrIsAbove_17 rfl ?_
        refine jr_getf d_Wo_isOrIsAbove_18 f_Wo_isOrIsAbove_15 hW rfl ?_
        refine jr_iload_n d_Wo_isOrIsAbove_21 rfl ?_
        refine jr_ialdN d_Wo_isOrIsAbove_22 h3 hj (by decide) ?_
        rw [hsu j hj]
        refine jr_istore_n d_Wo_isOrIsAbove_23 (by decide) ?_
        refine jr_iinc (nI (i + 1)) d_Wo_isOrIsAbove_24 (by decide) rfl (jl_inc _) ?_
        refine jr_goto 5 d_Wo_isOrIsAbove_27 (by decide) ?_
        have e1 : up pr h (n + 1) (some j) = up pr h n (pr j) := by simp only [up]; rw [if_neg (by omega)]
        rw [e1]
        exact ih (i + 1) (pr j) (by omega) (hpr j)
theorem wo_above (hl : l.stackTraces = false) {h : Nat} {x : Option Nat} (hh : h < 2 ^ 31) (hW : σ[1]? = some (.inr (5, [.ref 2, .ref 3, .ref 4, .ref 5, .ref 6, .ref 7]))) (h3 : σ[3]? = some (.inl (0, 6, .inl su))) (hsu : ∀ j, j < 6 → su j = en (pr j)) (hpr : ∀ j, ob 6 (pr j)) (hx : ob 6 x) : jl_m l G m_Wo_isOrIsAbove [.ref 1, .int (nI h), .int (en x)] σ (.inl (some (.int (bi (ab pr h x))))) σ := by
  refine jl_of (as := [.ref 1, .int (nI h), .int (en x)]) rfl (by decide) hl (jl_cc rfl (jl_cc rfl (jl_cc rfl jl_ca))) (Nat.le_of_ble_eq_true rfl) ?_
  refine jr_iload_n d_Wo_isOrIsAbove_0 rfl ?_
  refine jr_istore_n d_Wo_isOrIsAbove_1 (by decide) ?_
  refine jr_iconst (nI 0) d_Wo_isOrIsAbove_2 (by decide) ?_
  refine jr_istore d_Wo_isOrIsAbove_3 (by decide) ?_
  exact wo_up_loop hl hh hW h3 hsu hpr 6 0 x rfl hx
end JWo
