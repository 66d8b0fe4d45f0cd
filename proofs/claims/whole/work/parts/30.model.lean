/-! the model: readers of the world (wip/gen/p30.py) -/
section JMo
variable {l : Launch} {G : jl_G} {σ : jl_S} {tb : Nat → Bool} {pr : Nat → Option Nat} {ow fi ft : Nat → Nat} {hs : Nat → Bool} {fa vf wh wy hg dp md ov oh dn an : Int32}
theorem d_Mo_out_0 : decode m_Mo_out.2.1 0 = .ok (.iload_n 1, 1) := by decide +kernel
theorem d_Mo_out_1 : decode m_Mo_out.2.1 1 = .ok (.ifCond .lt 8, 3) := by decide +kernel
theorem d_Mo_out_9 : decode m_Mo_out.2.1 9 = .ok (.iconst 1, 1) := by decide +kernel
theorem d_Mo_out_10 : decode m_Mo_out.2.1 10 = .ok (.goto 4, 3) := by decide +kernel
theorem d_Mo_out_14 : decode m_Mo_out.2.1 14 = .ok (.ireturn, 1) := by decide +kernel
theorem d_Mo_out_4 : decode m_Mo_out.2.1 4 = .ok (.iload_n 1, 1) := by decide +kernel
theorem d_Mo_out_5 : decode m_Mo_out.2.1 5 = .ok (.iload_n 2, 1) := by decide +kernel
theorem d_Mo_out_6 : decode m_Mo_out.2.1 6 = .ok (.if_icmp .lt 7, 3) := by decide +kernel
theorem d_Mo_out_13 : decode m_Mo_out.2.1 13 = .ok (.iconst 0, 1) := by decide +kernel
theorem mo_out (hl : l.stackTraces = false) {v n : Int32} (hO : MoO σ fa vf wh wy hg dp md ov oh dn an) (hw : MoW σ tb pr ow ft hs)  : jl_m l G m_Mo_out [.ref 22, .int (v), .int (n)] σ (.inl (some (.int (bi (outB v n))))) (σ) := by
  obtain ⟨h23, h24, h25, h26, h27⟩ := id hw
  refine jl_of (as := [.ref 22, .int (v), .int (n)]) rfl (by decide) hl (jl_cc rfl (jl_cc rfl (jl_cc rfl jl_ca))) (Nat.le_of_ble_eq_true rfl) ?_
  show jl_W l G m_Mo_out (0, 0) 0 [some (.ref 22), some (.int (v)), some (.int (n))] [] (σ) (.inl (some (.int (bi (outB v n))))) (σ)
  refine jr_iload_n d_Mo_out_0 rfl ?_
  refine jr_if_lt 9 d_Mo_out_1 (by decide) (fun c1 => ?_) (fun c1 => ?_)
  · refine jr_iconst ((nI (1))) d_Mo_out_9 (by decide) ?_
    refine jr_goto 14 d_Mo_out_10 (by decide) ?_
    exact jr_zretE d_Mo_out_14 rfl (by decide) (by unfold outB; simp only [if_pos c1]; rfl) (rfl) (by decide) (by decide)
  · refine jr_iload_n d_Mo_out_4 rfl ?_
    refine jr_iload_n d_Mo_out_5 rfl ?_
    refine jr_icmp_lt 13 d_Mo_out_6 (by decide) (fun c2 => ?_) (fun c2 => ?_)
    · refine jr_iconst ((nI (0))) d_Mo_out_13 (by decide) ?_
      exact jr_zretE d_Mo_out_14 rfl (by decide) (by unfold outB; simp only [if_neg c1, if_pos c2]; rfl) (rfl) (by decide) (by decide)
    · refine jr_iconst ((nI (1))) d_Mo_out_9 (by decide) ?_
      refine jr_goto 14 d_Mo_out_10 (by decide) ?_
      exact jr_zretE d_Mo_out_14 rfl (by decide) (by unfold outB; simp only [if_neg c1, if_neg c2]; rfl) (rfl) (by decide) (by decide)
theorem d_Mo_isType_0 : decode m_Mo_isType.2.1 0 = .ok (.iload_n 1, 1) := by decide +kernel
theorem d_Mo_isType_1 : decode m_Mo_isType.2.1 1 = .ok (.ifCond .eq 20, 3) := by decide +kernel
theorem d_Mo_isType_21 : decode m_Mo_isType.2.1 21 = .ok (.iconst 1, 1) := by decide +kernel
theorem d_Mo_isType_22 : decode m_Mo_isType.2.1 22 = .ok (.goto 4, 3) := by decide +kernel
theorem d_Mo_isType_26 : decode m_Mo_isType.2.1 26 = .ok (.ireturn, 1) := by decide +kernel
theorem d_Mo_isType_4 : decode m_Mo_isType.2.1 4 = .ok (.iload_n 1, 1) := by decide +kernel
theorem d_Mo_isType_5 : decode m_Mo_isType.2.1 5 = .ok (.iconst 1, 1) := by decide +kernel
theorem d_Mo_isType_6 : decode m_Mo_isType.2.1 6 = .ok (.if_icmp .eq 15, 3) := by decide +kernel
theorem d_Mo_isType_9 : decode m_Mo_isType.2.1 9 = .ok (.iload_n 1, 1) := by decide +kernel
theorem d_Mo_isType_10 : decode m_Mo_isType.2.1 10 = .ok (.bipush 10, 2) := by decide +kernel
theorem d_Mo_isType_12 : decode m_Mo_isType.2.1 12 = .ok (.if_icmp .lt 13, 3) := by decide +kernel
theorem d_Mo_isType_25 : decode m_Mo_isType.2.1 25 = .ok (.iconst 0, 1) := by decide +kernel
theorem d_Mo_isType_15 : decode m_Mo_isType.2.1 15 = .ok (.iload_n 1, 1) := by decide +kernel
theorem d_Mo_isType_16 : decode m_Mo_isType.2.1 16 = .ok (.bipush 15, 2) := by decide +kernel
theorem d_Mo_isType_18 : decode m_Mo_isType.2.1 18 = .ok (.if_icmp .gt 7, 3) := by decide +kernel
theorem mo_isType (hl : l.stackTraces = false) {t : Int32} (hO : MoO σ fa vf wh wy hg dp md ov oh dn an) (hw : MoW σ tb pr ow ft hs)  : jl_m l G m_Mo_isType [.ref 22, .int (t)] σ (.inl (some (.int (bi (isTyM t))))) (σ) := by
  obtain ⟨h23, h24, h25, h26, h27⟩ := id hw
  refine jl_of (as := [.ref 22, .int (t)]) rfl (by decide) hl (jl_cc rfl (jl_cc rfl jl_ca)) (Nat.le_of_ble_eq_true rfl) ?_
  show jl_W l G m_Mo_isType (0, 0) 0 [some (.ref 22), some (.int (t))] [] (σ) (.inl (some (.int (bi (isTyM t))))) (σ)
  refine jr_iload_n d_Mo_isType_0 rfl ?_
  refine jr_if_eq 21 d_Mo_isType_1 (by decide) (fun c1 => ?_) (fun c1 => ?_)
  · refine jr_iconst ((nI (1))) d_Mo_isType_21 (by decide) ?_
    refine jr_goto 26 d_Mo_isType_22 (by decide) ?_
    exact jr_zretE d_Mo_isType_26 rfl (by decide) (by unfold isTyM; simp only [if_pos c1]; rfl) (rfl) (by decide) (by decide)
  · refine jr_iload_n d_Mo_isType_4 rfl ?_
    refine jr_iconst ((nI (1))) d_Mo_isType_5 (by decide) ?_
    refine jr_icmp_eq 21 d_Mo_isType_6 (by decide) (fun c2 => ?_) (fun c2 => ?_)
    · refine jr_iconst ((nI (1))) d_Mo_isType_21 (by decide) ?_
      refine jr_goto 26 d_Mo_isType_22 (by decide) ?_
      exact jr_zretE d_Mo_isType_26 rfl (by decide) (by unfold isTyM; simp only [if_neg c1, if_pos c2]; rfl) (rfl) (by decide) (by decide)
    · refine jr_iload_n d_Mo_isType_9 rfl ?_
      refine jr_bipush ((nI (10))) d_Mo_isType_10 (by decide) ?_
      refine jr_icmp_lt 25 d_Mo_isType_12 (by decide) (fun c3 => ?_) (fun c3 => ?_)
      · refine jr_iconst ((nI (0))) d_Mo_isType_25 (by decide) ?_
        exact jr_zretE d_Mo_isType_26 rfl (by decide) (by unfold isTyM; simp only [if_neg c1, if_neg c2, if_pos c3]; rfl) (rfl) (by decide) (by decide)
      · refine jr_iload_n d_Mo_isType_15 rfl ?_
        refine jr_bipush ((nI (15))) d_Mo_isType_16 (by decide) ?_
        refine jr_icmp_gt 25 d_Mo_isType_18 (by decide) (fun c4 => ?_) (fun c4 => ?_)
        · refine jr_iconst ((nI (0))) d_Mo_isType_25 (by decide) ?_
          exact jr_zretE d_Mo_isType_26 rfl (by decide) (by unfold isTyM; simp only [if_neg c1, if_neg c2, if_neg c3, if_pos c4]; rfl) (rfl) (by decide) (by decide)
        · refine jr_iconst ((nI (1))) d_Mo_isType_21 (by decide) ?_
          refine jr_goto 26 d_Mo_isType_22 (by decide) ?_
          exact jr_zretE d_Mo_isType_26 rfl (by decide) (by unfold isTyM; simp only [if_neg c1, if_neg c2, if_neg c3, if_neg c4]; rfl) (rfl) (by decide) (by decide)
theorem d_Mo_above_2 : decode m_Mo_above.2.1 2 = .ok (.iload_n 3, 1) := by decide +kernel
theorem d_Mo_above_3 : decode m_Mo_above.2.1 3 = .ok (.ifCond .lt 20, 3) := by decide +kernel
theorem d_Mo_above_23 : decode m_Mo_above.2.1 23 = .ok (.iconst 0, 1) := by decide +kernel
theorem d_Mo_above_24 : decode m_Mo_above.2.1 24 = .ok (.ireturn, 1) := by decide +kernel
theorem d_Mo_above_6 : decode m_Mo_above.2.1 6 = .ok (.iload_n 3, 1) := by decide +kernel
theorem d_Mo_above_7 : decode m_Mo_above.2.1 7 = .ok (.iload_n 1, 1) := by decide +kernel
theorem d_Mo_above_8 : decode m_Mo_above.2.1 8 = .ok (.if_icmp .ne 5, 3) := by decide +kernel
theorem d_Mo_above_13 : decode m_Mo_above.2.1 13 = .ok (.aload_n 0, 1) := by decide +kernel
theorem f_Mo_above_13 : jl_fd m_Mo_above 13 7 2 = true := by decide +kernel
theorem d_Mo_above_14 : decode m_Mo_above.2.1 14 = .ok (.getfield 13, 3) := by decide +kernel
theorem d_Mo_above_17 : decode m_Mo_above.2.1 17 = .ok (.iload_n 3, 1) := by decide +kernel
theorem d_Mo_above_18 : decode m_Mo_above.2.1 18 = .ok (.iaload, 1) := by decide +kernel
theorem d_Mo_above_19 : decode m_Mo_above.2.1 19 = .ok (.istore_n 3, 1) := by decide +kernel
theorem d_Mo_above_20 : decode m_Mo_above.2.1 20 = .ok (.goto (-18), 3) := by decide +kernel
theorem d_Mo_above_11 : decode m_Mo_above.2.1 11 = .ok (.iconst 1, 1) := by decide +kernel
theorem d_Mo_above_12 : decode m_Mo_above.2.1 12 = .ok (.ireturn, 1) := by decide +kernel
theorem mo_above_loop (hl : l.stackTraces = false) {h : Nat} {x0 : Option Nat} (hO : MoO σ fa vf wh wy hg dp md ov oh dn an) (hw : MoW σ tb pr ow ft hs) (hh : h < 100) (hd : dsc pr) : ∀ (nn : Nat) (i : Nat) (x : Option Nat), 6 - i < nn → i ≤ 6 → (∀ c, x = some c → c + i ≤ 5) → jl_W l G m_Mo_above (0, 0) 2 [some (.ref 22), some (.int (nI h)), some (.int (en x0)), some (.int (en x))] [] σ (.inl (some (.int (bi (mab pr h (6 - i) x))))) (σ) := by
  obtain ⟨h23, h24, h25, h26, h27⟩ := id hw
  intro nn
  induction nn with
  | zero => intro i x hnn; exact absurd hnn (Nat.not_lt_zero _)
  | succ nn ihn =>
    intro i x hnn hi hx
    refine jr_iload_n d_Mo_above_2 rfl ?_
    cases x with
    | none =>
      show jl_W l G m_Mo_above (0, 0) 3 [some (.ref 22), some (.int (nI h)), some (.int (en x0)), some (.int (-1))] [.int (-1)] (σ) (.inl (some (.int (bi (mab pr h (6 - i) none))))) (σ)
      refine jr_if_lt 23 d_Mo_above_3 (by decide) (fun _ => ?_) (fun z => absurd (by decide) z)
      refine jr_iconst ((nI (0))) d_Mo_above_23 (by decide) ?_
      exact jr_zretE d_Mo_above_24 rfl (by decide) (by cases hq : 6 - i <;> rfl) (rfl) (by decide) (by decide)
    | some c =>
      have hc := hx c rfl
      show jl_W l G m_Mo_above (0, 0) 3 [some (.ref 22), some (.int (nI h)), some (.int (en x0)), some (.int (nI c))] [.int (nI c)] (σ) (.inl (some (.int (bi (mab pr h (6 - i) (some c)))))) (σ)
      refine jr_if_ltN 23 d_Mo_above_3 (by decide) (by omega) (fun c1 => ?_) (fun c1 => ?_)
      · refine jr_iconst ((nI (0))) d_Mo_above_23 (by decide) ?_
        exact jr_zretE d_Mo_above_24 rfl (by decide) (absurd c1 (Nat.not_lt_zero _)) (rfl) (by decide) (by decide)
      · refine jr_iload_n d_Mo_above_6 rfl ?_
        refine jr_iload_n d_Mo_above_7 rfl ?_
        refine jr_icmp_neN 13 d_Mo_above_8 (by decide) (by omega) (by omega) (fun c2 => ?_) (fun c2 => ?_)
        · refine jr_aload_n d_Mo_above_13 rfl ?_
          refine jr_getf d_Mo_above_14 f_Mo_above_13 hO rfl ?_
          refine jr_iload_n d_Mo_above_17 rfl ?_
          refine jr_ialdN d_Mo_above_18 h24 (by omega) (by omega) ?_
          refine jr_istore_n d_Mo_above_19 (by decide) ?_
          show jl_W l G m_Mo_above (0, 0) 20 [some (.ref 22), some (.int (nI h)), some (.int (en x0)), some (.int (en (pr (c))))] [] (σ) (.inl (some (.int (bi (mab pr h (6 - i) (some c)))))) (σ)
          refine jr_goto 2 d_Mo_above_20 (by decide) ?_
          exact jl_oeq (by rw [show 6 - i = (6 - (i + 1)) + 1 by omega]; simp only [mab]; rw [if_neg c2]) (ihn (i + 1) (pr c) (by omega) (by omega) (fun d hd2 => by have := hd c (by omega) d hd2; omega))
        · refine jr_iconst ((nI (1))) d_Mo_above_11 (by decide) ?_
          exact jr_zretE d_Mo_above_12 rfl (by decide) (by rw [show 6 - i = (6 - (i + 1)) + 1 by omega]; simp only [mab]; rw [if_pos c2]; rfl) (rfl) (by decide) (by decide)
theorem d_Mo_above_0 : decode m_Mo_above.2.1 0 = .ok (.iload_n 2, 1) := by decide +kernel
theorem d_Mo_above_1 : decode m_Mo_above.2.1 1 = .ok (.istore_n 3, 1) := by decide +kernel
theorem mo_above (hl : l.stackTraces = false) {h : Nat} {x : Option Nat} (hO : MoO σ fa vf wh wy hg dp md ov oh dn an) (hw : MoW σ tb pr ow ft hs) (hh : h < 100) (hd : dsc pr) (hx : ob 6 x) : jl_m l G m_Mo_above [.ref 22, .int (nI h), .int (en x)] σ (.inl (some (.int (bi (ab pr h x))))) (σ) := by
  obtain ⟨h23, h24, h25, h26, h27⟩ := id hw
  refine jl_of (as := [.ref 22, .int (nI h), .int (en x)]) rfl (by decide) hl (jl_cc rfl (jl_cc rfl (jl_cc rfl jl_ca))) (Nat.le_of_ble_eq_true rfl) ?_
  show jl_W l G m_Mo_above (0, 0) 0 [some (.ref 22), some (.int (nI h)), some (.int (en x)), none] [] (σ) (.inl (some (.int (bi (ab pr h x))))) (σ)
  refine jr_iload_n d_Mo_above_0 rfl ?_
  refine jr_istore_n d_Mo_above_1 (by decide) ?_
  show jl_W l G m_Mo_above (0, 0) 2 [some (.ref 22), some (.int (nI h)), some (.int (en x)), some (.int (en x))] [] (σ) (.inl (some (.int (bi (ab pr h x))))) (σ)
  exact jl_oeq (by rw [← ab_m hd hx]) (mo_above_loop hl hO hw hh hd 7 0 x (by omega) (by omega) (fun c hc => by have := hx c hc; omega))
end JMo
