/-! the model, on (wip/gen/p31.py) -/
section JMp
variable {l : Launch} {G : jl_G} {σ : jl_S} {tb : Nat → Bool} {pr : Nat → Option Nat} {ow fi ft : Nat → Nat} {hs : Nat → Bool} {fa vf wh wy hg dp md ov oh dn an : Int32}
theorem d_Mo_isSuper_2 : decode m_Mo_isSuper.2.1 2 = .ok (.iload_n 2, 1) := by decide +kernel
theorem d_Mo_isSuper_3 : decode m_Mo_isSuper.2.1 3 = .ok (.bipush 6, 2) := by decide +kernel
theorem d_Mo_isSuper_5 : decode m_Mo_isSuper.2.1 5 = .ok (.if_icmp .ge 30, 3) := by decide +kernel
theorem d_Mo_isSuper_35 : decode m_Mo_isSuper.2.1 35 = .ok (.iconst 0, 1) := by decide +kernel
theorem d_Mo_isSuper_36 : decode m_Mo_isSuper.2.1 36 = .ok (.ireturn, 1) := by decide +kernel
theorem d_Mo_isSuper_8 : decode m_Mo_isSuper.2.1 8 = .ok (.aload_n 0, 1) := by decide +kernel
theorem f_Mo_isSuper_7 : jl_fd m_Mo_isSuper 7 7 1 = true := by decide +kernel
theorem d_Mo_isSuper_9 : decode m_Mo_isSuper.2.1 9 = .ok (.getfield 7, 3) := by decide +kernel
theorem d_Mo_isSuper_12 : decode m_Mo_isSuper.2.1 12 = .ok (.iload_n 2, 1) := by decide +kernel
theorem d_Mo_isSuper_13 : decode m_Mo_isSuper.2.1 13 = .ok (.baload, 1) := by decide +kernel
theorem d_Mo_isSuper_14 : decode m_Mo_isSuper.2.1 14 = .ok (.ifCond .eq 15, 3) := by decide +kernel
theorem d_Mo_isSuper_29 : decode m_Mo_isSuper.2.1 29 = .ok (.iinc 2 1, 3) := by decide +kernel
theorem d_Mo_isSuper_32 : decode m_Mo_isSuper.2.1 32 = .ok (.goto (-30), 3) := by decide +kernel
theorem d_Mo_isSuper_17 : decode m_Mo_isSuper.2.1 17 = .ok (.aload_n 0, 1) := by decide +kernel
theorem f_Mo_isSuper_13 : jl_fd m_Mo_isSuper 13 7 2 = true := by decide +kernel
theorem d_Mo_isSuper_18 : decode m_Mo_isSuper.2.1 18 = .ok (.getfield 13, 3) := by decide +kernel
theorem d_Mo_isSuper_21 : decode m_Mo_isSuper.2.1 21 = .ok (.iload_n 2, 1) := by decide +kernel
theorem d_Mo_isSuper_22 : decode m_Mo_isSuper.2.1 22 = .ok (.iaload, 1) := by decide +kernel
theorem d_Mo_isSuper_23 : decode m_Mo_isSuper.2.1 23 = .ok (.iload_n 1, 1) := by decide +kernel
theorem d_Mo_isSuper_24 : decode m_Mo_isSuper.2.1 24 = .ok (.if_icmp .ne 5, 3) := by decide +kernel
theorem d_Mo_isSuper_27 : decode m_Mo_isSuper.2.1 27 = .ok (.iconst 1, 1) := by decide +kernel
theorem d_Mo_isSuper_28 : decode m_Mo_isSuper.2.1 28 = .ok (.ireturn, 1) := by decide +kernel
theorem mo_super_loop (hl : l.stackTraces = false) {k : Nat} (hO : MoO σ fa vf wh wy hg dp md ov oh dn an) (hw : MoW σ tb pr ow ft hs) (hk : k < 6) (hok : ∀ j, ob 6 (pr j)) : ∀ (nn : Nat) (i : Nat), 6 - i < nn → i ≤ 6 → jl_W l G m_Mo_isSuper (0, 0) 2 [some (.ref 22), some (.int (nI k)), some (.int (nI i))] [] σ (.inl (some (.int (bi (msp tb pr k (6 - i) i))))) (σ) := by
  obtain ⟨h23, h24, h25, h26, h27⟩ := id hw
  intro nn
  induction nn with
  | zero => intro i hnn; exact absurd hnn (Nat.not_lt_zero _)
  | succ nn ihn =>
    intro i hnn hi
    refine jr_iload_n d_Mo_isSuper_2 rfl ?_
    refine jr_bipush ((nI (6))) d_Mo_isSuper_3 (by decide) ?_
    refine jr_icmp_geN 35 d_Mo_isSuper_5 (by decide) (by omega) (by omega) (fun c1 => ?_) (fun c1 => ?_)
    · refine jr_iconst ((nI (0))) d_Mo_isSuper_35 (by decide) ?_
      exact jr_zretE d_Mo_isSuper_36 rfl (by decide) (by rw [show 6 - i = 0 by omega]; rfl) (rfl) (by decide) (by decide)
    · refine jr_aload_n d_Mo_isSuper_8 rfl ?_
      refine jr_getf d_Mo_isSuper_9 f_Mo_isSuper_7 hO rfl ?_
      refine jr_iload_n d_Mo_isSuper_12 rfl ?_
      refine jr_baldN d_Mo_isSuper_13 h23 (by omega) (by omega) ?_
      refine jr_if_eq 29 d_Mo_isSuper_14 (by decide) (fun c2 => ?_) (fun c2 => ?_)
      · refine jr_iinc ((nI (i + 1))) d_Mo_isSuper_29 (by decide) rfl (jl_inc _) ?_
        show jl_W l G m_Mo_isSuper (0, 0) 32 [some (.ref 22), some (.int (nI k)), some (.int (nI (i + 1)))] [] (σ) (.inl (some (.int (bi (msp tb pr k (6 - i) i))))) (σ)
        refine jr_goto 2 d_Mo_isSuper_32 (by decide) ?_
        exact jl_oeq (by rw [show 6 - i = (6 - (i + 1)) + 1 by omega]; simp only [msp]; rw [bi_0.mp c2]; rfl) (ihn (i + 1) (by omega) (by omega))
      · refine jr_aload_n d_Mo_isSuper_17 rfl ?_
        refine jr_getf d_Mo_isSuper_18 f_Mo_isSuper_13 hO rfl ?_
        refine jr_iload_n d_Mo_isSuper_21 rfl ?_
        refine jr_ialdN d_Mo_isSuper_22 h24 (by omega) (by omega) ?_
        refine jr_iload_n d_Mo_isSuper_23 rfl ?_
        refine jr_icmp_ne 29 d_Mo_isSuper_24 (by decide) (fun c3 => ?_) (fun c3 => ?_)
        · refine jr_iinc ((nI (i + 1))) d_Mo_isSuper_29 (by decide) rfl (jl_inc _) ?_
          show jl_W l G m_Mo_isSuper (0, 0) 32 [some (.ref 22), some (.int (nI k)), some (.int (nI (i + 1)))] [] (σ) (.inl (some (.int (bi (msp tb pr k (6 - i) i))))) (σ)
          refine jr_goto 2 d_Mo_isSuper_32 (by decide) ?_
          exact jl_oeq (by rw [show 6 - i = (6 - (i + 1)) + 1 by omega]; simp only [msp]; rw [beq_f (fun q => c3 (by rw [q]; rfl)), Bool.and_false, Bool.false_or]) (ihn (i + 1) (by omega) (by omega))
        · refine jr_iconst ((nI (1))) d_Mo_isSuper_27 (by decide) ?_
          exact jr_zretE d_Mo_isSuper_28 rfl (by decide) (by rw [show 6 - i = (6 - (i + 1)) + 1 by omega]; simp only [msp]; rw [bi_nf c2, beq_t ((en_inj (y := some k) (ob_w (hok i) (by decide)) (fun a ha => by cases ha; omega)).mp c3)]; rfl) (rfl) (by decide) (by decide)
theorem d_Mo_isSuper_0 : decode m_Mo_isSuper.2.1 0 = .ok (.iconst 0, 1) := by decide +kernel
theorem d_Mo_isSuper_1 : decode m_Mo_isSuper.2.1 1 = .ok (.istore_n 2, 1) := by decide +kernel
theorem mo_super (hl : l.stackTraces = false) {k : Nat} (hO : MoO σ fa vf wh wy hg dp md ov oh dn an) (hw : MoW σ tb pr ow ft hs) (hk : k < 6) (hok : WoOk tb pr ow fi) : jl_m l G m_Mo_isSuper [.ref 22, .int (nI k)] σ (.inl (some (.int (bi (sup pr k (6 - (k + 1)) (k + 1)))))) (σ) := by
  obtain ⟨h23, h24, h25, h26, h27⟩ := id hw
  refine jl_of (as := [.ref 22, .int (nI k)]) rfl (by decide) hl (jl_cc rfl (jl_cc rfl jl_ca)) (Nat.le_of_ble_eq_true rfl) ?_
  show jl_W l G m_Mo_isSuper (0, 0) 0 [some (.ref 22), some (.int (nI k)), none] [] (σ) (.inl (some (.int (bi (sup pr k (6 - (k + 1)) (k + 1)))))) (σ)
  refine jr_iconst ((nI (0))) d_Mo_isSuper_0 (by decide) ?_
  refine jr_istore_n d_Mo_isSuper_1 (by decide) ?_
  show jl_W l G m_Mo_isSuper (0, 0) 2 [some (.ref 22), some (.int (nI k)), some (.int (nI 0))] [] (σ) (.inl (some (.int (bi (sup pr k (6 - (k + 1)) (k + 1)))))) (σ)
  exact jl_oeq (by rw [← msp_eq hok hk]) (mo_super_loop hl hO hw hk hok.1 7 0 (by omega) (by omega))
theorem d_Mo_fieldsOf_4 : decode m_Mo_fieldsOf.2.1 4 = .ok (.iload_n 3, 1) := by decide +kernel
theorem d_Mo_fieldsOf_5 : decode m_Mo_fieldsOf.2.1 5 = .ok (.ifCond .lt 22, 3) := by decide +kernel
theorem d_Mo_fieldsOf_27 : decode m_Mo_fieldsOf.2.1 27 = .ok (.iload_n 2, 1) := by decide +kernel
theorem d_Mo_fieldsOf_28 : decode m_Mo_fieldsOf.2.1 28 = .ok (.ireturn, 1) := by decide +kernel
theorem d_Mo_fieldsOf_8 : decode m_Mo_fieldsOf.2.1 8 = .ok (.iload_n 2, 1) := by decide +kernel
theorem d_Mo_fieldsOf_9 : decode m_Mo_fieldsOf.2.1 9 = .ok (.aload_n 0, 1) := by decide +kernel
theorem f_Mo_fieldsOf_17 : jl_fd m_Mo_fieldsOf 17 7 3 = true := by decide +kernel
theorem d_Mo_fieldsOf_10 : decode m_Mo_fieldsOf.2.1 10 = .ok (.getfield 17, 3) := by decide +kernel
theorem d_Mo_fieldsOf_13 : decode m_Mo_fieldsOf.2.1 13 = .ok (.iload_n 3, 1) := by decide +kernel
theorem d_Mo_fieldsOf_14 : decode m_Mo_fieldsOf.2.1 14 = .ok (.iaload, 1) := by decide +kernel
theorem d_Mo_fieldsOf_15 : decode m_Mo_fieldsOf.2.1 15 = .ok (.iadd, 1) := by decide +kernel
theorem d_Mo_fieldsOf_16 : decode m_Mo_fieldsOf.2.1 16 = .ok (.istore_n 2, 1) := by decide +kernel
theorem d_Mo_fieldsOf_17 : decode m_Mo_fieldsOf.2.1 17 = .ok (.aload_n 0, 1) := by decide +kernel
theorem f_Mo_fieldsOf_13 : jl_fd m_Mo_fieldsOf 13 7 2 = true := by decide +kernel
theorem d_Mo_fieldsOf_18 : decode m_Mo_fieldsOf.2.1 18 = .ok (.getfield 13, 3) := by decide +kernel
theorem d_Mo_fieldsOf_21 : decode m_Mo_fieldsOf.2.1 21 = .ok (.iload_n 3, 1) := by decide +kernel
theorem d_Mo_fieldsOf_22 : decode m_Mo_fieldsOf.2.1 22 = .ok (.iaload, 1) := by decide +kernel
theorem d_Mo_fieldsOf_23 : decode m_Mo_fieldsOf.2.1 23 = .ok (.istore_n 3, 1) := by decide +kernel
theorem d_Mo_fieldsOf_24 : decode m_Mo_fieldsOf.2.1 24 = .ok (.goto (-20), 3) := by decide +kernel
theorem mo_fields_loop (hl : l.stackTraces = false) {x0 : Option Nat} (hO : MoO σ fa vf wh wy hg dp md ov oh dn an) (hw : MoW σ tb pr ow ft hs) (hd : dsc pr) (ho : ∀ j, j < 6 → ow j ≤ 3) : ∀ (nn : Nat) (i n : Nat) (x : Option Nat), 6 - i < nn → i ≤ 6 → n ≤ 3 * i → (∀ c, x = some c → c + i ≤ 5) → jl_W l G m_Mo_fieldsOf (0, 0) 4 [some (.ref 22), some (.int (en x0)), some (.int (nI n)), some (.int (en x))] [] σ (.inl (some (.int (nI (n + msf pr ow (6 - i) x))))) (σ) := by
  obtain ⟨h23, h24, h25, h26, h27⟩ := id hw
  intro nn
  induction nn with
  | zero => intro i n x hnn; exact absurd hnn (Nat.not_lt_zero _)
  | succ nn ihn =>
    intro i n x hnn hi hn hx
    refine jr_iload_n d_Mo_fieldsOf_4 rfl ?_
    cases x with
    | none =>
      show jl_W l G m_Mo_fieldsOf (0, 0) 5 [some (.ref 22), some (.int (en x0)), some (.int (nI n)), some (.int (-1))] [.int (-1)] (σ) (.inl (some (.int (nI (n + msf pr ow (6 - i) none))))) (σ)
      refine jr_if_lt 27 d_Mo_fieldsOf_5 (by decide) (fun _ => ?_) (fun z => absurd (by decide) z)
      refine jr_iload_n d_Mo_fieldsOf_27 rfl ?_
      exact jr_iretE d_Mo_fieldsOf_28 rfl (by cases hq : 6 - i <;> rfl) (rfl) (by decide) (by decide)
    | some c =>
      have hc := hx c rfl
      have hoc := ho c (by omega)
      show jl_W l G m_Mo_fieldsOf (0, 0) 5 [some (.ref 22), some (.int (en x0)), some (.int (nI n)), some (.int (nI c))] [.int (nI c)] (σ) (.inl (some (.int (nI (n + msf pr ow (6 - i) (some c)))))) (σ)
      refine jr_if_ltN 27 d_Mo_fieldsOf_5 (by decide) (by omega) (fun c1 => ?_) (fun c1 => ?_)
      · refine jr_iload_n d_Mo_fieldsOf_27 rfl ?_
        exact jr_iretE d_Mo_fieldsOf_28 rfl (absurd c1 (Nat.not_lt_zero _)) (rfl) (by decide) (by decide)
      · refine jr_iload_n d_Mo_fieldsOf_8 rfl ?_
        refine jr_aload_n d_Mo_fieldsOf_9 rfl ?_
        refine jr_getf d_Mo_fieldsOf_10 f_Mo_fieldsOf_17 hO rfl ?_
        refine jr_iload_n d_Mo_fieldsOf_13 rfl ?_
        refine jr_ialdN d_Mo_fieldsOf_14 h25 (by omega) (by omega) ?_
        refine jr_iaddN d_Mo_fieldsOf_15 ?_
        refine jr_istore_n d_Mo_fieldsOf_16 (by decide) ?_
        show jl_W l G m_Mo_fieldsOf (0, 0) 17 [some (.ref 22), some (.int (en x0)), some (.int (nI ((n) + (ow (c))))), some (.int (nI c))] [] (σ) (.inl (some (.int (nI (n + msf pr ow (6 - i) (some c)))))) (σ)
        refine jr_aload_n d_Mo_fieldsOf_17 rfl ?_
        refine jr_getf d_Mo_fieldsOf_18 f_Mo_fieldsOf_13 hO rfl ?_
        refine jr_iload_n d_Mo_fieldsOf_21 rfl ?_
        refine jr_ialdN d_Mo_fieldsOf_22 h24 (by omega) (by omega) ?_
        refine jr_istore_n d_Mo_fieldsOf_23 (by decide) ?_
        show jl_W l G m_Mo_fieldsOf (0, 0) 24 [some (.ref 22), some (.int (en x0)), some (.int (nI ((n) + (ow (c))))), some (.int (en (pr (c))))] [] (σ) (.inl (some (.int (nI (n + msf pr ow (6 - i) (some c)))))) (σ)
        refine jr_goto 4 d_Mo_fieldsOf_24 (by decide) ?_
        exact jl_oeq (by rw [show 6 - i = (6 - (i + 1)) + 1 by omega]; simp only [msf]; rw [Nat.add_assoc]) (ihn (i + 1) (n + ow c) (pr c) (by omega) (by omega) (by have := ho c (by omega); omega) (fun d hd2 => by have := hd c (by omega) d hd2; omega))
theorem d_Mo_fieldsOf_0 : decode m_Mo_fieldsOf.2.1 0 = .ok (.iconst 0, 1) := by decide +kernel
theorem d_Mo_fieldsOf_1 : decode m_Mo_fieldsOf.2.1 1 = .ok (.istore_n 2, 1) := by decide +kernel
theorem d_Mo_fieldsOf_2 : decode m_Mo_fieldsOf.2.1 2 = .ok (.iload_n 1, 1) := by decide +kernel
theorem d_Mo_fieldsOf_3 : decode m_Mo_fieldsOf.2.1 3 = .ok (.istore_n 3, 1) := by decide +kernel
theorem mo_fields (hl : l.stackTraces = false) {x : Option Nat} (hO : MoO σ fa vf wh wy hg dp md ov oh dn an) (hw : MoW σ tb pr ow ft hs) (hok : WoOk tb pr ow fi) (hx : ob 6 x) : jl_m l G m_Mo_fieldsOf [.ref 22, .int (en x)] σ (.inl (some (.int (nI (fcO fi ow x))))) (σ) := by
  obtain ⟨h23, h24, h25, h26, h27⟩ := id hw
  refine jl_of (as := [.ref 22, .int (en x)]) rfl (by decide) hl (jl_cc rfl (jl_cc rfl jl_ca)) (Nat.le_of_ble_eq_true rfl) ?_
  show jl_W l G m_Mo_fieldsOf (0, 0) 0 [some (.ref 22), some (.int (en x)), none, none] [] (σ) (.inl (some (.int (nI (fcO fi ow x))))) (σ)
  refine jr_iconst ((nI (0))) d_Mo_fieldsOf_0 (by decide) ?_
  refine jr_istore_n d_Mo_fieldsOf_1 (by decide) ?_
  show jl_W l G m_Mo_fieldsOf (0, 0) 2 [some (.ref 22), some (.int (en x)), some (.int (nI 0)), none] [] (σ) (.inl (some (.int (nI (fcO fi ow x))))) (σ)
  refine jr_iload_n d_Mo_fieldsOf_2 rfl ?_
  refine jr_istore_n d_Mo_fieldsOf_3 (by decide) ?_
  show jl_W l G m_Mo_fieldsOf (0, 0) 4 [some (.ref 22), some (.int (en x)), some (.int (nI 0)), some (.int (en x))] [] (σ) (.inl (some (.int (nI (fcO fi ow x))))) (σ)
  exact jl_oeq (by rw [← msf_eq hok 6 x (fun c hc => ⟨hx c hc, hx c hc⟩), Nat.zero_add]) (mo_fields_loop hl hO hw hok.dsc hok.2.1 7 0 0 x (by omega) (by omega) (by omega) (fun c hc => by have := hx c hc; omega))
theorem d_Mo_part_0 : decode m_Mo_part.2.1 0 = .ok (.iload_n 1, 1) := by decide +kernel
theorem d_Mo_part_1 : decode m_Mo_part.2.1 1 = .ok (.iload_n 2, 1) := by decide +kernel
theorem d_Mo_part_2 : decode m_Mo_part.2.1 2 = .ok (.if_icmp .ne 5, 3) := by decide +kernel
theorem d_Mo_part_7 : decode m_Mo_part.2.1 7 = .ok (.iload_n 1, 1) := by decide +kernel
theorem d_Mo_part_8 : decode m_Mo_part.2.1 8 = .ok (.iconst 2, 1) := by decide +kernel
theorem d_Mo_part_9 : decode m_Mo_part.2.1 9 = .ok (.if_icmp .ne 20, 3) := by decide +kernel
theorem d_Mo_part_29 : decode m_Mo_part.2.1 29 = .ok (.iload_n 1, 1) := by decide +kernel
theorem d_Mo_part_30 : decode m_Mo_part.2.1 30 = .ok (.bipush 10, 2) := by decide +kernel
theorem d_Mo_part_32 : decode m_Mo_part.2.1 32 = .ok (.if_icmp .lt 28, 3) := by decide +kernel
theorem d_Mo_part_60 : decode m_Mo_part.2.1 60 = .ok (.iconst 0, 1) := by decide +kernel
theorem d_Mo_part_61 : decode m_Mo_part.2.1 61 = .ok (.ireturn, 1) := by decide +kernel
theorem d_Mo_part_35 : decode m_Mo_part.2.1 35 = .ok (.iload_n 2, 1) := by decide +kernel
theorem d_Mo_part_36 : decode m_Mo_part.2.1 36 = .ok (.bipush 10, 2) := by decide +kernel
theorem d_Mo_part_38 : decode m_Mo_part.2.1 38 = .ok (.if_icmp .lt 22, 3) := by decide +kernel
theorem d_Mo_part_41 : decode m_Mo_part.2.1 41 = .ok (.aload_n 0, 1) := by decide +kernel
theorem d_Mo_part_42 : decode m_Mo_part.2.1 42 = .ok (.iload_n 2, 1) := by decide +kernel
theorem d_Mo_part_43 : decode m_Mo_part.2.1 43 = .ok (.bipush 10, 2) := by decide +kernel
theorem d_Mo_part_45 : decode m_Mo_part.2.1 45 = .ok (.isub, 1) := by decide +kernel
theorem d_Mo_part_46 : decode m_Mo_part.2.1 46 = .ok (.iload_n 1, 1) := by decide +kernel
theorem d_Mo_part_47 : decode m_Mo_part.2.1 47 = .ok (.bipush 10, 2) := by decide +kernel
theorem d_Mo_part_49 : decode m_Mo_part.2.1 49 = .ok (.isub, 1) := by decide +kernel
theorem k_Mo_part_136 : jl_cv m_Mo_part m_Mo_above 136 2 = true := by decide +kernel
theorem d_Mo_part_50 : decode m_Mo_part.2.1 50 = .ok (.invokevirtual 136, 3) := by decide +kernel
theorem d_Mo_part_53 : decode m_Mo_part.2.1 53 = .ok (.ifCond .eq 7, 3) := by decide +kernel
theorem d_Mo_part_56 : decode m_Mo_part.2.1 56 = .ok (.iconst 1, 1) := by decide +kernel
theorem d_Mo_part_57 : decode m_Mo_part.2.1 57 = .ok (.goto 4, 3) := by decide +kernel
theorem d_Mo_part_12 : decode m_Mo_part.2.1 12 = .ok (.iload_n 2, 1) := by decide +kernel
theorem d_Mo_part_13 : decode m_Mo_part.2.1 13 = .ok (.iconst 1, 1) := by decide +kernel
theorem d_Mo_part_14 : decode m_Mo_part.2.1 14 = .ok (.if_icmp .eq 9, 3) := by decide +kernel
theorem d_Mo_part_17 : decode m_Mo_part.2.1 17 = .ok (.iload_n 2, 1) := by decide +kernel
theorem d_Mo_part_18 : decode m_Mo_part.2.1 18 = .ok (.bipush 10, 2) := by decide +kernel
theorem d_Mo_part_20 : decode m_Mo_part.2.1 20 = .ok (.if_icmp .lt 7, 3) := by decide +kernel
theorem d_Mo_part_27 : decode m_Mo_part.2.1 27 = .ok (.iconst 0, 1) := by decide +kernel
theorem d_Mo_part_28 : decode m_Mo_part.2.1 28 = .ok (.ireturn, 1) := by decide +kernel
theorem d_Mo_part_23 : decode m_Mo_part.2.1 23 = .ok (.iconst 1, 1) := by decide +kernel
theorem d_Mo_part_24 : decode m_Mo_part.2.1 24 = .ok (.goto 4, 3) := by decide +kernel
theorem d_Mo_part_5 : decode m_Mo_part.2.1 5 = .ok (.iconst 1, 1) := by decide +kernel
theorem d_Mo_part_6 : decode m_Mo_part.2.1 6 = .ok (.ireturn, 1) := by decide +kernel
theorem mo_part (hl : l.stackTraces = false) {x y : Option Nat} (hO : MoO σ fa vf wh wy hg dp md ov oh dn an) (hw : MoW σ tb pr ow ft hs) (hd : dsc pr) (hx : ob 16 x) (hy : ob 16 y) : jl_m l G m_Mo_part [.ref 22, .int (en x), .int (en y)] σ (.inl (some (.int (bi (part pr x y))))) (σ) := by
  obtain ⟨h23, h24, h25, h26, h27⟩ := id hw
  refine jl_of (as := [.ref 22, .int (en x), .int (en y)]) rfl (by decide) hl (jl_cc rfl (jl_cc rfl (jl_cc rfl jl_ca))) (Nat.le_of_ble_eq_true rfl) ?_
  show jl_W l G m_Mo_part (0, 0) 0 [some (.ref 22), some (.int (en x)), some (.int (en y))] [] (σ) (.inl (some (.int (bi (part pr x y))))) (σ)
  refine jr_iload_n d_Mo_part_0 rfl ?_
  refine jr_iload_n d_Mo_part_1 rfl ?_
  refine jr_icmp_ne 7 d_Mo_part_2 (by decide) (fun c1 => ?_) (fun c1 => ?_)
  · cases x with
    | none =>
      show jl_W l G m_Mo_part (0, 0) 7 [some (.ref 22), some (.int (-1)), some (.int (en y))] [] (σ) (.inl (some (.int (bi (part pr none y))))) (σ)
      refine jr_iload_n d_Mo_part_7 rfl ?_
      refine jr_iconst ((nI (2))) d_Mo_part_8 (by decide) ?_
      refine jr_icmp_ne 29 d_Mo_part_9 (by decide) (fun _ => ?_) (fun z => absurd z (fun q => en_m1ne (by omega) q.symm))
      refine jr_iload_n d_Mo_part_29 rfl ?_
      refine jr_bipush ((nI (10))) d_Mo_part_30 (by decide) ?_
      refine jr_icmp_lt 60 d_Mo_part_32 (by decide) (fun _ => ?_) (fun z => absurd (en_m1lt (by omega)) z)
      refine jr_iconst ((nI (0))) d_Mo_part_60 (by decide) ?_
      exact jr_zretE d_Mo_part_61 rfl (by decide) (by unfold part; rw [if_neg (fun q => c1 (by rw [q]))]; rfl) (rfl) (by decide) (by decide)
    | some a =>
      have ha := hx a rfl
      show jl_W l G m_Mo_part (0, 0) 7 [some (.ref 22), some (.int (nI a)), some (.int (en y))] [] (σ) (.inl (some (.int (bi (part pr (some a) y))))) (σ)
      refine jr_iload_n d_Mo_part_7 rfl ?_
      refine jr_iconst ((nI (2))) d_Mo_part_8 (by decide) ?_
      refine jr_icmp_neN 29 d_Mo_part_9 (by decide) (by omega) (by omega) (fun c2 => ?_) (fun c2 => ?_)
      · refine jr_iload_n d_Mo_part_29 rfl ?_
        refine jr_bipush ((nI (10))) d_Mo_part_30 (by decide) ?_
        refine jr_icmp_ltN 60 d_Mo_part_32 (by decide) (by omega) (by omega) (fun c3 => ?_) (fun c3 => ?_)
        · refine jr_iconst ((nI (0))) d_Mo_part_60 (by decide) ?_
          exact jr_zretE d_Mo_part_61 rfl (by decide) (by unfold part; rw [if_neg (fun q => c1 (by rw [q]))]; cases y with | none => rfl | some b => simp [bi, nI_0, c2, show ¬ 10 ≤ a by omega]) (rfl) (by decide) (by decide)
        · cases y with
          | none =>
            show jl_W l G m_Mo_part (0, 0) 35 [some (.ref 22), some (.int (nI a)), some (.int (-1))] [] (σ) (.inl (some (.int (bi (part pr (some a) none))))) (σ)
            refine jr_iload_n d_Mo_part_35 rfl ?_
            refine jr_bipush ((nI (10))) d_Mo_part_36 (by decide) ?_
            refine jr_icmp_lt 60 d_Mo_part_38 (by decide) (fun _ => ?_) (fun z => absurd (en_m1lt (by omega)) z)
            refine jr_iconst ((nI (0))) d_Mo_part_60 (by decide) ?_
            exact jr_zretE d_Mo_part_61 rfl (by decide) (by unfold part; rw [if_neg (fun q => c1 (by rw [q]))]; rfl) (rfl) (by decide) (by decide)
          | some b =>
            have hb := hy b rfl
            show jl_W l G m_Mo_part (0, 0) 35 [some (.ref 22), some (.int (nI a)), some (.int (nI b))] [] (σ) (.inl (some (.int (bi (part pr (some a) (some b)))))) (σ)
            refine jr_iload_n d_Mo_part_35 rfl ?_
            refine jr_bipush ((nI (10))) d_Mo_part_36 (by decide) ?_
            refine jr_icmp_ltN 60 d_Mo_part_38 (by decide) (by omega) (by omega) (fun c4 => ?_) (fun c4 => ?_)
            · refine jr_iconst ((nI (0))) d_Mo_part_60 (by decide) ?_
              exact jr_zretE d_Mo_part_61 rfl (by decide) (by unfold part; rw [if_neg (fun q => c1 (by rw [q]))]; simp [bi, nI_0, nI_one, show a ≠ 2 by omega, show 10 ≤ a by omega, show ¬ 10 ≤ b by omega]) (rfl) (by decide) (by decide)
            · refine jr_aload_n d_Mo_part_41 rfl ?_
              refine jr_iload_n d_Mo_part_42 rfl ?_
              refine jr_bipush ((nI (10))) d_Mo_part_43 (by decide) ?_
              refine jr_isubN d_Mo_part_45 (by omega) ?_
              refine jr_iload_n d_Mo_part_46 rfl ?_
              refine jr_bipush ((nI (10))) d_Mo_part_47 (by decide) ?_
              refine jr_isubN d_Mo_part_49 (by omega) ?_
              refine jr_callV (As := [.int (nI ((b) - (10))), .int (nI ((a) - (10)))]) d_Mo_part_50 k_Mo_part_136 hO rfl rfl rfl (Nat.le_of_ble_eq_true rfl) (by decide) (by decide) (mo_above (x := some (a - 10)) hl hO hw (by omega) hd (fun z hz => by cases hz; omega)) ?_
              show jl_W l G m_Mo_part (0, 0) 53 [some (.ref 22), some (.int (nI a)), some (.int (nI b))] [.int (bi (ab pr (b - 10) (some (a - 10))))] (σ) (.inl (some (.int (bi (part pr (some a) (some b)))))) (σ)
              refine jr_if_eq 60 d_Mo_part_53 (by decide) (fun c5 => ?_) (fun c5 => ?_)
              · refine jr_iconst ((nI (0))) d_Mo_part_60 (by decide) ?_
                exact jr_zretE d_Mo_part_61 rfl (by decide) (by unfold part; rw [if_neg (fun q => c1 (by rw [q]))]; simp [bi, nI_0, nI_one, show a ≠ 2 by omega, show 10 ≤ a by omega, show 10 ≤ b by omega, bi_0.mp c5]) (rfl) (by decide) (by decide)
              · refine jr_iconst ((nI (1))) d_Mo_part_56 (by decide) ?_
                refine jr_goto 61 d_Mo_part_57 (by decide) ?_
                exact jr_zretE d_Mo_part_61 rfl (by decide) (by unfold part; rw [if_neg (fun q => c1 (by rw [q]))]; simp [bi, nI_0, nI_one, show a ≠ 2 by omega, show 10 ≤ a by omega, show 10 ≤ b by omega, bi_nf c5]) (rfl) (by decide) (by decide)
      · cases y with
        | none =>
          show jl_W l G m_Mo_part (0, 0) 12 [some (.ref 22), some (.int (nI a)), some (.int (-1))] [] (σ) (.inl (some (.int (bi (part pr (some a) none))))) (σ)
          refine jr_iload_n d_Mo_part_12 rfl ?_
          refine jr_iconst ((nI (1))) d_Mo_part_13 (by decide) ?_
          refine jr_icmp_eq 23 d_Mo_part_14 (by decide) (fun z => absurd z (fun q => en_m1ne (by omega) q.symm)) (fun _ => ?_)
          refine jr_iload_n d_Mo_part_17 rfl ?_
          refine jr_bipush ((nI (10))) d_Mo_part_18 (by decide) ?_
          refine jr_icmp_lt 27 d_Mo_part_20 (by decide) (fun _ => ?_) (fun z => absurd (en_m1lt (by omega)) z)
          refine jr_iconst ((nI (0))) d_Mo_part_27 (by decide) ?_
          exact jr_zretE d_Mo_part_28 rfl (by decide) (by unfold part; rw [if_neg (fun q => c1 (by rw [q]))]; rfl) (rfl) (by decide) (by decide)
        | some b =>
          have hb := hy b rfl
          show jl_W l G m_Mo_part (0, 0) 12 [some (.ref 22), some (.int (nI a)), some (.int (nI b))] [] (σ) (.inl (some (.int (bi (part pr (some a) (some b)))))) (σ)
          refine jr_iload_n d_Mo_part_12 rfl ?_
          refine jr_iconst ((nI (1))) d_Mo_part_13 (by decide) ?_
          refine jr_icmp_eqN 23 d_Mo_part_14 (by decide) (by omega) (by omega) (fun c6 => ?_) (fun c6 => ?_)
          · refine jr_iconst ((nI (1))) d_Mo_part_23 (by decide) ?_
            refine jr_goto 28 d_Mo_part_24 (by decide) ?_
            exact jr_zretE d_Mo_part_28 rfl (by decide) (by unfold part; rw [if_neg (fun q => c1 (by rw [q]))]; simp [bi, nI_0, nI_one, show a = 2 by omega, show b = 1 by omega]) (rfl) (by decide) (by decide)
          · refine jr_iload_n d_Mo_part_17 rfl ?_
            refine jr_bipush ((nI (10))) d_Mo_part_18 (by decide) ?_
            refine jr_icmp_ltN 27 d_Mo_part_20 (by decide) (by omega) (by omega) (fun c7 => ?_) (fun c7 => ?_)
            · refine jr_iconst ((nI (0))) d_Mo_part_27 (by decide) ?_
              exact jr_zretE d_Mo_part_28 rfl (by decide) (by unfold part; rw [if_neg (fun q => c1 (by rw [q]))]; simp [bi, nI_0, nI_one, show a = 2 by omega, show b ≠ 1 by omega, show ¬ 10 ≤ b by omega]) (rfl) (by decide) (by decide)
            · refine jr_iconst ((nI (1))) d_Mo_part_23 (by decide) ?_
              refine jr_goto 28 d_Mo_part_24 (by decide) ?_
              exact jr_zretE d_Mo_part_28 rfl (by decide) (by unfold part; rw [if_neg (fun q => c1 (by rw [q]))]; simp [bi, nI_0, nI_one, show a = 2 by omega, show b ≠ 1 by omega, show 10 ≤ b by omega]) (rfl) (by decide) (by decide)
  · refine jr_iconst ((nI (1))) d_Mo_part_5 (by decide) ?_
    exact jr_zretE d_Mo_part_6 rfl (by decide) (by unfold part; rw [if_pos ((en_inj (ob_w hx (by decide)) (ob_w hy (by decide))).mp c1)]; rfl) (rfl) (by decide) (by decide)
theorem d_Mo_join_41 : decode m_Mo_join.2.1 41 = .ok (.iload_n 3, 1) := by decide +kernel
theorem d_Mo_join_42 : decode m_Mo_join.2.1 42 = .ok (.ifCond .lt 30, 3) := by decide +kernel
theorem d_Mo_join_72 : decode m_Mo_join.2.1 72 = .ok (.iconst (-1), 1) := by decide +kernel
theorem d_Mo_join_73 : decode m_Mo_join.2.1 73 = .ok (.ireturn, 1) := by decide +kernel
theorem d_Mo_join_45 : decode m_Mo_join.2.1 45 = .ok (.aload_n 0, 1) := by decide +kernel
theorem d_Mo_join_46 : decode m_Mo_join.2.1 46 = .ok (.iload_n 3, 1) := by decide +kernel
theorem d_Mo_join_47 : decode m_Mo_join.2.1 47 = .ok (.iload_n 2, 1) := by decide +kernel
theorem d_Mo_join_48 : decode m_Mo_join.2.1 48 = .ok (.bipush 10, 2) := by decide +kernel
theorem d_Mo_join_50 : decode m_Mo_join.2.1 50 = .ok (.isub, 1) := by decide +kernel
theorem k_Mo_join_136 : jl_cv m_Mo_join m_Mo_above 136 2 = true := by decide +kernel
theorem d_Mo_join_51 : decode m_Mo_join.2.1 51 = .ok (.invokevirtual 136, 3) := by decide +kernel
theorem d_Mo_join_54 : decode m_Mo_join.2.1 54 = .ok (.ifCond .eq 8, 3) := by decide +kernel
theorem d_Mo_join_62 : decode m_Mo_join.2.1 62 = .ok (.aload_n 0, 1) := by decide +kernel
theorem f_Mo_join_13 : jl_fd m_Mo_join 13 7 2 = true := by decide +kernel
theorem d_Mo_join_63 : decode m_Mo_join.2.1 63 = .ok (.getfield 13, 3) := by decide +kernel
theorem d_Mo_join_66 : decode m_Mo_join.2.1 66 = .ok (.iload_n 3, 1) := by decide +kernel
theorem d_Mo_join_67 : decode m_Mo_join.2.1 67 = .ok (.iaload, 1) := by decide +kernel
theorem d_Mo_join_68 : decode m_Mo_join.2.1 68 = .ok (.istore_n 3, 1) := by decide +kernel
theorem d_Mo_join_69 : decode m_Mo_join.2.1 69 = .ok (.goto (-28), 3) := by decide +kernel
theorem d_Mo_join_57 : decode m_Mo_join.2.1 57 = .ok (.bipush 10, 2) := by decide +kernel
theorem d_Mo_join_59 : decode m_Mo_join.2.1 59 = .ok (.iload_n 3, 1) := by decide +kernel
theorem d_Mo_join_60 : decode m_Mo_join.2.1 60 = .ok (.iadd, 1) := by decide +kernel
theorem d_Mo_join_61 : decode m_Mo_join.2.1 61 = .ok (.ireturn, 1) := by decide +kernel
theorem mo_join_loop (hl : l.stackTraces = false) {a b : Nat} (hO : MoO σ fa vf wh wy hg dp md ov oh dn an) (hw : MoW σ tb pr ow ft hs) (hd : dsc pr) (hb : b < 16) (hb2 : 10 ≤ b) : ∀ (nn : Nat) (i : Nat) (x : Option Nat) (u : Nat × Nat), 6 - i < nn → i ≤ 6 → (∀ c, x = some c → c + i ≤ 5) → jl_W l G m_Mo_join (0, 0) 41 [some (.ref 22), some (.int (nI a)), some (.int (nI b)), some (.int (en x))] [] σ (.inl (some (.int (en (joinUp pr (b - 10) (6 - i) x))))) (σ) := by
  obtain ⟨h23, h24, h25, h26, h27⟩ := id hw
  intro nn
  induction nn with
  | zero => intro i x u hnn; exact absurd hnn (Nat.not_lt_zero _)
  | succ nn ihn =>
    intro i x u hnn hi hx
    refine jr_iload_n d_Mo_join_41 rfl ?_
    cases x with
    | none =>
      show jl_W l G m_Mo_join (0, 0) 42 [some (.ref 22), some (.int (nI a)), some (.int (nI b)), some (.int (-1))] [.int (-1)] (σ) (.inl (some (.int (en (joinUp pr (b - 10) (6 - i) none))))) (σ)
      refine jr_if_lt 72 d_Mo_join_42 (by decide) (fun _ => ?_) (fun z => absurd (by decide) z)
      refine jr_iconst ((-1)) d_Mo_join_72 (by decide) ?_
      exact jr_iretE d_Mo_join_73 rfl (by cases hq : 6 - i <;> rfl) (rfl) (by decide) (by decide)
    | some c =>
      have hc := hx c rfl
      show jl_W l G m_Mo_join (0, 0) 42 [some (.ref 22), some (.int (nI a)), some (.int (nI b)), some (.int (nI c))] [.int (nI c)] (σ) (.inl (some (.int (en (joinUp pr (b - 10) (6 - i) (some c)))))) (σ)
      refine jr_if_ltN 72 d_Mo_join_42 (by decide) (by omega) (fun c1 => ?_) (fun c1 => ?_)
      · refine jr_iconst ((-1)) d_Mo_join_72 (by decide) ?_
        exact jr_iretE d_Mo_join_73 rfl (absurd c1 (Nat.not_lt_zero _)) (rfl) (by decide) (by decide)
      · refine jr_aload_n d_Mo_join_45 rfl ?_
        refine jr_iload_n d_Mo_join_46 rfl ?_
        refine jr_iload_n d_Mo_join_47 rfl ?_
        refine jr_bipush ((nI (10))) d_Mo_join_48 (by decide) ?_
        refine jr_isubN d_Mo_join_50 (by omega) ?_
        refine jr_callV (As := [.int (nI c), .int (nI ((b) - (10)))]) d_Mo_join_51 k_Mo_join_136 hO rfl rfl rfl (Nat.le_of_ble_eq_true rfl) (by decide) (by decide) (mo_above (x := some (b - 10)) hl hO hw (by omega) hd (fun z hz => by cases hz; omega)) ?_
        show jl_W l G m_Mo_join (0, 0) 54 [some (.ref 22), some (.int (nI a)), some (.int (nI b)), some (.int (nI c))] [.int (bi (ab pr c (some (b - 10))))] (σ) (.inl (some (.int (en (joinUp pr (b - 10) (6 - i) (some c)))))) (σ)
        refine jr_if_eq 62 d_Mo_join_54 (by decide) (fun c2 => ?_) (fun c2 => ?_)
        · refine jr_aload_n d_Mo_join_62 rfl ?_
          refine jr_getf d_Mo_join_63 f_Mo_join_13 hO rfl ?_
          refine jr_iload_n d_Mo_join_66 rfl ?_
          refine jr_ialdN d_Mo_join_67 h24 (by omega) (by omega) ?_
          refine jr_istore_n d_Mo_join_68 (by decide) ?_
          show jl_W l G m_Mo_join (0, 0) 69 [some (.ref 22), some (.int (nI a)), some (.int (nI b)), some (.int (en (pr (c))))] [] (σ) (.inl (some (.int (en (joinUp pr (b - 10) (6 - i) (some c)))))) (σ)
          refine jr_goto 41 d_Mo_join_69 (by decide) ?_
          exact jl_oeq (by rw [show 6 - i = (6 - (i + 1)) + 1 by omega]; simp only [joinUp]; rw [bi_0.mp c2]; rfl) (ihn (i + 1) (pr c) (0, 0) (by omega) (by omega) (fun d hd2 => by have := hd c (by omega) d hd2; omega))
        · refine jr_bipush ((nI (10))) d_Mo_join_57 (by decide) ?_
          refine jr_iload_n d_Mo_join_59 rfl ?_
          refine jr_iaddN d_Mo_join_60 ?_
          exact jr_iretE d_Mo_join_61 rfl (by rw [show 6 - i = (6 - (i + 1)) + 1 by omega]; simp only [joinUp]; rw [if_pos (bi_nf c2)]; rfl) (rfl) (by decide) (by decide)
theorem joinM {pr : Nat → Option Nat} {a b : Nat} (hd : dsc pr) (ha : 10 ≤ a) (ha2 : a < 16) (hb : 10 ≤ b) (h : part pr (some b) (some a) = false) : joinUp pr (b - 10) 6 (pr (a - 10)) = joinUp pr (b - 10) 6 (some (a - 10)) := by
  have h1 : ab pr (a - 10) (some (b - 10)) = false := by
    unfold part at h
    by_cases e : (some b : Option Nat) = some a
    · rw [if_pos e] at h; cases h
    · rw [if_neg e] at h
      simpa [show b ≠ 2 by omega, hb, ha] using h
  have key : ∀ n x, (∀ c, x = some c → c < n ∧ c < 6) → joinUp pr (b - 10) (n + 1) x = joinUp pr (b - 10) n x := by
    intro n
    induction n with
    | zero =>
      intro x hx
      cases x with
      | none => rfl
      | some c => exact absurd (hx c rfl).1 (Nat.not_lt_zero _)
    | succ n ih =>
      intro x hx
      cases x with
      | none => rfl
      | some c =>
        obtain ⟨q1, q2⟩ := hx c rfl
        rw [joinUp, joinUp, ih (pr c) (fun d hd2 => by have := hd c q2 d hd2; omega)]
  rw [key 5 (pr (a - 10)) (fun d hd2 => by have := hd (a - 10) (by omega) d hd2; omega)]
  simp only [joinUp]
  rw [h1]
  rfl
theorem d_Mo_join_0 : decode m_Mo_join.2.1 0 = .ok (.aload_n 0, 1) := by decide +kernel
theorem d_Mo_join_1 : decode m_Mo_join.2.1 1 = .ok (.iload_n 1, 1) := by decide +kernel
theorem d_Mo_join_2 : decode m_Mo_join.2.1 2 = .ok (.iload_n 2, 1) := by decide +kernel
theorem k_Mo_join_142 : jl_cv m_Mo_join m_Mo_part 142 2 = true := by decide +kernel
theorem d_Mo_join_3 : decode m_Mo_join.2.1 3 = .ok (.invokevirtual 142, 3) := by decide +kernel
theorem d_Mo_join_6 : decode m_Mo_join.2.1 6 = .ok (.ifCond .eq 5, 3) := by decide +kernel
theorem d_Mo_join_11 : decode m_Mo_join.2.1 11 = .ok (.aload_n 0, 1) := by decide +kernel
theorem d_Mo_join_12 : decode m_Mo_join.2.1 12 = .ok (.iload_n 2, 1) := by decide +kernel
theorem d_Mo_join_13 : decode m_Mo_join.2.1 13 = .ok (.iload_n 1, 1) := by decide +kernel
theorem d_Mo_join_14 : decode m_Mo_join.2.1 14 = .ok (.invokevirtual 142, 3) := by decide +kernel
theorem d_Mo_join_17 : decode m_Mo_join.2.1 17 = .ok (.ifCond .eq 5, 3) := by decide +kernel
theorem d_Mo_join_22 : decode m_Mo_join.2.1 22 = .ok (.iload_n 1, 1) := by decide +kernel
theorem d_Mo_join_23 : decode m_Mo_join.2.1 23 = .ok (.bipush 10, 2) := by decide +kernel
theorem d_Mo_join_25 : decode m_Mo_join.2.1 25 = .ok (.if_icmp .lt 9, 3) := by decide +kernel
theorem d_Mo_join_34 : decode m_Mo_join.2.1 34 = .ok (.iconst (-1), 1) := by decide +kernel
theorem d_Mo_join_35 : decode m_Mo_join.2.1 35 = .ok (.ireturn, 1) := by decide +kernel
theorem d_Mo_join_28 : decode m_Mo_join.2.1 28 = .ok (.iload_n 2, 1) := by decide +kernel
theorem d_Mo_join_29 : decode m_Mo_join.2.1 29 = .ok (.bipush 10, 2) := by decide +kernel
theorem d_Mo_join_31 : decode m_Mo_join.2.1 31 = .ok (.if_icmp .ge 5, 3) := by decide +kernel
theorem d_Mo_join_36 : decode m_Mo_join.2.1 36 = .ok (.iload_n 1, 1) := by decide +kernel
theorem d_Mo_join_37 : decode m_Mo_join.2.1 37 = .ok (.bipush 10, 2) := by decide +kernel
theorem d_Mo_join_39 : decode m_Mo_join.2.1 39 = .ok (.isub, 1) := by decide +kernel
theorem d_Mo_join_40 : decode m_Mo_join.2.1 40 = .ok (.istore_n 3, 1) := by decide +kernel
theorem d_Mo_join_20 : decode m_Mo_join.2.1 20 = .ok (.iload_n 1, 1) := by decide +kernel
theorem d_Mo_join_21 : decode m_Mo_join.2.1 21 = .ok (.ireturn, 1) := by decide +kernel
theorem d_Mo_join_9 : decode m_Mo_join.2.1 9 = .ok (.iload_n 2, 1) := by decide +kernel
theorem d_Mo_join_10 : decode m_Mo_join.2.1 10 = .ok (.ireturn, 1) := by decide +kernel
theorem mo_join (hl : l.stackTraces = false) {x y : Option Nat} (hO : MoO σ fa vf wh wy hg dp md ov oh dn an) (hw : MoW σ tb pr ow ft hs) (hd : dsc pr) (hx : ob 16 x) (hy : ob 16 y) : jl_m l G m_Mo_join [.ref 22, .int (en x), .int (en y)] σ (.inl (some (.int (en (join pr x y))))) (σ) := by
  obtain ⟨h23, h24, h25, h26, h27⟩ := id hw
  refine jl_of (as := [.ref 22, .int (en x), .int (en y)]) rfl (by decide) hl (jl_cc rfl (jl_cc rfl (jl_cc rfl jl_ca))) (Nat.le_of_ble_eq_true rfl) ?_
  show jl_W l G m_Mo_join (0, 0) 0 [some (.ref 22), some (.int (en x)), some (.int (en y)), none] [] (σ) (.inl (some (.int (en (join pr x y))))) (σ)
  refine jr_aload_n d_Mo_join_0 rfl ?_
  refine jr_iload_n d_Mo_join_1 rfl ?_
  refine jr_iload_n d_Mo_join_2 rfl ?_
  refine jr_callV (As := [.int (en x), .int (en y)]) d_Mo_join_3 k_Mo_join_142 hO rfl rfl rfl (Nat.le_of_ble_eq_true rfl) (by decide) (by decide) (mo_part hl hO hw hd hx hy) ?_
  show jl_W l G m_Mo_join (0, 0) 6 [some (.ref 22), some (.int (en x)), some (.int (en y)), none] [.int (bi (part pr x y))] (σ) (.inl (some (.int (en (join pr x y))))) (σ)
  refine jr_if_eq 11 d_Mo_join_6 (by decide) (fun c1 => ?_) (fun c1 => ?_)
  · refine jr_aload_n d_Mo_join_11 rfl ?_
    refine jr_iload_n d_Mo_join_12 rfl ?_
    refine jr_iload_n d_Mo_join_13 rfl ?_
    refine jr_callV (As := [.int (en y), .int (en x)]) d_Mo_join_14 k_Mo_join_142 hO rfl rfl rfl (Nat.le_of_ble_eq_true rfl) (by decide) (by decide) (mo_part hl hO hw hd hy hx) ?_
    show jl_W l G m_Mo_join (0, 0) 17 [some (.ref 22), some (.int (en x)), some (.int (en y)), none] [.int (bi (part pr y x))] (σ) (.inl (some (.int (en (join pr x y))))) (σ)
    refine jr_if_eq 22 d_Mo_join_17 (by decide) (fun c2 => ?_) (fun c2 => ?_)
    · cases x with
      | none =>
        show jl_W l G m_Mo_join (0, 0) 22 [some (.ref 22), some (.int (-1)), some (.int (en y)), none] [] (σ) (.inl (some (.int (en (join pr none y))))) (σ)
        refine jr_iload_n d_Mo_join_22 rfl ?_
        refine jr_bipush ((nI (10))) d_Mo_join_23 (by decide) ?_
        refine jr_icmp_lt 34 d_Mo_join_25 (by decide) (fun _ => ?_) (fun z => absurd (en_m1lt (by omega)) z)
        refine jr_iconst ((-1)) d_Mo_join_34 (by decide) ?_
        exact jr_iretE d_Mo_join_35 rfl (by unfold join; rw [if_neg (by rw [bi_0.mp c1]; decide), if_neg (by rw [bi_0.mp c2]; decide)]; rfl) (rfl) (by decide) (by decide)
      | some a =>
        have ha := hx a rfl
        show jl_W l G m_Mo_join (0, 0) 22 [some (.ref 22), some (.int (nI a)), some (.int (en y)), none] [] (σ) (.inl (some (.int (en (join pr (some a) y))))) (σ)
        refine jr_iload_n d_Mo_join_22 rfl ?_
        refine jr_bipush ((nI (10))) d_Mo_join_23 (by decide) ?_
        refine jr_icmp_ltN 34 d_Mo_join_25 (by decide) (by omega) (by omega) (fun c3 => ?_) (fun c3 => ?_)
        · refine jr_iconst ((-1)) d_Mo_join_34 (by decide) ?_
          exact jr_iretE d_Mo_join_35 rfl (by unfold join; rw [if_neg (by rw [bi_0.mp c1]; decide), if_neg (by rw [bi_0.mp c2]; decide)]; cases y with | none => rfl | some b => simp only [if_pos (show a < 10 by omega)]; rfl) (rfl) (by decide) (by decide)
        · cases y with
          | none =>
            show jl_W l G m_Mo_join (0, 0) 28 [some (.ref 22), some (.int (nI a)), some (.int (-1)), none] [] (σ) (.inl (some (.int (en (join pr (some a) none))))) (σ)
            refine jr_iload_n d_Mo_join_28 rfl ?_
            refine jr_bipush ((nI (10))) d_Mo_join_29 (by decide) ?_
            refine jr_icmp_ge 36 d_Mo_join_31 (by decide) (fun z => absurd z (Int32.not_le.mpr (en_m1lt (by omega)))) (fun _ => ?_)
            refine jr_iconst ((-1)) d_Mo_join_34 (by decide) ?_
            exact jr_iretE d_Mo_join_35 rfl (by unfold join; rw [if_neg (by rw [bi_0.mp c1]; decide), if_neg (by rw [bi_0.mp c2]; decide)]; rfl) (rfl) (by decide) (by decide)
          | some b =>
            have hb := hy b rfl
            show jl_W l G m_Mo_join (0, 0) 28 [some (.ref 22), some (.int (nI a)), some (.int (nI b)), none] [] (σ) (.inl (some (.int (en (join pr (some a) (some b)))))) (σ)
            refine jr_iload_n d_Mo_join_28 rfl ?_
            refine jr_bipush ((nI (10))) d_Mo_join_29 (by decide) ?_
            refine jr_icmp_geN 36 d_Mo_join_31 (by decide) (by omega) (by omega) (fun c4 => ?_) (fun c4 => ?_)
            · refine jr_iload_n d_Mo_join_36 rfl ?_
              refine jr_bipush ((nI (10))) d_Mo_join_37 (by decide) ?_
              refine jr_isubN d_Mo_join_39 (by omega) ?_
              refine jr_istore_n d_Mo_join_40 (by decide) ?_
              show jl_W l G m_Mo_join (0, 0) 41 [some (.ref 22), some (.int (nI a)), some (.int (nI b)), some (.int (nI ((a) - (10))))] [] (σ) (.inl (some (.int (en (join pr (some a) (some b)))))) (σ)
              exact jl_oeq (by unfold join; rw [if_neg (by rw [bi_0.mp c1]; decide), if_neg (by rw [bi_0.mp c2]; decide)]; simp only [if_neg (show ¬ a < 10 by omega), if_neg (show ¬ b < 10 by omega)]; rw [joinM hd (by omega) (by omega) (by omega) (bi_0.mp c2)]) (mo_join_loop hl hO hw hd (by omega) (by omega) 7 0 (some (a - 10)) (0, 0) (by omega) (by omega) (fun c hc => by cases hc; omega))
            · refine jr_iconst ((-1)) d_Mo_join_34 (by decide) ?_
              exact jr_iretE d_Mo_join_35 rfl (by unfold join; rw [if_neg (by rw [bi_0.mp c1]; decide), if_neg (by rw [bi_0.mp c2]; decide)]; simp only [if_neg (show ¬ a < 10 by omega), if_pos (show b < 10 by omega)]; rfl) (rfl) (by decide) (by decide)
    · refine jr_iload_n d_Mo_join_20 rfl ?_
      exact jr_iretE d_Mo_join_21 rfl (by unfold join; rw [if_neg (by rw [bi_0.mp c1]; decide), if_pos (bi_nf c2)]) (rfl) (by decide) (by decide)
  · refine jr_iload_n d_Mo_join_9 rfl ?_
    exact jr_iretE d_Mo_join_10 rfl (by unfold join; rw [if_pos (bi_nf c1)]) (rfl) (by decide) (by decide)
theorem d_Mo_methodOf_2 : decode m_Mo_methodOf.2.1 2 = .ok (.iload_n 3, 1) := by decide +kernel
theorem d_Mo_methodOf_3 : decode m_Mo_methodOf.2.1 3 = .ok (.ifCond .lt 32, 3) := by decide +kernel
theorem d_Mo_methodOf_35 : decode m_Mo_methodOf.2.1 35 = .ok (.iconst (-1), 1) := by decide +kernel
theorem d_Mo_methodOf_36 : decode m_Mo_methodOf.2.1 36 = .ok (.ireturn, 1) := by decide +kernel
theorem d_Mo_methodOf_6 : decode m_Mo_methodOf.2.1 6 = .ok (.aload_n 0, 1) := by decide +kernel
theorem f_Mo_methodOf_23 : jl_fd m_Mo_methodOf 23 7 5 = true := by decide +kernel
theorem d_Mo_methodOf_7 : decode m_Mo_methodOf.2.1 7 = .ok (.getfield 23, 3) := by decide +kernel
theorem d_Mo_methodOf_10 : decode m_Mo_methodOf.2.1 10 = .ok (.iconst 4, 1) := by decide +kernel
theorem d_Mo_methodOf_11 : decode m_Mo_methodOf.2.1 11 = .ok (.iload_n 3, 1) := by decide +kernel
theorem d_Mo_methodOf_12 : decode m_Mo_methodOf.2.1 12 = .ok (.imul, 1) := by decide +kernel
theorem d_Mo_methodOf_13 : decode m_Mo_methodOf.2.1 13 = .ok (.iload_n 2, 1) := by decide +kernel
theorem d_Mo_methodOf_14 : decode m_Mo_methodOf.2.1 14 = .ok (.iadd, 1) := by decide +kernel
theorem d_Mo_methodOf_15 : decode m_Mo_methodOf.2.1 15 = .ok (.baload, 1) := by decide +kernel
theorem d_Mo_methodOf_16 : decode m_Mo_methodOf.2.1 16 = .ok (.ifCond .eq 9, 3) := by decide +kernel
theorem d_Mo_methodOf_25 : decode m_Mo_methodOf.2.1 25 = .ok (.aload_n 0, 1) := by decide +kernel
theorem f_Mo_methodOf_13 : jl_fd m_Mo_methodOf 13 7 2 = true := by decide +kernel
theorem d_Mo_methodOf_26 : decode m_Mo_methodOf.2.1 26 = .ok (.getfield 13, 3) := by decide +kernel
theorem d_Mo_methodOf_29 : decode m_Mo_methodOf.2.1 29 = .ok (.iload_n 3, 1) := by decide +kernel
theorem d_Mo_methodOf_30 : decode m_Mo_methodOf.2.1 30 = .ok (.iaload, 1) := by decide +kernel
theorem d_Mo_methodOf_31 : decode m_Mo_methodOf.2.1 31 = .ok (.istore_n 3, 1) := by decide +kernel
theorem d_Mo_methodOf_32 : decode m_Mo_methodOf.2.1 32 = .ok (.goto (-30), 3) := by decide +kernel
theorem d_Mo_methodOf_19 : decode m_Mo_methodOf.2.1 19 = .ok (.iconst 4, 1) := by decide +kernel
theorem d_Mo_methodOf_20 : decode m_Mo_methodOf.2.1 20 = .ok (.iload_n 3, 1) := by decide +kernel
theorem d_Mo_methodOf_21 : decode m_Mo_methodOf.2.1 21 = .ok (.imul, 1) := by decide +kernel
theorem d_Mo_methodOf_22 : decode m_Mo_methodOf.2.1 22 = .ok (.iload_n 2, 1) := by decide +kernel
theorem d_Mo_methodOf_23 : decode m_Mo_methodOf.2.1 23 = .ok (.iadd, 1) := by decide +kernel
theorem d_Mo_methodOf_24 : decode m_Mo_methodOf.2.1 24 = .ok (.ireturn, 1) := by decide +kernel
theorem mo_methodOf_loop (hl : l.stackTraces = false) {x0 : Option Nat} {sl : Nat} (hO : MoO σ fa vf wh wy hg dp md ov oh dn an) (hw : MoW σ tb pr ow ft hs) (hsl : sl < 4) (hd : dsc pr) : ∀ (nn : Nat) (i : Nat) (x : Option Nat), 6 - i < nn → i ≤ 6 → (∀ c, x = some c → c + i ≤ 5) → jl_W l G m_Mo_methodOf (0, 0) 2 [some (.ref 22), some (.int (en x0)), some (.int (nI sl)), some (.int (en x))] [] σ (.inl (some (.int (en (mmo pr hs sl (6 - i) x))))) (σ) := by
  obtain ⟨h23, h24, h25, h26, h27⟩ := id hw
  intro nn
  induction nn with
  | zero => intro i x hnn; exact absurd hnn (Nat.not_lt_zero _)
  | succ nn ihn =>
    intro i x hnn hi hx
    refine jr_iload_n d_Mo_methodOf_2 rfl ?_
    cases x with
    | none =>
      show jl_W l G m_Mo_methodOf (0, 0) 3 [some (.ref 22), some (.int (en x0)), some (.int (nI sl)), some (.int (-1))] [.int (-1)] (σ) (.inl (some (.int (en (mmo pr hs sl (6 - i) none))))) (σ)
      refine jr_if_lt 35 d_Mo_methodOf_3 (by decide) (fun _ => ?_) (fun z => absurd (by decide) z)
      refine jr_iconst ((-1)) d_Mo_methodOf_35 (by decide) ?_
      exact jr_iretE d_Mo_methodOf_36 rfl (by cases hq : 6 - i <;> rfl) (rfl) (by decide) (by decide)
    | some c =>
      have hc := hx c rfl
      show jl_W l G m_Mo_methodOf (0, 0) 3 [some (.ref 22), some (.int (en x0)), some (.int (nI sl)), some (.int (nI c))] [.int (nI c)] (σ) (.inl (some (.int (en (mmo pr hs sl (6 - i) (some c)))))) (σ)
      refine jr_if_ltN 35 d_Mo_methodOf_3 (by decide) (by omega) (fun c1 => ?_) (fun c1 => ?_)
      · refine jr_iconst ((-1)) d_Mo_methodOf_35 (by decide) ?_
        exact jr_iretE d_Mo_methodOf_36 rfl (absurd c1 (Nat.not_lt_zero _)) (rfl) (by decide) (by decide)
      · refine jr_aload_n d_Mo_methodOf_6 rfl ?_
        refine jr_getf d_Mo_methodOf_7 f_Mo_methodOf_23 hO rfl ?_
        refine jr_iconst ((nI (4))) d_Mo_methodOf_10 (by decide) ?_
        refine jr_iload_n d_Mo_methodOf_11 rfl ?_
        refine jr_imulN d_Mo_methodOf_12 ?_
        refine jr_iload_n d_Mo_methodOf_13 rfl ?_
        refine jr_iaddN d_Mo_methodOf_14 ?_
        refine jr_baldN d_Mo_methodOf_15 h27 (by omega) (by omega) ?_
        refine jr_if_eq 25 d_Mo_methodOf_16 (by decide) (fun c2 => ?_) (fun c2 => ?_)
        · refine jr_aload_n d_Mo_methodOf_25 rfl ?_
          refine jr_getf d_Mo_methodOf_26 f_Mo_methodOf_13 hO rfl ?_
          refine jr_iload_n d_Mo_methodOf_29 rfl ?_
          refine jr_ialdN d_Mo_methodOf_30 h24 (by omega) (by omega) ?_
          refine jr_istore_n d_Mo_methodOf_31 (by decide) ?_
          show jl_W l G m_Mo_methodOf (0, 0) 32 [some (.ref 22), some (.int (en x0)), some (.int (nI sl)), some (.int (en (pr (c))))] [] (σ) (.inl (some (.int (en (mmo pr hs sl (6 - i) (some c)))))) (σ)
          refine jr_goto 2 d_Mo_methodOf_32 (by decide) ?_
          exact jl_oeq (by rw [show 6 - i = (6 - (i + 1)) + 1 by omega]; simp only [mmo]; rw [bi_0.mp c2]; rfl) (ihn (i + 1) (pr c) (by omega) (by omega) (fun d hd2 => by have := hd c (by omega) d hd2; omega))
        · refine jr_iconst ((nI (4))) d_Mo_methodOf_19 (by decide) ?_
          refine jr_iload_n d_Mo_methodOf_20 rfl ?_
          refine jr_imulN d_Mo_methodOf_21 ?_
          refine jr_iload_n d_Mo_methodOf_22 rfl ?_
          refine jr_iaddN d_Mo_methodOf_23 ?_
          exact jr_iretE d_Mo_methodOf_24 rfl (by rw [show 6 - i = (6 - (i + 1)) + 1 by omega]; simp only [mmo]; rw [if_pos (bi_nf c2)]; rfl) (rfl) (by decide) (by decide)
theorem d_Mo_methodOf_0 : decode m_Mo_methodOf.2.1 0 = .ok (.iload_n 1, 1) := by decide +kernel
theorem d_Mo_methodOf_1 : decode m_Mo_methodOf.2.1 1 = .ok (.istore_n 3, 1) := by decide +kernel
theorem mo_methodOf (hl : l.stackTraces = false) {x : Option Nat} {sl : Nat} (hO : MoO σ fa vf wh wy hg dp md ov oh dn an) (hw : MoW σ tb pr ow ft hs) (hsl : sl < 4) (hd : dsc pr) (hx : ob 6 x) : jl_m l G m_Mo_methodOf [.ref 22, .int (en x), .int (nI sl)] σ (.inl (some (.int (en (mmo pr hs sl 6 x))))) (σ) := by
  obtain ⟨h23, h24, h25, h26, h27⟩ := id hw
  refine jl_of (as := [.ref 22, .int (en x), .int (nI sl)]) rfl (by decide) hl (jl_cc rfl (jl_cc rfl (jl_cc rfl jl_ca))) (Nat.le_of_ble_eq_true rfl) ?_
  show jl_W l G m_Mo_methodOf (0, 0) 0 [some (.ref 22), some (.int (en x)), some (.int (nI sl)), none] [] (σ) (.inl (some (.int (en (mmo pr hs sl 6 x))))) (σ)
  refine jr_iload_n d_Mo_methodOf_0 rfl ?_
  refine jr_istore_n d_Mo_methodOf_1 (by decide) ?_
  show jl_W l G m_Mo_methodOf (0, 0) 2 [some (.ref 22), some (.int (en x)), some (.int (nI sl)), some (.int (en x))] [] (σ) (.inl (some (.int (en (mmo pr hs sl 6 x))))) (σ)
  exact mo_methodOf_loop hl hO hw hsl hd 7 0 x (by omega) (by omega) (fun c hc => by have := hx c hc; omega)
end JMp
