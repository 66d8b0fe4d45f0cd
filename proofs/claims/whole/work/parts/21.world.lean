/-! World, on (wip/gen/p21.py) -/
section JWq
variable {l : Launch} {G : jl_G} {σ : jl_S} {tb : Nat → Bool} {pr : Nat → Option Nat} {ow fi ft : Nat → Nat} {mt : Nat → Option Nat}
theorem d_Wo_join_49 : decode m_Wo_join.2.1 49 = .ok (.iload 4, 2) := by decide +kernel
theorem d_Wo_join_51 : decode m_Wo_join.2.1 51 = .ok (.bipush 6, 2) := by decide +kernel
theorem d_Wo_join_53 : decode m_Wo_join.2.1 53 = .ok (.if_icmp .ge 38, 3) := by decide +kernel
theorem d_Wo_join_91 : decode m_Wo_join.2.1 91 = .ok (.iconst (-1), 1) := by decide +kernel
theorem d_Wo_join_92 : decode m_Wo_join.2.1 92 = .ok (.ireturn, 1) := by decide +kernel
theorem d_Wo_join_56 : decode m_Wo_join.2.1 56 = .ok (.iload_n 3, 1) := by decide +kernel
theorem d_Wo_join_57 : decode m_Wo_join.2.1 57 = .ok (.iconst (-1), 1) := by decide +kernel
theorem d_Wo_join_58 : decode m_Wo_join.2.1 58 = .ok (.if_icmp .eq 33, 3) := by decide +kernel
theorem d_Wo_join_61 : decode m_Wo_join.2.1 61 = .ok (.aload_n 0, 1) := by decide +kernel
theorem d_Wo_join_62 : decode m_Wo_join.2.1 62 = .ok (.iload_n 3, 1) := by decide +kernel
theorem d_Wo_join_63 : decode m_Wo_join.2.1 63 = .ok (.iload_n 2, 1) := by decide +kernel
theorem d_Wo_join_64 : decode m_Wo_join.2.1 64 = .ok (.bipush 10, 2) := by decide +kernel
theorem d_Wo_join_66 : decode m_Wo_join.2.1 66 = .ok (.isub, 1) := by decide +kernel
theorem k_Wo_join_49 : jl_cv m_Wo_join m_Wo_isOrIsAbove 49 2 = true := by decide +kernel
theorem d_Wo_join_67 : decode m_Wo_join.2.1 67 = .ok (.invokevirtual 49, 3) := by decide +kernel
theorem d_Wo_join_70 : decode m_Wo_join.2.1 70 = .ok (.ifCond .eq 8, 3) := by decide +kernel
theorem d_Wo_join_78 : decode m_Wo_join.2.1 78 = .ok (.aload_n 0, 1) := by decide +kernel
theorem f_Wo_join_15 : jl_fd m_Wo_join 15 5 1 = true := by decide +kernel
theorem d_Wo_join_79 : decode m_Wo_join.2.1 79 = .ok (.getfield 15, 3) := by decide +kernel
theorem d_Wo_join_82 : decode m_Wo_join.2.1 82 = .ok (.iload_n 3, 1) := by decide +kernel
theorem d_Wo_join_83 : decode m_Wo_join.2.1 83 = .ok (.iaload, 1) := by decide +kernel
theorem d_Wo_join_84 : decode m_Wo_join.2.1 84 = .ok (.istore_n 3, 1) := by decide +kernel
theorem d_Wo_join_85 : decode m_Wo_join.2.1 85 = .ok (.iinc 4 1, 3) := by decide +kernel
theorem d_Wo_join_88 : decode m_Wo_join.2.1 88 = .ok (.goto (-39), 3) := by decide +kernel
theorem d_Wo_join_73 : decode m_Wo_join.2.1 73 = .ok (.bipush 10, 2) := by decide +kernel
theorem d_Wo_join_75 : decode m_Wo_join.2.1 75 = .ok (.iload_n 3, 1) := by decide +kernel
theorem d_Wo_join_76 : decode m_Wo_join.2.1 76 = .ok (.iadd, 1) := by decide +kernel
theorem d_Wo_join_77 : decode m_Wo_join.2.1 77 = .ok (.ireturn, 1) := by decide +kernel
theorem wo_join_loop (hl : l.stackTraces = false) {a b : Nat} (hw : WoAt σ tb pr ow fi ft mt) (hok : ∀ j, ob 6 (pr j)) (hb : b < 16) (hb2 : 10 ≤ b) : ∀ (nn : Nat) (i : Nat) (z : Option Nat), 6 - i < nn → i ≤ 6 → ob 6 z → jl_W l G m_Wo_join (0, 0) 49 [some (.ref 1), some (.int (nI a)), some (.int (nI b)), some (.int (en z)), some (.int (nI i))] [] σ (.inl (some (.int (en (joinUp pr (b - 10) (6 - i) z))))) (σ) := by
  obtain ⟨hW, h2, h3, h4, h5, h6, h7⟩ := id hw
  intro nn
  induction nn with
  | zero => intro i z hnn; exact absurd hnn (Nat.not_lt_zero _)
  | succ nn ihn =>
    intro i z hnn hi hz
    refine jr_iload d_Wo_join_49 rfl ?_
    refine jr_bipush ((nI (6))) d_Wo_join_51 (by decide) ?_
    refine jr_icmp_geN 91 d_Wo_join_53 (by decide) (by omega) (by omega) (fun c1 => ?_) (fun c1 => ?_)
    · refine jr_iconst ((-1)) d_Wo_join_91 (by decide) ?_
      exact jr_iretE d_Wo_join_92 rfl (by rw [show 6 - i = 0 by omega]; rfl) (rfl) (by decide) (by decide)
    · cases z with
      | none =>
        show jl_W l G m_Wo_join (0, 0) 56 [some (.ref 1), some (.int (nI a)), some (.int (nI b)), some (.int (-1)), some (.int (nI i))] [] (σ) (.inl (some (.int (en (joinUp pr (b - 10) (6 - i) none))))) (σ)
        refine jr_iload_n d_Wo_join_56 rfl ?_
        refine jr_iconst ((-1)) d_Wo_join_57 (by decide) ?_
        refine jr_icmp_eq 91 d_Wo_join_58 (by decide) (fun _ => ?_) (fun z => absurd (by decide) z)
        refine jr_iconst ((-1)) d_Wo_join_91 (by decide) ?_
        exact jr_iretE d_Wo_join_92 rfl (by rw [show 6 - i = (6 - (i + 1)) + 1 by omega]; rfl) (rfl) (by decide) (by decide)
      | some c =>
        have hc := hz c rfl
        show jl_W l G m_Wo_join (0, 0) 56 [some (.ref 1), some (.int (nI a)), some (.int (nI b)), some (.int (nI c)), some (.int (nI i))] [] (σ) (.inl (some (.int (en (joinUp pr (b - 10) (6 - i) (some c)))))) (σ)
        refine jr_iload_n d_Wo_join_56 rfl ?_
        refine jr_iconst ((-1)) d_Wo_join_57 (by decide) ?_
        refine jr_icmp_eq 91 d_Wo_join_58 (by decide) (fun z => absurd z (en_m1ne (by omega))) (fun _ => ?_)
        refine jr_aload_n d_Wo_join_61 rfl ?_
        refine jr_iload_n d_Wo_join_62 rfl ?_
        refine jr_iload_n d_Wo_join_63 rfl ?_
        refine jr_bipush ((nI (10))) d_Wo_join_64 (by decide) ?_
        refine jr_isubN d_Wo_join_66 (by omega) ?_
        refine jr_callV (As := [.int (nI c), .int (nI ((b) - (10)))]) d_Wo_join_67 k_Wo_join_49 hW rfl rfl rfl (Nat.le_of_ble_eq_true rfl) (by decide) (by decide) (wo_above (x := some (b - 10)) hl hw (by omega) hok (fun z hz => by cases hz; omega)) ?_
        show jl_W l G m_Wo_join (0, 0) 70 [some (.ref 1), some (.int (nI a)), some (.int (nI b)), some (.int (nI c)), some (.int (nI i))] [.int (bi (ab pr c (some (b - 10))))] (σ) (.inl (some (.int (en (joinUp pr (b - 10) (6 - i) (some c)))))) (σ)
        refine jr_if_eq 78 d_Wo_join_70 (by decide) (fun c2 => ?_) (fun c2 => ?_)
        · refine jr_aload_n d_Wo_join_78 rfl ?_
          refine jr_getf d_Wo_join_79 f_Wo_join_15 hW rfl ?_
          refine jr_iload_n d_Wo_join_82 rfl ?_
          refine jr_ialdN d_Wo_join_83 h3 (by omega) (by omega) ?_
          refine jr_istore_n d_Wo_join_84 (by decide) ?_
          show jl_W l G m_Wo_join (0, 0) 85 [some (.ref 1), some (.int (nI a)), some (.int (nI b)), some (.int (en (pr (c)))), some (.int (nI i))] [] (σ) (.inl (some (.int (en (joinUp pr (b - 10) (6 - i) (some c)))))) (σ)
          refine jr_iinc ((nI (i + 1))) d_Wo_join_85 (by decide) rfl (jl_inc _) ?_
          show jl_W l G m_Wo_join (0, 0) 88 [some (.ref 1), some (.int (nI a)), some (.int (nI b)), some (.int (en (pr (c)))), some (.int (nI (i + 1)))] [] (σ) (.inl (some (.int (en (joinUp pr (b - 10) (6 - i) (some c)))))) (σ)
          refine jr_goto 49 d_Wo_join_88 (by decide) ?_
          exact jl_oeq (by rw [show 6 - i = (6 - (i + 1)) + 1 by omega]; simp only [joinUp]; rw [bi_0.mp c2]; rfl) (ihn (i + 1) (pr c) (by omega) (by omega) (hok c))
        · refine jr_bipush ((nI (10))) d_Wo_join_73 (by decide) ?_
          refine jr_iload_n d_Wo_join_75 rfl ?_
          refine jr_iaddN d_Wo_join_76 ?_
          exact jr_iretE d_Wo_join_77 rfl (by rw [show 6 - i = (6 - (i + 1)) + 1 by omega]; simp only [joinUp]; rw [if_pos (bi_nf c2)]; rfl) (rfl) (by decide) (by decide)
theorem d_Wo_join_0 : decode m_Wo_join.2.1 0 = .ok (.aload_n 0, 1) := by decide +kernel
theorem d_Wo_join_1 : decode m_Wo_join.2.1 1 = .ok (.iload_n 1, 1) := by decide +kernel
theorem d_Wo_join_2 : decode m_Wo_join.2.1 2 = .ok (.iload_n 2, 1) := by decide +kernel
theorem k_Wo_join_63 : jl_cv m_Wo_join m_Wo_isPart 63 2 = true := by decide +kernel
theorem d_Wo_join_3 : decode m_Wo_join.2.1 3 = .ok (.invokevirtual 63, 3) := by decide +kernel
theorem d_Wo_join_6 : decode m_Wo_join.2.1 6 = .ok (.ifCond .eq 5, 3) := by decide +kernel
theorem d_Wo_join_11 : decode m_Wo_join.2.1 11 = .ok (.aload_n 0, 1) := by decide +kernel
theorem d_Wo_join_12 : decode m_Wo_join.2.1 12 = .ok (.iload_n 2, 1) := by decide +kernel
theorem d_Wo_join_13 : decode m_Wo_join.2.1 13 = .ok (.iload_n 1, 1) := by decide +kernel
theorem d_Wo_join_14 : decode m_Wo_join.2.1 14 = .ok (.invokevirtual 63, 3) := by decide +kernel
theorem d_Wo_join_17 : decode m_Wo_join.2.1 17 = .ok (.ifCond .eq 5, 3) := by decide +kernel
theorem d_Wo_join_22 : decode m_Wo_join.2.1 22 = .ok (.iload_n 1, 1) := by decide +kernel
theorem d_Wo_join_23 : decode m_Wo_join.2.1 23 = .ok (.bipush 10, 2) := by decide +kernel
theorem d_Wo_join_25 : decode m_Wo_join.2.1 25 = .ok (.if_icmp .lt 9, 3) := by decide +kernel
theorem d_Wo_join_34 : decode m_Wo_join.2.1 34 = .ok (.iconst (-1), 1) := by decide +kernel
theorem d_Wo_join_35 : decode m_Wo_join.2.1 35 = .ok (.ireturn, 1) := by decide +kernel
theorem d_Wo_join_28 : decode m_Wo_join.2.1 28 = .ok (.iload_n 2, 1) := by decide +kernel
theorem d_Wo_join_29 : decode m_Wo_join.2.1 29 = .ok (.bipush 10, 2) := by decide +kernel
theorem d_Wo_join_31 : decode m_Wo_join.2.1 31 = .ok (.if_icmp .ge 5, 3) := by decide +kernel
theorem d_Wo_join_36 : decode m_Wo_join.2.1 36 = .ok (.aload_n 0, 1) := by decide +kernel
theorem d_Wo_join_37 : decode m_Wo_join.2.1 37 = .ok (.getfield 15, 3) := by decide +kernel
theorem d_Wo_join_40 : decode m_Wo_join.2.1 40 = .ok (.iload_n 1, 1) := by decide +kernel
theorem d_Wo_join_41 : decode m_Wo_join.2.1 41 = .ok (.bipush 10, 2) := by decide +kernel
theorem d_Wo_join_43 : decode m_Wo_join.2.1 43 = .ok (.isub, 1) := by decide +kernel
theorem d_Wo_join_44 : decode m_Wo_join.2.1 44 = .ok (.iaload, 1) := by decide +kernel
theorem d_Wo_join_45 : decode m_Wo_join.2.1 45 = .ok (.istore_n 3, 1) := by decide +kernel
theorem d_Wo_join_46 : decode m_Wo_join.2.1 46 = .ok (.iconst 0, 1) := by decide +kernel
theorem d_Wo_join_47 : decode m_Wo_join.2.1 47 = .ok (.istore 4, 2) := by decide +kernel
theorem d_Wo_join_20 : decode m_Wo_join.2.1 20 = .ok (.iload_n 1, 1) := by decide +kernel
theorem d_Wo_join_21 : decode m_Wo_join.2.1 21 = .ok (.ireturn, 1) := by decide +kernel
theorem d_Wo_join_9 : decode m_Wo_join.2.1 9 = .ok (.iload_n 2, 1) := by decide +kernel
theorem d_Wo_join_10 : decode m_Wo_join.2.1 10 = .ok (.ireturn, 1) := by decide +kernel
theorem wo_join (hl : l.stackTraces = false) {x y : Option Nat} (hw : WoAt σ tb pr ow fi ft mt) (hok : ∀ j, ob 6 (pr j)) (hx : ob 16 x) (hy : ob 16 y) : jl_m l G m_Wo_join [.ref 1, .int (en x), .int (en y)] σ (.inl (some (.int (en (join pr x y))))) (σ) := by
  obtain ⟨hW, h2, h3, h4, h5, h6, h7⟩ := id hw
  refine jl_of (as := [.ref 1, .int (en x), .int (en y)]) rfl (by decide) hl (jl_cc rfl (jl_cc rfl (jl_cc rfl jl_ca))) (Nat.le_of_ble_eq_true rfl) ?_
  show jl_W l G m_Wo_join (0, 0) 0 [some (.ref 1), some (.int (en x)), some (.int (en y)), none, none] [] (σ) (.inl (some (.int (en (join pr x y))))) (σ)
  refine jr_aload_n d_Wo_join_0 rfl ?_
  refine jr_iload_n d_Wo_join_1 rfl ?_
  refine jr_iload_n d_Wo_join_2 rfl ?_
  refine jr_callV (As := [.int (en x), .int (en y)]) d_Wo_join_3 k_Wo_join_63 hW rfl rfl rfl (Nat.le_of_ble_eq_true rfl) (by decide) (by decide) (wo_part hl hw hok hx hy) ?_
  show jl_W l G m_Wo_join (0, 0) 6 [some (.ref 1), some (.int (en x)), some (.int (en y)), none, none] [.int (bi (part pr x y))] (σ) (.inl (some (.int (en (join pr x y))))) (σ)
  refine jr_if_eq 11 d_Wo_join_6 (by decide) (fun c1 => ?_) (fun c1 => ?_)
  · refine jr_aload_n d_Wo_join_11 rfl ?_
    refine jr_iload_n d_Wo_join_12 rfl ?_
    refine jr_iload_n d_Wo_join_13 rfl ?_
    refine jr_callV (As := [.int (en y), .int (en x)]) d_Wo_join_14 k_Wo_join_63 hW rfl rfl rfl (Nat.le_of_ble_eq_true rfl) (by decide) (by decide) (wo_part hl hw hok hy hx) ?_
    show jl_W l G m_Wo_join (0, 0) 17 [some (.ref 1), some (.int (en x)), some (.int (en y)), none, none] [.int (bi (part pr y x))] (σ) (.inl (some (.int (en (join pr x y))))) (σ)
    refine jr_if_eq 22 d_Wo_join_17 (by decide) (fun c2 => ?_) (fun c2 => ?_)
    · cases x with
      | none =>
        show jl_W l G m_Wo_join (0, 0) 22 [some (.ref 1), some (.int (-1)), some (.int (en y)), none, none] [] (σ) (.inl (some (.int (en (join pr none y))))) (σ)
        refine jr_iload_n d_Wo_join_22 rfl ?_
        refine jr_bipush ((nI (10))) d_Wo_join_23 (by decide) ?_
        refine jr_icmp_lt 34 d_Wo_join_25 (by decide) (fun _ => ?_) (fun z => absurd (en_m1lt (by omega)) z)
        refine jr_iconst ((-1)) d_Wo_join_34 (by decide) ?_
        exact jr_iretE d_Wo_join_35 rfl (by unfold join; rw [if_neg (by rw [bi_0.mp c1]; decide), if_neg (by rw [bi_0.mp c2]; decide)]; rfl) (rfl) (by decide) (by decide)
      | some a =>
        have ha := hx a rfl
        show jl_W l G m_Wo_join (0, 0) 22 [some (.ref 1), some (.int (nI a)), some (.int (en y)), none, none] [] (σ) (.inl (some (.int (en (join pr (some a) y))))) (σ)
        refine jr_iload_n d_Wo_join_22 rfl ?_
        refine jr_bipush ((nI (10))) d_Wo_join_23 (by decide) ?_
        refine jr_icmp_ltN 34 d_Wo_join_25 (by decide) (by omega) (by omega) (fun c3 => ?_) (fun c3 => ?_)
        · refine jr_iconst ((-1)) d_Wo_join_34 (by decide) ?_
          exact jr_iretE d_Wo_join_35 rfl (by unfold join; rw [if_neg (by rw [bi_0.mp c1]; decide), if_neg (by rw [bi_0.mp c2]; decide)]; cases y with | none => rfl | some b => simp only [if_pos (show a < 10 by omega)]; rfl) (rfl) (by decide) (by decide)
        · cases y with
          | none =>
            show jl_W l G m_Wo_join (0, 0) 28 [some (.ref 1), some (.int (nI a)), some (.int (-1)), none, none] [] (σ) (.inl (some (.int (en (join pr (some a) none))))) (σ)
            refine jr_iload_n d_Wo_join_28 rfl ?_
            refine jr_bipush ((nI (10))) d_Wo_join_29 (by decide) ?_
            refine jr_icmp_ge 36 d_Wo_join_31 (by decide) (fun z => absurd z (Int32.not_le.mpr (en_m1lt (by omega)))) (fun _ => ?_)
            refine jr_iconst ((-1)) d_Wo_join_34 (by decide) ?_
            exact jr_iretE d_Wo_join_35 rfl (by unfold join; rw [if_neg (by rw [bi_0.mp c1]; decide), if_neg (by rw [bi_0.mp c2]; decide)]; rfl) (rfl) (by decide) (by decide)
          | some b =>
            have hb := hy b rfl
            show jl_W l G m_Wo_join (0, 0) 28 [some (.ref 1), some (.int (nI a)), some (.int (nI b)), none, none] [] (σ) (.inl (some (.int (en (join pr (some a) (some b)))))) (σ)
            refine jr_iload_n d_Wo_join_28 rfl ?_
            refine jr_bipush ((nI (10))) d_Wo_join_29 (by decide) ?_
            refine jr_icmp_geN 36 d_Wo_join_31 (by decide) (by omega) (by omega) (fun c4 => ?_) (fun c4 => ?_)
            · refine jr_aload_n d_Wo_join_36 rfl ?_
              refine jr_getf d_Wo_join_37 f_Wo_join_15 hW rfl ?_
              refine jr_iload_n d_Wo_join_40 rfl ?_
              refine jr_bipush ((nI (10))) d_Wo_join_41 (by decide) ?_
              refine jr_isubN d_Wo_join_43 (by omega) ?_
              refine jr_ialdN d_Wo_join_44 h3 (by omega) (by omega) ?_
              refine jr_istore_n d_Wo_join_45 (by decide) ?_
              show jl_W l G m_Wo_join (0, 0) 46 [some (.ref 1), some (.int (nI a)), some (.int (nI b)), some (.int (en (pr ((a) - (10))))), none] [] (σ) (.inl (some (.int (en (join pr (some a) (some b)))))) (σ)
              refine jr_iconst ((nI (0))) d_Wo_join_46 (by decide) ?_
              refine jr_istore d_Wo_join_47 (by decide) ?_
              show jl_W l G m_Wo_join (0, 0) 49 [some (.ref 1), some (.int (nI a)), some (.int (nI b)), some (.int (en (pr ((a) - (10))))), some (.int (nI 0))] [] (σ) (.inl (some (.int (en (join pr (some a) (some b)))))) (σ)
              exact jl_oeq (by unfold join; rw [if_neg (by rw [bi_0.mp c1]; decide), if_neg (by rw [bi_0.mp c2]; decide)]; simp only [if_neg (show ¬ a < 10 by omega), if_neg (show ¬ b < 10 by omega)]) (wo_join_loop hl hw hok (by omega) (by omega) 7 0 (pr (a - 10)) (by omega) (by omega) (hok _))
            · refine jr_iconst ((-1)) d_Wo_join_34 (by decide) ?_
              exact jr_iretE d_Wo_join_35 rfl (by unfold join; rw [if_neg (by rw [bi_0.mp c1]; decide), if_neg (by rw [bi_0.mp c2]; decide)]; simp only [if_neg (show ¬ a < 10 by omega), if_pos (show b < 10 by omega)]; rfl) (rfl) (by decide) (by decide)
    · refine jr_iload_n d_Wo_join_20 rfl ?_
      exact jr_iretE d_Wo_join_21 rfl (by unfold join; rw [if_neg (by rw [bi_0.mp c1]; decide), if_pos (bi_nf c2)]) (rfl) (by decide) (by decide)
  · refine jr_iload_n d_Wo_join_9 rfl ?_
    exact jr_iretE d_Wo_join_10 rfl (by unfold join; rw [if_pos (bi_nf c1)]) (rfl) (by decide) (by decide)
theorem d_Wo_fieldType_5 : decode m_Wo_fieldType.2.1 5 = .ok (.iload 4, 2) := by decide +kernel
theorem d_Wo_fieldType_7 : decode m_Wo_fieldType.2.1 7 = .ok (.bipush 6, 2) := by decide +kernel
theorem d_Wo_fieldType_9 : decode m_Wo_fieldType.2.1 9 = .ok (.if_icmp .ge 26, 3) := by decide +kernel
theorem d_Wo_fieldType_35 : decode m_Wo_fieldType.2.1 35 = .ok (.aload_n 0, 1) := by decide +kernel
theorem f_Wo_fieldType_25 : jl_fd m_Wo_fieldType 25 5 4 = true := by decide +kernel
theorem d_Wo_fieldType_36 : decode m_Wo_fieldType.2.1 36 = .ok (.getfield 25, 3) := by decide +kernel
theorem d_Wo_fieldType_39 : decode m_Wo_fieldType.2.1 39 = .ok (.iload_n 3, 1) := by decide +kernel
theorem d_Wo_fieldType_40 : decode m_Wo_fieldType.2.1 40 = .ok (.iconst 3, 1) := by decide +kernel
theorem d_Wo_fieldType_41 : decode m_Wo_fieldType.2.1 41 = .ok (.imul, 1) := by decide +kernel
theorem d_Wo_fieldType_42 : decode m_Wo_fieldType.2.1 42 = .ok (.iload_n 2, 1) := by decide +kernel
theorem d_Wo_fieldType_43 : decode m_Wo_fieldType.2.1 43 = .ok (.iadd, 1) := by decide +kernel
theorem d_Wo_fieldType_44 : decode m_Wo_fieldType.2.1 44 = .ok (.aload_n 0, 1) := by decide +kernel
theorem f_Wo_fieldType_22 : jl_fd m_Wo_fieldType 22 5 3 = true := by decide +kernel
theorem d_Wo_fieldType_45 : decode m_Wo_fieldType.2.1 45 = .ok (.getfield 22, 3) := by decide +kernel
theorem d_Wo_fieldType_48 : decode m_Wo_fieldType.2.1 48 = .ok (.iload_n 3, 1) := by decide +kernel
theorem d_Wo_fieldType_49 : decode m_Wo_fieldType.2.1 49 = .ok (.iaload, 1) := by decide +kernel
theorem d_Wo_fieldType_50 : decode m_Wo_fieldType.2.1 50 = .ok (.isub, 1) := by decide +kernel
theorem d_Wo_fieldType_51 : decode m_Wo_fieldType.2.1 51 = .ok (.iaload, 1) := by decide +kernel
theorem d_Wo_fieldType_52 : decode m_Wo_fieldType.2.1 52 = .ok (.ireturn, 1) := by decide +kernel
theorem d_Wo_fieldType_12 : decode m_Wo_fieldType.2.1 12 = .ok (.iload_n 2, 1) := by decide +kernel
theorem d_Wo_fieldType_13 : decode m_Wo_fieldType.2.1 13 = .ok (.aload_n 0, 1) := by decide +kernel
theorem d_Wo_fieldType_14 : decode m_Wo_fieldType.2.1 14 = .ok (.getfield 22, 3) := by decide +kernel
theorem d_Wo_fieldType_17 : decode m_Wo_fieldType.2.1 17 = .ok (.iload_n 3, 1) := by decide +kernel
theorem d_Wo_fieldType_18 : decode m_Wo_fieldType.2.1 18 = .ok (.iaload, 1) := by decide +kernel
theorem d_Wo_fieldType_19 : decode m_Wo_fieldType.2.1 19 = .ok (.if_icmp .ge 16, 3) := by decide +kernel
theorem d_Wo_fieldType_22 : decode m_Wo_fieldType.2.1 22 = .ok (.aload_n 0, 1) := by decide +kernel
theorem f_Wo_fieldType_15 : jl_fd m_Wo_fieldType 15 5 1 = true := by decide +kernel
theorem d_Wo_fieldType_23 : decode m_Wo_fieldType.2.1 23 = .ok (.getfield 15, 3) := by decide +kernel
theorem d_Wo_fieldType_26 : decode m_Wo_fieldType.2.1 26 = .ok (.iload_n 3, 1) := by decide +kernel
theorem d_Wo_fieldType_27 : decode m_Wo_fieldType.2.1 27 = .ok (.iaload, 1) := by decide +kernel
theorem d_Wo_fieldType_28 : decode m_Wo_fieldType.2.1 28 = .ok (.istore_n 3, 1) := by decide +kernel
theorem d_Wo_fieldType_29 : decode m_Wo_fieldType.2.1 29 = .ok (.iinc 4 1, 3) := by decide +kernel
theorem d_Wo_fieldType_32 : decode m_Wo_fieldType.2.1 32 = .ok (.goto (-27), 3) := by decide +kernel
theorem wo_ft_loop (hl : l.stackTraces = false) {k f : Nat} (hw : WoAt σ tb pr ow fi ft mt) (hok : WoOk tb pr ow fi) : ∀ (nn : Nat) (i o : Nat), 6 - i < nn → o + i ≤ 5 → f < fi o + ow o → jl_W l G m_Wo_fieldType (0, 0) 5 [some (.ref 1), some (.int (nI k)), some (.int (nI f)), some (.int (nI o)), some (.int (nI i))] [] σ (.inl (some (.int (nI (ft (fow pr fi f (6 - i) o * 3 + f - fi (fow pr fi f (6 - i) o))))))) (σ) := by
  obtain ⟨hW, h2, h3, h4, h5, h6, h7⟩ := id hw
  have hst : ∀ o, o < 6 → f < fi o → ∃ p, pr o = some p ∧ p < o ∧ fi o = fi p + ow p := fun o ho hf => by
    cases hp : pr o with
    | none => exact absurd hf (by rw [hok.2.2.2.2.1 o ho hp]; exact Nat.not_lt_zero _)
    | some p => exact ⟨p, rfl, (hok.2.2.2.1 o ho p hp).1, (hok.2.2.2.1 o ho p hp).2.1⟩
  intro nn
  induction nn with
  | zero => intro i o hnn; exact absurd hnn (Nat.not_lt_zero _)
  | succ nn ihn =>
    intro i o hnn hi hf
    have ho : o < 6 := by omega
    have how := hok.2.1 o ho
    have hfi := hok.2.2.1 o ho
    refine jr_iload d_Wo_fieldType_5 rfl ?_
    refine jr_bipush ((nI (6))) d_Wo_fieldType_7 (by decide) ?_
    refine jr_icmp_geN 35 d_Wo_fieldType_9 (by decide) (by omega) (by omega) (fun c1 => ?_) (fun c1 => ?_)
    · refine jr_aload_n d_Wo_fieldType_35 rfl ?_
      refine jr_getf d_Wo_fieldType_36 f_Wo_fieldType_25 hW rfl ?_
      refine jr_iload_n d_Wo_fieldType_39 rfl ?_
      refine jr_iconst ((nI (3))) d_Wo_fieldType_40 (by decide) ?_
      refine jr_imulN d_Wo_fieldType_41 ?_
      refine jr_iload_n d_Wo_fieldType_42 rfl ?_
      refine jr_iaddN d_Wo_fieldType_43 ?_
      refine jr_aload_n d_Wo_fieldType_44 rfl ?_
      refine jr_getf d_Wo_fieldType_45 f_Wo_fieldType_22 hW rfl ?_
      refine jr_iload_n d_Wo_fieldType_48 rfl ?_
      refine jr_ialdN d_Wo_fieldType_49 h5 (by omega) (by omega) ?_
      refine jr_isubN d_Wo_fieldType_50 (by omega) ?_
      refine jr_ialdN d_Wo_fieldType_51 h6 (by omega) (by omega) ?_
      exact jr_iretE d_Wo_fieldType_52 rfl (by rw [show 6 - i = (6 - (i + 1)) + 1 by omega]; simp only [fow]; rw [if_neg (by omega)]) (rfl) (by decide) (by decide)
    · refine jr_iload_n d_Wo_fieldType_12 rfl ?_
      refine jr_aload_n d_Wo_fieldType_13 rfl ?_
      refine jr_getf d_Wo_fieldType_14 f_Wo_fieldType_22 hW rfl ?_
      refine jr_iload_n d_Wo_fieldType_17 rfl ?_
      refine jr_ialdN d_Wo_fieldType_18 h5 (by omega) (by omega) ?_
      refine jr_icmp_geN 35 d_Wo_fieldType_19 (by decide) (by omega) (by omega) (fun c2 => ?_) (fun c2 => ?_)
      · refine jr_aload_n d_Wo_fieldType_35 rfl ?_
        refine jr_getf d_Wo_fieldType_36 f_Wo_fieldType_25 hW rfl ?_
        refine jr_iload_n d_Wo_fieldType_39 rfl ?_
        refine jr_iconst ((nI (3))) d_Wo_fieldType_40 (by decide) ?_
        refine jr_imulN d_Wo_fieldType_41 ?_
        refine jr_iload_n d_Wo_fieldType_42 rfl ?_
        refine jr_iaddN d_Wo_fieldType_43 ?_
        refine jr_aload_n d_Wo_fieldType_44 rfl ?_
        refine jr_getf d_Wo_fieldType_45 f_Wo_fieldType_22 hW rfl ?_
        refine jr_iload_n d_Wo_fieldType_48 rfl ?_
        refine jr_ialdN d_Wo_fieldType_49 h5 (by omega) (by omega) ?_
        refine jr_isubN d_Wo_fieldType_50 (by omega) ?_
        refine jr_ialdN d_Wo_fieldType_51 h6 (by omega) (by omega) ?_
        exact jr_iretE d_Wo_fieldType_52 rfl (by rw [show 6 - i = (6 - (i + 1)) + 1 by omega]; simp only [fow]; rw [if_neg (by omega)]) (rfl) (by decide) (by decide)
      · refine jr_aload_n d_Wo_fieldType_22 rfl ?_
        refine jr_getf d_Wo_fieldType_23 f_Wo_fieldType_15 hW rfl ?_
        refine jr_iload_n d_Wo_fieldType_26 rfl ?_
        refine jr_ialdN d_Wo_fieldType_27 h3 (by omega) (by omega) ?_
        refine jr_istore_n d_Wo_fieldType_28 (by decide) ?_
        show jl_W l G m_Wo_fieldType (0, 0) 29 [some (.ref 1), some (.int (nI k)), some (.int (nI f)), some (.int (en (pr (o)))), some (.int (nI i))] [] (σ) (.inl (some (.int (nI (ft (fow pr fi f (6 - i) o * 3 + f - fi (fow pr fi f (6 - i) o))))))) (σ)
        obtain ⟨p, hp, hp1, hp2⟩ := hst o ho (by omega)
        rw [hp]
        show jl_W l G m_Wo_fieldType (0, 0) 29 [some (.ref 1), some (.int (nI k)), some (.int (nI f)), some (.int (nI p)), some (.int (nI i))] [] (σ) (.inl (some (.int (nI (ft (fow pr fi f (6 - i) o * 3 + f - fi (fow pr fi f (6 - i) o))))))) (σ)
        refine jr_iinc ((nI (i + 1))) d_Wo_fieldType_29 (by decide) rfl (jl_inc _) ?_
        show jl_W l G m_Wo_fieldType (0, 0) 32 [some (.ref 1), some (.int (nI k)), some (.int (nI f)), some (.int (nI p)), some (.int (nI (i + 1)))] [] (σ) (.inl (some (.int (nI (ft (fow pr fi f (6 - i) o * 3 + f - fi (fow pr fi f (6 - i) o))))))) (σ)
        refine jr_goto 5 d_Wo_fieldType_32 (by decide) ?_
        exact jl_oeq (by rw [show 6 - i = (6 - (i + 1)) + 1 by omega]; simp only [fow]; rw [if_pos (by omega), hp]) (ihn (i + 1) p (by omega) (by omega) (by omega))
theorem d_Wo_fieldType_0 : decode m_Wo_fieldType.2.1 0 = .ok (.iload_n 1, 1) := by decide +kernel
theorem d_Wo_fieldType_1 : decode m_Wo_fieldType.2.1 1 = .ok (.istore_n 3, 1) := by decide +kernel
theorem d_Wo_fieldType_2 : decode m_Wo_fieldType.2.1 2 = .ok (.iconst 0, 1) := by decide +kernel
theorem d_Wo_fieldType_3 : decode m_Wo_fieldType.2.1 3 = .ok (.istore 4, 2) := by decide +kernel
theorem wo_ft (hl : l.stackTraces = false) {k f : Nat} (hw : WoAt σ tb pr ow fi ft mt) (hok : WoOk tb pr ow fi) (hk : k < 6) (hf : f < fi k + ow k) : jl_m l G m_Wo_fieldType [.ref 1, .int (nI k), .int (nI f)] σ (.inl (some (.int (nI (fty pr fi ft k f))))) (σ) := by
  obtain ⟨hW, h2, h3, h4, h5, h6, h7⟩ := id hw
  refine jl_of (as := [.ref 1, .int (nI k), .int (nI f)]) rfl (by decide) hl (jl_cc rfl (jl_cc rfl (jl_cc rfl jl_ca))) (Nat.le_of_ble_eq_true rfl) ?_
  show jl_W l G m_Wo_fieldType (0, 0) 0 [some (.ref 1), some (.int (nI k)), some (.int (nI f)), none, none] [] (σ) (.inl (some (.int (nI (fty pr fi ft k f))))) (σ)
  refine jr_iload_n d_Wo_fieldType_0 rfl ?_
  refine jr_istore_n d_Wo_fieldType_1 (by decide) ?_
  show jl_W l G m_Wo_fieldType (0, 0) 2 [some (.ref 1), some (.int (nI k)), some (.int (nI f)), some (.int (nI k)), none] [] (σ) (.inl (some (.int (nI (fty pr fi ft k f))))) (σ)
  refine jr_iconst ((nI (0))) d_Wo_fieldType_2 (by decide) ?_
  refine jr_istore d_Wo_fieldType_3 (by decide) ?_
  show jl_W l G m_Wo_fieldType (0, 0) 5 [some (.ref 1), some (.int (nI k)), some (.int (nI f)), some (.int (nI k)), some (.int (nI 0))] [] (σ) (.inl (some (.int (nI (fty pr fi ft k f))))) (σ)
  exact wo_ft_loop hl hw hok 7 0 k (by omega) (by omega) hf
end JWq
