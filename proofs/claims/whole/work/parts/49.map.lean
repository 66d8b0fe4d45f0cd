/-! map: class (wip/gen/p49.py) -/
section JMm
variable {l : Launch} {G : jl_G} {σ : jl_S} {tb : Nat → Bool} {pr : Nat → Option Nat} {ow fi ft : Nat → Nat} {mt : Nat → Option Nat} {vf : Bool} {a : Nat} {q1 q2 : Option Nat} {rs : Nat} {op : Nat → Nat} {ag : Nat → Int32} {sz : Nat} {fr tt tg kd : Nat → Nat} {nc : Nat} {mp : Nat → Int32} {fh : Nat → Bool}
theorem d_JC_map_0 : decode m_JC_map.2.1 0 = .ok (.iload_n 1, 1) := by decide +kernel
theorem d_JC_map_1 : decode m_JC_map.2.1 1 = .ok (.iconst 0, 1) := by decide +kernel
theorem d_JC_map_2 : decode m_JC_map.2.1 2 = .ok (.iconst 5, 1) := by decide +kernel
theorem k_JC_map_41 : jl_cz m_JC_map m_JC_needRange 41 3 = true := by decide +kernel
theorem d_JC_map_3 : decode m_JC_map.2.1 3 = .ok (.invokestatic 41, 3) := by decide +kernel
theorem jc_map_A1 (hl : l.stackTraces = false) {k sl pc i : Int32} (hj : JcAt σ vf) (hw : WoAt σ tb pr ow fi ft mt) (h : k < nI 0 ∨ nI 5 < k) : jl_m l G m_JC_map [.ref 0, .int (k), .int (sl), .int (pc), .int (i)] σ (.inr xA) (σ) := by
  obtain ⟨hW, h2, h3, h4, h5, h6, h7⟩ := id hw; have h0 := hj
  refine jl_of (as := [.ref 0, .int (k), .int (sl), .int (pc), .int (i)]) rfl (by decide) hl (jl_cc rfl (jl_cc rfl (jl_cc rfl (jl_cc rfl (jl_cc rfl jl_ca))))) (Nat.le_of_ble_eq_true rfl) ?_
  show jl_W l G m_JC_map (0, 0) 0 [some (.ref 0), some (.int (k)), some (.int (sl)), some (.int (pc)), some (.int (i)), none] [] (σ) (.inr xA) (σ)
  refine jr_iload_n d_JC_map_0 rfl ?_
  refine jr_iconst ((nI (0))) d_JC_map_1 (by decide) ?_
  refine jr_iconst ((nI (5))) d_JC_map_2 (by decide) ?_
  exact jl_oeq (rfl) (jl_seq (rfl) (jr_callSX (As := [.int (k), .int (nI 0), .int (nI 5)]) d_JC_map_3 k_JC_map_41 rfl rfl (Nat.le_of_ble_eq_true rfl) (by decide) (by decide) (jc_rangeX hl h)))
theorem d_JC_map_6 : decode m_JC_map.2.1 6 = .ok (.iload_n 2, 1) := by decide +kernel
theorem d_JC_map_7 : decode m_JC_map.2.1 7 = .ok (.iconst 0, 1) := by decide +kernel
theorem d_JC_map_8 : decode m_JC_map.2.1 8 = .ok (.iconst 3, 1) := by decide +kernel
theorem d_JC_map_9 : decode m_JC_map.2.1 9 = .ok (.invokestatic 41, 3) := by decide +kernel
theorem jc_map_A2 (hl : l.stackTraces = false) {k : Nat} {sl pc i : Int32} (hj : JcAt σ vf) (hw : WoAt σ tb pr ow fi ft mt) (hk : k < 6) (h : sl < nI 0 ∨ nI 3 < sl) : jl_m l G m_JC_map [.ref 0, .int (nI k), .int (sl), .int (pc), .int (i)] σ (.inr xA) (σ) := by
  obtain ⟨hW, h2, h3, h4, h5, h6, h7⟩ := id hw; have h0 := hj
  refine jl_of (as := [.ref 0, .int (nI k), .int (sl), .int (pc), .int (i)]) rfl (by decide) hl (jl_cc rfl (jl_cc rfl (jl_cc rfl (jl_cc rfl (jl_cc rfl jl_ca))))) (Nat.le_of_ble_eq_true rfl) ?_
  show jl_W l G m_JC_map (0, 0) 0 [some (.ref 0), some (.int (nI k)), some (.int (sl)), some (.int (pc)), some (.int (i)), none] [] (σ) (.inr xA) (σ)
  refine jr_iload_n d_JC_map_0 rfl ?_
  refine jr_iconst ((nI (0))) d_JC_map_1 (by decide) ?_
  refine jr_iconst ((nI (5))) d_JC_map_2 (by decide) ?_
  refine jr_callS (As := [.int (nI k), .int (nI 0), .int (nI 5)]) d_JC_map_3 k_JC_map_41 rfl (Nat.le_of_ble_eq_true rfl) (by decide) (by decide) (jc_range hl (rg_ok (by omega) (by decide))) ?_
  show jl_W l G m_JC_map (1, 6) 6 [some (.ref 0), some (.int (nI k)), some (.int (sl)), some (.int (pc)), some (.int (i)), none] [] (σ) (.inr xA) (σ)
  refine jr_iload_n d_JC_map_6 rfl ?_
  refine jr_iconst ((nI (0))) d_JC_map_7 (by decide) ?_
  refine jr_iconst ((nI (3))) d_JC_map_8 (by decide) ?_
  exact jl_oeq (rfl) (jl_seq (rfl) (jr_callSX (As := [.int (sl), .int (nI 0), .int (nI 3)]) d_JC_map_9 k_JC_map_41 rfl rfl (Nat.le_of_ble_eq_true rfl) (by decide) (by decide) (jc_rangeX hl h)))
theorem d_JC_map_12 : decode m_JC_map.2.1 12 = .ok (.iload_n 3, 1) := by decide +kernel
theorem d_JC_map_13 : decode m_JC_map.2.1 13 = .ok (.iconst 0, 1) := by decide +kernel
theorem d_JC_map_14 : decode m_JC_map.2.1 14 = .ok (.bipush 23, 2) := by decide +kernel
theorem d_JC_map_16 : decode m_JC_map.2.1 16 = .ok (.invokestatic 41, 3) := by decide +kernel
theorem jc_map_A3 (hl : l.stackTraces = false) {k sl : Nat} {pc i : Int32} (hj : JcAt σ vf) (hw : WoAt σ tb pr ow fi ft mt) (hk : k < 6) (hs : sl < 4) (h : pc < nI 0 ∨ nI 23 < pc) : jl_m l G m_JC_map [.ref 0, .int (nI k), .int (nI sl), .int (pc), .int (i)] σ (.inr xA) (σ) := by
  obtain ⟨hW, h2, h3, h4, h5, h6, h7⟩ := id hw; have h0 := hj
  refine jl_of (as := [.ref 0, .int (nI k), .int (nI sl), .int (pc), .int (i)]) rfl (by decide) hl (jl_cc rfl (jl_cc rfl (jl_cc rfl (jl_cc rfl (jl_cc rfl jl_ca))))) (Nat.le_of_ble_eq_true rfl) ?_
  show jl_W l G m_JC_map (0, 0) 0 [some (.ref 0), some (.int (nI k)), some (.int (nI sl)), some (.int (pc)), some (.int (i)), none] [] (σ) (.inr xA) (σ)
  refine jr_iload_n d_JC_map_0 rfl ?_
  refine jr_iconst ((nI (0))) d_JC_map_1 (by decide) ?_
  refine jr_iconst ((nI (5))) d_JC_map_2 (by decide) ?_
  refine jr_callS (As := [.int (nI k), .int (nI 0), .int (nI 5)]) d_JC_map_3 k_JC_map_41 rfl (Nat.le_of_ble_eq_true rfl) (by decide) (by decide) (jc_range hl (rg_ok (by omega) (by decide))) ?_
  show jl_W l G m_JC_map (1, 6) 6 [some (.ref 0), some (.int (nI k)), some (.int (nI sl)), some (.int (pc)), some (.int (i)), none] [] (σ) (.inr xA) (σ)
  refine jr_iload_n d_JC_map_6 rfl ?_
  refine jr_iconst ((nI (0))) d_JC_map_7 (by decide) ?_
  refine jr_iconst ((nI (3))) d_JC_map_8 (by decide) ?_
  refine jr_callS (As := [.int (nI sl), .int (nI 0), .int (nI 3)]) d_JC_map_9 k_JC_map_41 rfl (Nat.le_of_ble_eq_true rfl) (by decide) (by decide) (jc_range hl (rg_ok (by omega) (by decide))) ?_
  show jl_W l G m_JC_map (2, 12) 12 [some (.ref 0), some (.int (nI k)), some (.int (nI sl)), some (.int (pc)), some (.int (i)), none] [] (σ) (.inr xA) (σ)
  refine jr_iload_n d_JC_map_12 rfl ?_
  refine jr_iconst ((nI (0))) d_JC_map_13 (by decide) ?_
  refine jr_bipush ((nI (23))) d_JC_map_14 (by decide) ?_
  exact jl_oeq (rfl) (jl_seq (rfl) (jr_callSX (As := [.int (pc), .int (nI 0), .int (nI 23)]) d_JC_map_16 k_JC_map_41 rfl rfl (Nat.le_of_ble_eq_true rfl) (by decide) (by decide) (jc_rangeX hl h)))
theorem d_JC_map_19 : decode m_JC_map.2.1 19 = .ok (.iload 4, 2) := by decide +kernel
theorem d_JC_map_21 : decode m_JC_map.2.1 21 = .ok (.iconst 0, 1) := by decide +kernel
theorem d_JC_map_22 : decode m_JC_map.2.1 22 = .ok (.bipush 11, 2) := by decide +kernel
theorem d_JC_map_24 : decode m_JC_map.2.1 24 = .ok (.invokestatic 41, 3) := by decide +kernel
theorem jc_map_A4 (hl : l.stackTraces = false) {k sl pc : Nat} {i : Int32} (hj : JcAt σ vf) (hw : WoAt σ tb pr ow fi ft mt) (hk : k < 6) (hs : sl < 4) (hpc : pc < 24) (h : i < nI 0 ∨ nI 11 < i) : jl_m l G m_JC_map [.ref 0, .int (nI k), .int (nI sl), .int (nI pc), .int (i)] σ (.inr xA) (σ) := by
  obtain ⟨hW, h2, h3, h4, h5, h6, h7⟩ := id hw; have h0 := hj
  refine jl_of (as := [.ref 0, .int (nI k), .int (nI sl), .int (nI pc), .int (i)]) rfl (by decide) hl (jl_cc rfl (jl_cc rfl (jl_cc rfl (jl_cc rfl (jl_cc rfl jl_ca))))) (Nat.le_of_ble_eq_true rfl) ?_
  show jl_W l G m_JC_map (0, 0) 0 [some (.ref 0), some (.int (nI k)), some (.int (nI sl)), some (.int (nI pc)), some (.int (i)), none] [] (σ) (.inr xA) (σ)
  refine jr_iload_n d_JC_map_0 rfl ?_
  refine jr_iconst ((nI (0))) d_JC_map_1 (by decide) ?_
  refine jr_iconst ((nI (5))) d_JC_map_2 (by decide) ?_
  refine jr_callS (As := [.int (nI k), .int (nI 0), .int (nI 5)]) d_JC_map_3 k_JC_map_41 rfl (Nat.le_of_ble_eq_true rfl) (by decide) (by decide) (jc_range hl (rg_ok (by omega) (by decide))) ?_
  show jl_W l G m_JC_map (1, 6) 6 [some (.ref 0), some (.int (nI k)), some (.int (nI sl)), some (.int (nI pc)), some (.int (i)), none] [] (σ) (.inr xA) (σ)
  refine jr_iload_n d_JC_map_6 rfl ?_
  refine jr_iconst ((nI (0))) d_JC_map_7 (by decide) ?_
  refine jr_iconst ((nI (3))) d_JC_map_8 (by decide) ?_
  refine jr_callS (As := [.int (nI sl), .int (nI 0), .int (nI 3)]) d_JC_map_9 k_JC_map_41 rfl (Nat.le_of_ble_eq_true rfl) (by decide) (by decide) (jc_range hl (rg_ok (by omega) (by decide))) ?_
  show jl_W l G m_JC_map (2, 12) 12 [some (.ref 0), some (.int (nI k)), some (.int (nI sl)), some (.int (nI pc)), some (.int (i)), none] [] (σ) (.inr xA) (σ)
  refine jr_iload_n d_JC_map_12 rfl ?_
  refine jr_iconst ((nI (0))) d_JC_map_13 (by decide) ?_
  refine jr_bipush ((nI (23))) d_JC_map_14 (by decide) ?_
  refine jr_callS (As := [.int (nI pc), .int (nI 0), .int (nI 23)]) d_JC_map_16 k_JC_map_41 rfl (Nat.le_of_ble_eq_true rfl) (by decide) (by decide) (jc_range hl (rg_ok (by omega) (by decide))) ?_
  show jl_W l G m_JC_map (3, 18) 19 [some (.ref 0), some (.int (nI k)), some (.int (nI sl)), some (.int (nI pc)), some (.int (i)), none] [] (σ) (.inr xA) (σ)
  refine jr_iload d_JC_map_19 rfl ?_
  refine jr_iconst ((nI (0))) d_JC_map_21 (by decide) ?_
  refine jr_bipush ((nI (11))) d_JC_map_22 (by decide) ?_
  exact jl_oeq (rfl) (jl_seq (rfl) (jr_callSX (As := [.int (i), .int (nI 0), .int (nI 11)]) d_JC_map_24 k_JC_map_41 rfl rfl (Nat.le_of_ble_eq_true rfl) (by decide) (by decide) (jc_rangeX hl h)))
theorem d_JC_map_27 : decode m_JC_map.2.1 27 = .ok (.aload_n 0, 1) := by decide +kernel
theorem d_JC_map_28 : decode m_JC_map.2.1 28 = .ok (.iload_n 1, 1) := by decide +kernel
theorem d_JC_map_29 : decode m_JC_map.2.1 29 = .ok (.iload_n 2, 1) := by decide +kernel
theorem k_JC_map_102 : jl_cv m_JC_map m_JC_ownMethod 102 2 = true := by decide +kernel
theorem d_JC_map_30 : decode m_JC_map.2.1 30 = .ok (.invokevirtual 102, 3) := by decide +kernel
theorem jc_map_N (hl : l.stackTraces = false) {k sl pc i : Nat} (hj : JcAt σ vf) (hw : WoAt σ tb pr ow fi ft mt) (hk : k < 6) (hs : sl < 4) (hpc : pc < 24) (hi : i < 12) (h : tb k = false ∨ mt (k * 4 + sl) = none) : jl_m l G m_JC_map [.ref 0, .int (nI k), .int (nI sl), .int (nI pc), .int (nI i)] σ (.inr xN) (σ) := by
  obtain ⟨hW, h2, h3, h4, h5, h6, h7⟩ := id hw; have h0 := hj
  refine jl_of (as := [.ref 0, .int (nI k), .int (nI sl), .int (nI pc), .int (nI i)]) rfl (by decide) hl (jl_cc rfl (jl_cc rfl (jl_cc rfl (jl_cc rfl (jl_cc rfl jl_ca))))) (Nat.le_of_ble_eq_true rfl) ?_
  show jl_W l G m_JC_map (0, 0) 0 [some (.ref 0), some (.int (nI k)), some (.int (nI sl)), some (.int (nI pc)), some (.int (nI i)), none] [] (σ) (.inr xN) (σ)
  refine jr_iload_n d_JC_map_0 rfl ?_
  refine jr_iconst ((nI (0))) d_JC_map_1 (by decide) ?_
  refine jr_iconst ((nI (5))) d_JC_map_2 (by decide) ?_
  refine jr_callS (As := [.int (nI k), .int (nI 0), .int (nI 5)]) d_JC_map_3 k_JC_map_41 rfl (Nat.le_of_ble_eq_true rfl) (by decide) (by decide) (jc_range hl (rg_ok (by omega) (by decide))) ?_
  show jl_W l G m_JC_map (1, 6) 6 [some (.ref 0), some (.int (nI k)), some (.int (nI sl)), some (.int (nI pc)), some (.int (nI i)), none] [] (σ) (.inr xN) (σ)
  refine jr_iload_n d_JC_map_6 rfl ?_
  refine jr_iconst ((nI (0))) d_JC_map_7 (by decide) ?_
  refine jr_iconst ((nI (3))) d_JC_map_8 (by decide) ?_
  refine jr_callS (As := [.int (nI sl), .int (nI 0), .int (nI 3)]) d_JC_map_9 k_JC_map_41 rfl (Nat.le_of_ble_eq_true rfl) (by decide) (by decide) (jc_range hl (rg_ok (by omega) (by decide))) ?_
  show jl_W l G m_JC_map (2, 12) 12 [some (.ref 0), some (.int (nI k)), some (.int (nI sl)), some (.int (nI pc)), some (.int (nI i)), none] [] (σ) (.inr xN) (σ)
  refine jr_iload_n d_JC_map_12 rfl ?_
  refine jr_iconst ((nI (0))) d_JC_map_13 (by decide) ?_
  refine jr_bipush ((nI (23))) d_JC_map_14 (by decide) ?_
  refine jr_callS (As := [.int (nI pc), .int (nI 0), .int (nI 23)]) d_JC_map_16 k_JC_map_41 rfl (Nat.le_of_ble_eq_true rfl) (by decide) (by decide) (jc_range hl (rg_ok (by omega) (by decide))) ?_
  show jl_W l G m_JC_map (3, 18) 19 [some (.ref 0), some (.int (nI k)), some (.int (nI sl)), some (.int (nI pc)), some (.int (nI i)), none] [] (σ) (.inr xN) (σ)
  refine jr_iload d_JC_map_19 rfl ?_
  refine jr_iconst ((nI (0))) d_JC_map_21 (by decide) ?_
  refine jr_bipush ((nI (11))) d_JC_map_22 (by decide) ?_
  refine jr_callS (As := [.int (nI i), .int (nI 0), .int (nI 11)]) d_JC_map_24 k_JC_map_41 rfl (Nat.le_of_ble_eq_true rfl) (by decide) (by decide) (jc_range hl (rg_ok (by omega) (by decide))) ?_
  show jl_W l G m_JC_map (4, 24) 27 [some (.ref 0), some (.int (nI k)), some (.int (nI sl)), some (.int (nI pc)), some (.int (nI i)), none] [] (σ) (.inr xN) (σ)
  refine jr_aload_n d_JC_map_27 rfl ?_
  refine jr_iload_n d_JC_map_28 rfl ?_
  refine jr_iload_n d_JC_map_29 rfl ?_
  exact jl_oeq (rfl) (jl_seq (rfl) (jr_callVX (As := [.int (nI k), .int (nI sl)]) d_JC_map_30 k_JC_map_102 rfl h0 rfl rfl rfl (Nat.le_of_ble_eq_true rfl) (by decide) (by decide) (jc_own_X hl hj hw hk hs h)))
theorem d_JC_map_33 : decode m_JC_map.2.1 33 = .ok (.astore 5, 2) := by decide +kernel
theorem d_JC_map_35 : decode m_JC_map.2.1 35 = .ok (.aload 5, 2) := by decide +kernel
theorem d_JC_map_37 : decode m_JC_map.2.1 37 = .ok (.iload_n 3, 1) := by decide +kernel
theorem k_JC_map_129 : jl_cv m_JC_map m_Me_hasMap 129 1 = true := by decide +kernel
theorem d_JC_map_38 : decode m_JC_map.2.1 38 = .ok (.invokevirtual 129, 3) := by decide +kernel
theorem d_JC_map_41 : decode m_JC_map.2.1 41 = .ok (.ifCond .eq 19, 3) := by decide +kernel
theorem d_JC_map_60 : decode m_JC_map.2.1 60 = .ok (.bipush (-2), 2) := by decide +kernel
theorem d_JC_map_62 : decode m_JC_map.2.1 62 = .ok (.ireturn, 1) := by decide +kernel
theorem d_JC_map_44 : decode m_JC_map.2.1 44 = .ok (.aload 5, 2) := by decide +kernel
theorem f_JC_map_132 : jl_fd m_JC_map 132 2 11 = true := by decide +kernel
theorem d_JC_map_46 : decode m_JC_map.2.1 46 = .ok (.getfield 132, 3) := by decide +kernel
theorem d_JC_map_49 : decode m_JC_map.2.1 49 = .ok (.iload_n 3, 1) := by decide +kernel
theorem d_JC_map_50 : decode m_JC_map.2.1 50 = .ok (.bipush 12, 2) := by decide +kernel
theorem d_JC_map_52 : decode m_JC_map.2.1 52 = .ok (.imul, 1) := by decide +kernel
theorem d_JC_map_53 : decode m_JC_map.2.1 53 = .ok (.iload 4, 2) := by decide +kernel
theorem d_JC_map_55 : decode m_JC_map.2.1 55 = .ok (.iadd, 1) := by decide +kernel
theorem d_JC_map_56 : decode m_JC_map.2.1 56 = .ok (.iaload, 1) := by decide +kernel
theorem d_JC_map_57 : decode m_JC_map.2.1 57 = .ok (.goto 5, 3) := by decide +kernel
theorem jc_map (hl : l.stackTraces = false) {k sl pc i : Nat} (hj : JcAt σ vf) (hw : WoAt σ tb pr ow fi ft mt) (hm : MeAt σ a q1 q2 rs op ag sz fr tt tg kd nc mp fh) (hk : k < 6) (hs : sl < 4) (hpc : pc < 24) (hi : i < 12) (ht : tb k = true) (hq : mt (k * 4 + sl) = some a) : jl_m l G m_JC_map [.ref 0, .int (nI k), .int (nI sl), .int (nI pc), .int (nI i)] σ (.inl (some (.int (if mp (pc * 12 + 6) = -2 then -2 else mp (pc * 12 + i))))) (σ) := by
  obtain ⟨hW, h2, h3, h4, h5, h6, h7⟩ := id hw; have h0 := hj; obtain ⟨hM, g1, g2, g3, g4, g5, g6, g7, g8⟩ := id hm
  refine jl_of (as := [.ref 0, .int (nI k), .int (nI sl), .int (nI pc), .int (nI i)]) rfl (by decide) hl (jl_cc rfl (jl_cc rfl (jl_cc rfl (jl_cc rfl (jl_cc rfl jl_ca))))) (Nat.le_of_ble_eq_true rfl) ?_
  show jl_W l G m_JC_map (0, 0) 0 [some (.ref 0), some (.int (nI k)), some (.int (nI sl)), some (.int (nI pc)), some (.int (nI i)), none] [] (σ) (.inl (some (.int (if mp (pc * 12 + 6) = -2 then -2 else mp (pc * 12 + i))))) (σ)
  refine jr_iload_n d_JC_map_0 rfl ?_
  refine jr_iconst ((nI (0))) d_JC_map_1 (by decide) ?_
  refine jr_iconst ((nI (5))) d_JC_map_2 (by decide) ?_
  refine jr_callS (As := [.int (nI k), .int (nI 0), .int (nI 5)]) d_JC_map_3 k_JC_map_41 rfl (Nat.le_of_ble_eq_true rfl) (by decide) (by decide) (jc_range hl (rg_ok (by omega) (by decide))) ?_
  show jl_W l G m_JC_map (1, 6) 6 [some (.ref 0), some (.int (nI k)), some (.int (nI sl)), some (.int (nI pc)), some (.int (nI i)), none] [] (σ) (.inl (some (.int (if mp (pc * 12 + 6) = -2 then -2 else mp (pc * 12 + i))))) (σ)
  refine jr_iload_n d_JC_map_6 rfl ?_
  refine jr_iconst ((nI (0))) d_JC_map_7 (by decide) ?_
  refine jr_iconst ((nI (3))) d_JC_map_8 (by decide) ?_
  refine jr_callS (As := [.int (nI sl), .int (nI 0), .int (nI 3)]) d_JC_map_9 k_JC_map_41 rfl (Nat.le_of_ble_eq_true rfl) (by decide) (by decide) (jc_range hl (rg_ok (by omega) (by decide))) ?_
  show jl_W l G m_JC_map (2, 12) 12 [some (.ref 0), some (.int (nI k)), some (.int (nI sl)), some (.int (nI pc)), some (.int (nI i)), none] [] (σ) (.inl (some (.int (if mp (pc * 12 + 6) = -2 then -2 else mp (pc * 12 + i))))) (σ)
  refine jr_iload_n d_JC_map_12 rfl ?_
  refine jr_iconst ((nI (0))) d_JC_map_13 (by decide) ?_
  refine jr_bipush ((nI (23))) d_JC_map_14 (by decide) ?_
  refine jr_callS (As := [.int (nI pc), .int (nI 0), .int (nI 23)]) d_JC_map_16 k_JC_map_41 rfl (Nat.le_of_ble_eq_true rfl) (by decide) (by decide) (jc_range hl (rg_ok (by omega) (by decide))) ?_
  show jl_W l G m_JC_map (3, 18) 19 [some (.ref 0), some (.int (nI k)), some (.int (nI sl)), some (.int (nI pc)), some (.int (nI i)), none] [] (σ) (.inl (some (.int (if mp (pc * 12 + 6) = -2 then -2 else mp (pc * 12 + i))))) (σ)
  refine jr_iload d_JC_map_19 rfl ?_
  refine jr_iconst ((nI (0))) d_JC_map_21 (by decide) ?_
  refine jr_bipush ((nI (11))) d_JC_map_22 (by decide) ?_
  refine jr_callS (As := [.int (nI i), .int (nI 0), .int (nI 11)]) d_JC_map_24 k_JC_map_41 rfl (Nat.le_of_ble_eq_true rfl) (by decide) (by decide) (jc_range hl (rg_ok (by omega) (by decide))) ?_
  show jl_W l G m_JC_map (4, 24) 27 [some (.ref 0), some (.int (nI k)), some (.int (nI sl)), some (.int (nI pc)), some (.int (nI i)), none] [] (σ) (.inl (some (.int (if mp (pc * 12 + 6) = -2 then -2 else mp (pc * 12 + i))))) (σ)
  refine jr_aload_n d_JC_map_27 rfl ?_
  refine jr_iload_n d_JC_map_28 rfl ?_
  refine jr_iload_n d_JC_map_29 rfl ?_
  refine jr_callV (As := [.int (nI k), .int (nI sl)]) d_JC_map_30 k_JC_map_102 h0 rfl rfl rfl (Nat.le_of_ble_eq_true rfl) (by decide) (by decide) (jc_own_T hl hj hw hk hs ht hq) ?_
  show jl_W l G m_JC_map (5, 30) 33 [some (.ref 0), some (.int (nI k)), some (.int (nI sl)), some (.int (nI pc)), some (.int (nI i)), none] [.ref a] (σ) (.inl (some (.int (if mp (pc * 12 + 6) = -2 then -2 else mp (pc * 12 + i))))) (σ)
  refine jr_astore d_JC_map_33 (by decide) ?_
  show jl_W l G m_JC_map (5, 30) 35 [some (.ref 0), some (.int (nI k)), some (.int (nI sl)), some (.int (nI pc)), some (.int (nI i)), some (.ref a)] [] (σ) (.inl (some (.int (if mp (pc * 12 + 6) = -2 then -2 else mp (pc * 12 + i))))) (σ)
  refine jr_aload d_JC_map_35 rfl ?_
  refine jr_iload_n d_JC_map_37 rfl ?_
  refine jr_callV (As := [.int (nI pc)]) d_JC_map_38 k_JC_map_129 hM rfl rfl rfl (Nat.le_of_ble_eq_true rfl) (by decide) (by decide) (me_hasMap hl hm hpc) ?_
  show jl_W l G m_JC_map (5, 30) 41 [some (.ref 0), some (.int (nI k)), some (.int (nI sl)), some (.int (nI pc)), some (.int (nI i)), some (.ref a)] [.int (bi (decide (¬ mp (pc * 12 + 6) = -2)))] (σ) (.inl (some (.int (if mp (pc * 12 + 6) = -2 then -2 else mp (pc * 12 + i))))) (σ)
  refine jr_if_eq 60 d_JC_map_41 (by decide) (fun c1 => ?_) (fun c1 => ?_)
  · refine jr_bipush ((-2)) d_JC_map_60 (by decide) ?_
    exact jr_iretE d_JC_map_62 rfl (by rw [if_pos (Decidable.not_not.mp (of_decide_eq_false (bi_0.mp c1)))]) (rfl) (by decide) (by decide)
  · refine jr_aload d_JC_map_44 rfl ?_
    refine jr_getf d_JC_map_46 f_JC_map_132 hM rfl ?_
    refine jr_iload_n d_JC_map_49 rfl ?_
    refine jr_bipush ((nI (12))) d_JC_map_50 (by decide) ?_
    refine jr_imulN d_JC_map_52 ?_
    refine jr_iload d_JC_map_53 rfl ?_
    refine jr_iaddN d_JC_map_55 ?_
    refine jr_ialdN d_JC_map_56 g7 (by omega) (by omega) ?_
    refine jr_goto 62 d_JC_map_57 (by decide) ?_
    exact jr_iretE d_JC_map_62 rfl (by rw [if_neg (of_decide_eq_true (bi_nf c1))]) (rfl) (by decide) (by decide)
end JMm
