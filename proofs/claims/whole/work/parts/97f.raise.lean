/-! the class Machine: catches, raise (wip/gen/p97f.py) -/
section JMf
variable {l : Launch} {G : jl_G} {σ : jl_S}
variable {tb : Nat → Bool} {pr : Nat → Option Nat} {ow fi ft : Nat → Nat} {mt : Nat → Option Nat}
variable {σ0 : jl_S} {N t m p b : Nat} {R : Rw} {V : Nat → Int32} {fs : List Fm} {H : Hp} {su dt dq aw x : Int32}
variable {sg : Int32 → Option Sg} {D : Nat → MDt} {MP : Nat → Nat → Int32} {FH : Nat → Nat → Bool} {a c i : Nat} {y : Option Nat} {v : Int32} {uw : Nat → Option Nat} {ps : Nat → Nat} {ty : Rw} {va : Nat → Int32} {g : Fm} {gs : List Fm} {q1 q2 : Option Nat}
/-- the number of the METHOD that CATCHERS are looked for in; none is left: -1 -/
def frI : List Fm → Int32
  | [] => -1
  | _ :: gs => nI gs.length
theorem frI_m (g : Fm) (gs : List Fm) : nI gs.length + (-1) = frI gs := by
  cases gs with
  | nil => show nI 0 + (-1) = -1; decide +kernel
  | cons k ks =>
    show nI (ks.length + 1) + (-1) = nI ks.length
    rw [← nI_add]
    have : nI 1 + (-1) = 0 := by decide +kernel
    rw [Int32.add_assoc, this, Int32.add_zero]
theorem d_Ma_catches_0 : decode m_Ma_catches.2.1 0 = .ok (.iload_n 1, 1) := by decide +kernel
theorem d_Ma_catches_1 : decode m_Ma_catches.2.1 1 = .ok (.bipush 6, 2) := by decide +kernel
theorem d_Ma_catches_3 : decode m_Ma_catches.2.1 3 = .ok (.if_icmp .eq 24, 3) := by decide +kernel
theorem d_Ma_catches_27 : decode m_Ma_catches.2.1 27 = .ok (.iconst 1, 1) := by decide +kernel
theorem d_Ma_catches_28 : decode m_Ma_catches.2.1 28 = .ok (.goto 4, 3) := by decide +kernel
theorem d_Ma_catches_32 : decode m_Ma_catches.2.1 32 = .ok (.ireturn, 1) := by decide +kernel
theorem d_Ma_catches_6 : decode m_Ma_catches.2.1 6 = .ok (.iload_n 2, 1) := by decide +kernel
theorem d_Ma_catches_7 : decode m_Ma_catches.2.1 7 = .ok (.bipush 10, 2) := by decide +kernel
theorem d_Ma_catches_9 : decode m_Ma_catches.2.1 9 = .ok (.if_icmp .lt 22, 3) := by decide +kernel
theorem d_Ma_catches_31 : decode m_Ma_catches.2.1 31 = .ok (.iconst 0, 1) := by decide +kernel
theorem ma_catN (hl : l.stackTraces = false)  (hX : MaAt σ (nI t) su dt dq aw) (hw : WoAt σ tb pr ow fi ft mt) (hc : c < 7) : jl_m l G m_Ma_catches [.ref 13, .int (nI c), .int (-1)] σ (.inl (some (.int (bi (cty pr c none))))) (σ) := by
  obtain ⟨hW, h2, h3, h4, h5w, h6w, h7⟩ := id hw
  refine jl_of (as := [.ref 13, .int (nI c), .int (-1)]) rfl (by decide) hl (jl_cc rfl (jl_cc rfl (jl_cc rfl jl_ca))) (Nat.le_of_ble_eq_true rfl) ?_
  show jl_W l G m_Ma_catches (0, 0) 0 [some (.ref 13), some (.int (nI c)), some (.int (-1))] [] (σ) (.inl (some (.int (bi (cty pr c none))))) (σ)
  refine jr_iload_n d_Ma_catches_0 rfl ?_
  refine jr_bipush ((nI (6))) d_Ma_catches_1 (by decide) ?_
  refine jr_icmp_eqN 27 d_Ma_catches_3 (by decide) (by omega) (by omega) (fun c1 => ?_) (fun c1 => ?_)
  · refine jr_iconst ((nI (1))) d_Ma_catches_27 (by decide) ?_
    refine jr_goto 32 d_Ma_catches_28 (by decide) ?_
    exact jr_zretE d_Ma_catches_32 rfl (by decide) (bo1 (by first | (simp [cty, c1]; done) | (simp [cty, c1]; omega))) (rfl) (by decide) (by decide)
  · refine jr_iload_n d_Ma_catches_6 rfl ?_
    refine jr_bipush ((nI (10))) d_Ma_catches_7 (by decide) ?_
    refine jr_icmp_lt 31 d_Ma_catches_9 (by decide) (fun _ => ?_) (fun z => absurd (en_m1lt (by omega)) z)
    refine jr_iconst ((nI (0))) d_Ma_catches_31 (by decide) ?_
    exact jr_zretE d_Ma_catches_32 rfl (by decide) (bo0 (by first | (simp [cty, c1]; done) | (simp [cty, c1]; omega))) (rfl) (by decide) (by decide)
theorem d_Ma_catches_12 : decode m_Ma_catches.2.1 12 = .ok (.aload_n 0, 1) := by decide +kernel
theorem f_Ma_catches_50 : jl_fd m_Ma_catches 50 1 0 = true := by decide +kernel
theorem d_Ma_catches_13 : decode m_Ma_catches.2.1 13 = .ok (.getfield 50, 3) := by decide +kernel
theorem d_Ma_catches_16 : decode m_Ma_catches.2.1 16 = .ok (.iload_n 1, 1) := by decide +kernel
theorem d_Ma_catches_17 : decode m_Ma_catches.2.1 17 = .ok (.iload_n 2, 1) := by decide +kernel
theorem d_Ma_catches_18 : decode m_Ma_catches.2.1 18 = .ok (.bipush 10, 2) := by decide +kernel
theorem d_Ma_catches_20 : decode m_Ma_catches.2.1 20 = .ok (.isub, 1) := by decide +kernel
theorem k_Ma_catches_152 : jl_cv m_Ma_catches m_Wo_isOrIsAbove 152 2 = true := by decide +kernel
theorem d_Ma_catches_21 : decode m_Ma_catches.2.1 21 = .ok (.invokevirtual 152, 3) := by decide +kernel
theorem d_Ma_catches_24 : decode m_Ma_catches.2.1 24 = .ok (.ifCond .eq 7, 3) := by decide +kernel
theorem ma_catS (hl : l.stackTraces = false)  (hX : MaAt σ (nI t) su dt dq aw) (hw : WoAt σ tb pr ow fi ft mt) (hc : c < 7) (ha : a < 16) (hok : ∀ j, ob 6 (pr j)) : jl_m l G m_Ma_catches [.ref 13, .int (nI c), .int (nI a)] σ (.inl (some (.int (bi (cty pr c (some a)))))) (σ) := by
  obtain ⟨hW, h2, h3, h4, h5w, h6w, h7⟩ := id hw
  refine jl_of (as := [.ref 13, .int (nI c), .int (nI a)]) rfl (by decide) hl (jl_cc rfl (jl_cc rfl (jl_cc rfl jl_ca))) (Nat.le_of_ble_eq_true rfl) ?_
  show jl_W l G m_Ma_catches (0, 0) 0 [some (.ref 13), some (.int (nI c)), some (.int (nI a))] [] (σ) (.inl (some (.int (bi (cty pr c (some a)))))) (σ)
  refine jr_iload_n d_Ma_catches_0 rfl ?_
  refine jr_bipush ((nI (6))) d_Ma_catches_1 (by decide) ?_
  refine jr_icmp_eqN 27 d_Ma_catches_3 (by decide) (by omega) (by omega) (fun c1 => ?_) (fun c1 => ?_)
  · refine jr_iconst ((nI (1))) d_Ma_catches_27 (by decide) ?_
    refine jr_goto 32 d_Ma_catches_28 (by decide) ?_
    exact jr_zretE d_Ma_catches_32 rfl (by decide) (bo1 (by first | (simp [cty, c1]; done) | (simp [cty, c1]; omega))) (rfl) (by decide) (by decide)
  · refine jr_iload_n d_Ma_catches_6 rfl ?_
    refine jr_bipush ((nI (10))) d_Ma_catches_7 (by decide) ?_
    refine jr_icmp_ltN 31 d_Ma_catches_9 (by decide) (by omega) (by omega) (fun c2 => ?_) (fun c2 => ?_)
    · refine jr_iconst ((nI (0))) d_Ma_catches_31 (by decide) ?_
      exact jr_zretE d_Ma_catches_32 rfl (by decide) (bo0 (by first | (simp [cty, c1, c2, Nat.not_le.mpr c2]; done) | (simp [cty, c1, c2, Nat.not_le.mpr c2]; omega))) (rfl) (by decide) (by decide)
    · refine jr_aload_n d_Ma_catches_12 rfl ?_
      refine jr_getf d_Ma_catches_13 f_Ma_catches_50 hX rfl ?_
      refine jr_iload_n d_Ma_catches_16 rfl ?_
      refine jr_iload_n d_Ma_catches_17 rfl ?_
      refine jr_bipush ((nI (10))) d_Ma_catches_18 (by decide) ?_
      refine jr_isubN d_Ma_catches_20 (by omega) ?_
      refine jr_callV (As := [.int (nI c), .int (nI ((a) - (10)))]) d_Ma_catches_21 k_Ma_catches_152 hW rfl rfl rfl (Nat.le_of_ble_eq_true rfl) (by decide) (by decide) (wo_above (x := some (a - 10)) hl hw (by omega) hok (ob_s (by omega))) ?_
      show jl_W l G m_Ma_catches (0, 0) 24 [some (.ref 13), some (.int (nI c)), some (.int (nI a))] [.int (bi (ab pr c (some (a - 10))))] (σ) (.inl (some (.int (bi (cty pr c (some a)))))) (σ)
      refine jr_if_eq 31 d_Ma_catches_24 (by decide) (fun c3 => ?_) (fun c3 => ?_)
      · refine jr_iconst ((nI (0))) d_Ma_catches_31 (by decide) ?_
        exact jr_zretE d_Ma_catches_32 rfl (by decide) (bo0 (by first | (simp [cty, c1, c2, Nat.not_lt.mpr c2, bi_0.mp c3]; done) | (simp [cty, c1, c2, Nat.not_lt.mpr c2, bi_0.mp c3]; omega))) (rfl) (by decide) (by decide)
      · refine jr_iconst ((nI (1))) d_Ma_catches_27 (by decide) ?_
        refine jr_goto 32 d_Ma_catches_28 (by decide) ?_
        exact jr_zretE d_Ma_catches_32 rfl (by decide) (bo1 (by first | (simp [cty, c1, c2, Nat.not_lt.mpr c2, bi_nf c3]; done) | (simp [cty, c1, c2, Nat.not_lt.mpr c2, bi_nf c3]; omega))) (rfl) (by decide) (by decide)
theorem ma_cat (hl : l.stackTraces = false) (hX : MaAt σ (nI t) su dt dq aw) (hw : WoAt σ tb pr ow fi ft mt) (hc : c < 7) (hy : ob 16 y) (hok : ∀ j, ob 6 (pr j)) : jl_m l G m_Ma_catches [.ref 13, .int (nI c), .int (en y)] σ (.inl (some (.int (bi (cty pr c y))))) σ := by
  cases y with
  | none => exact ma_catN hl hX hw hc
  | some a => exact ma_catS hl hX hw hc (hy a rfl) hok
variable {rs : Nat} {op : Nat → Nat} {ag : Nat → Int32} {sz : Nat} {fr tt tg kd : Nat → Nat} {nc : Nat} {mp : Nat → Int32} {fh : Nat → Bool} {e n k : Nat} {wt : Int32}
theorem d_Ma_raise_23 : decode m_Ma_raise.2.1 23 = .ok (.iload 6, 2) := by decide +kernel
theorem d_Ma_raise_25 : decode m_Ma_raise.2.1 25 = .ok (.aload 5, 2) := by decide +kernel
theorem f_Ma_raise_136 : jl_fd m_Ma_raise 136 2 10 = true := by decide +kernel
theorem d_Ma_raise_27 : decode m_Ma_raise.2.1 27 = .ok (.getfield 136, 3) := by decide +kernel
theorem d_Ma_raise_30 : decode m_Ma_raise.2.1 30 = .ok (.if_icmp .ge 101, 3) := by decide +kernel
theorem d_Ma_raise_131 : decode m_Ma_raise.2.1 131 = .ok (.iinc 4 (-1), 3) := by decide +kernel
theorem d_Ma_raise_134 : decode m_Ma_raise.2.1 134 = .ok (.goto (-128), 3) := by decide +kernel
theorem d_Ma_raise_33 : decode m_Ma_raise.2.1 33 = .ok (.aload 5, 2) := by decide +kernel
theorem d_Ma_raise_35 : decode m_Ma_raise.2.1 35 = .ok (.iload 6, 2) := by decide +kernel
theorem d_Ma_raise_37 : decode m_Ma_raise.2.1 37 = .ok (.aload_n 0, 1) := by decide +kernel
theorem f_Ma_raise_24 : jl_fd m_Ma_raise 24 1 4 = true := by decide +kernel
theorem d_Ma_raise_38 : decode m_Ma_raise.2.1 38 = .ok (.getfield 24, 3) := by decide +kernel
theorem d_Ma_raise_41 : decode m_Ma_raise.2.1 41 = .ok (.iload 4, 2) := by decide +kernel
theorem d_Ma_raise_43 : decode m_Ma_raise.2.1 43 = .ok (.iaload, 1) := by decide +kernel
theorem k_Ma_raise_139 : jl_cv m_Ma_raise m_Me_isAround 139 2 = true := by decide +kernel
theorem d_Ma_raise_44 : decode m_Ma_raise.2.1 44 = .ok (.invokevirtual 139, 3) := by decide +kernel
theorem d_Ma_raise_47 : decode m_Ma_raise.2.1 47 = .ok (.ifCond .eq 78, 3) := by decide +kernel
theorem d_Ma_raise_125 : decode m_Ma_raise.2.1 125 = .ok (.iinc 6 1, 3) := by decide +kernel
theorem d_Ma_raise_128 : decode m_Ma_raise.2.1 128 = .ok (.goto (-105), 3) := by decide +kernel
theorem d_Ma_raise_50 : decode m_Ma_raise.2.1 50 = .ok (.aload_n 0, 1) := by decide +kernel
theorem d_Ma_raise_51 : decode m_Ma_raise.2.1 51 = .ok (.aload 5, 2) := by decide +kernel
theorem f_Ma_raise_143 : jl_fd m_Ma_raise 143 2 9 = true := by decide +kernel
theorem d_Ma_raise_53 : decode m_Ma_raise.2.1 53 = .ok (.getfield 143, 3) := by decide +kernel
theorem d_Ma_raise_56 : decode m_Ma_raise.2.1 56 = .ok (.iload 6, 2) := by decide +kernel
theorem d_Ma_raise_58 : decode m_Ma_raise.2.1 58 = .ok (.iaload, 1) := by decide +kernel
theorem d_Ma_raise_59 : decode m_Ma_raise.2.1 59 = .ok (.iload_n 2, 1) := by decide +kernel
theorem k_Ma_raise_146 : jl_cv m_Ma_raise m_Ma_catches 146 2 = true := by decide +kernel
theorem d_Ma_raise_60 : decode m_Ma_raise.2.1 60 = .ok (.invokevirtual 146, 3) := by decide +kernel
theorem d_Ma_raise_63 : decode m_Ma_raise.2.1 63 = .ok (.ifCond .eq 62, 3) := by decide +kernel
theorem d_Ma_raise_66 : decode m_Ma_raise.2.1 66 = .ok (.aload_n 0, 1) := by decide +kernel
theorem d_Ma_raise_67 : decode m_Ma_raise.2.1 67 = .ok (.iload 4, 2) := by decide +kernel
theorem p_Ma_raise_34 : jl_fp m_Ma_raise 34 1 7 = true := by decide +kernel
theorem d_Ma_raise_69 : decode m_Ma_raise.2.1 69 = .ok (.putfield 34, 3) := by decide +kernel
theorem d_Ma_raise_72 : decode m_Ma_raise.2.1 72 = .ok (.aload_n 0, 1) := by decide +kernel
theorem d_Ma_raise_73 : decode m_Ma_raise.2.1 73 = .ok (.getfield 24, 3) := by decide +kernel
theorem d_Ma_raise_76 : decode m_Ma_raise.2.1 76 = .ok (.aload_n 0, 1) := by decide +kernel
theorem f_Ma_raise_34 : jl_fd m_Ma_raise 34 1 7 = true := by decide +kernel
theorem d_Ma_raise_77 : decode m_Ma_raise.2.1 77 = .ok (.getfield 34, 3) := by decide +kernel
theorem d_Ma_raise_80 : decode m_Ma_raise.2.1 80 = .ok (.aload 5, 2) := by decide +kernel
theorem f_Ma_raise_149 : jl_fd m_Ma_raise 149 2 8 = true := by decide +kernel
theorem d_Ma_raise_82 : decode m_Ma_raise.2.1 82 = .ok (.getfield 149, 3) := by decide +kernel
theorem d_Ma_raise_85 : decode m_Ma_raise.2.1 85 = .ok (.iload 6, 2) := by decide +kernel
theorem d_Ma_raise_87 : decode m_Ma_raise.2.1 87 = .ok (.iaload, 1) := by decide +kernel
theorem d_Ma_raise_88 : decode m_Ma_raise.2.1 88 = .ok (.iastore, 1) := by decide +kernel
theorem d_Ma_raise_89 : decode m_Ma_raise.2.1 89 = .ok (.aload_n 0, 1) := by decide +kernel
theorem f_Ma_raise_28 : jl_fd m_Ma_raise 28 1 5 = true := by decide +kernel
theorem d_Ma_raise_90 : decode m_Ma_raise.2.1 90 = .ok (.getfield 28, 3) := by decide +kernel
theorem d_Ma_raise_93 : decode m_Ma_raise.2.1 93 = .ok (.aload_n 0, 1) := by decide +kernel
theorem d_Ma_raise_94 : decode m_Ma_raise.2.1 94 = .ok (.getfield 34, 3) := by decide +kernel
theorem d_Ma_raise_97 : decode m_Ma_raise.2.1 97 = .ok (.bipush 12, 2) := by decide +kernel
theorem d_Ma_raise_99 : decode m_Ma_raise.2.1 99 = .ok (.imul, 1) := by decide +kernel
theorem d_Ma_raise_100 : decode m_Ma_raise.2.1 100 = .ok (.bipush 6, 2) := by decide +kernel
theorem d_Ma_raise_102 : decode m_Ma_raise.2.1 102 = .ok (.iadd, 1) := by decide +kernel
theorem d_Ma_raise_103 : decode m_Ma_raise.2.1 103 = .ok (.iconst 0, 1) := by decide +kernel
theorem d_Ma_raise_104 : decode m_Ma_raise.2.1 104 = .ok (.iastore, 1) := by decide +kernel
theorem d_Ma_raise_105 : decode m_Ma_raise.2.1 105 = .ok (.aload 5, 2) := by decide +kernel
theorem d_Ma_raise_107 : decode m_Ma_raise.2.1 107 = .ok (.getfield 143, 3) := by decide +kernel
theorem d_Ma_raise_110 : decode m_Ma_raise.2.1 110 = .ok (.iload 6, 2) := by decide +kernel
theorem d_Ma_raise_112 : decode m_Ma_raise.2.1 112 = .ok (.iaload, 1) := by decide +kernel
theorem d_Ma_raise_113 : decode m_Ma_raise.2.1 113 = .ok (.bipush 6, 2) := by decide +kernel
theorem d_Ma_raise_115 : decode m_Ma_raise.2.1 115 = .ok (.if_icmp .eq 9, 3) := by decide +kernel
theorem d_Ma_raise_124 : decode m_Ma_raise.2.1 124 = .ok (.return_, 1) := by decide +kernel
theorem d_Ma_raise_118 : decode m_Ma_raise.2.1 118 = .ok (.aload_n 0, 1) := by decide +kernel
theorem d_Ma_raise_119 : decode m_Ma_raise.2.1 119 = .ok (.iload_n 2, 1) := by decide +kernel
theorem d_Ma_raise_120 : decode m_Ma_raise.2.1 120 = .ok (.iload_n 3, 1) := by decide +kernel
theorem k_Ma_raise_133 : jl_cv m_Ma_raise m_Ma_put 133 2 = true := by decide +kernel
theorem d_Ma_raise_121 : decode m_Ma_raise.2.1 121 = .ok (.invokevirtual 133, 3) := by decide +kernel
theorem ma_raise_i (hl : l.stackTraces = false) {P : jl_O → jl_S → Prop}  (hX : MaAt σ (nI t) su dt dq aw) (u1 : σ[18]? = some (.inl (3, 12, .inr (.inr (.inr (.inr uw)))))) (u2 : σ[19]? = some (.inl (0, 12, .inl fun j => nI (ps j)))) (t1 : σ[20]? = some (.inl (0, 144, .inl fun j => en (ty j)))) (t2 : σ[21]? = some (.inl (0, 144, .inl va))) (hS : StAt σ H.sz H.ty H.va H.n) (hto : ∀ j, ob 16 (H.ty j)) (hF : FrK σ0 σ) (hw : WoAt σ tb pr ow fi ft mt) (hm : MeAt σ a q1 q2 rs op ag sz fr tt tg kd nc mp fh) (hok : ∀ j, ob 6 (pr j)) (ha : 54 ≤ a) (he : e < 12) (hp : p < 24) (hnc : nc ≤ 2) (hcf : ∀ i, i < 2 → fr i < 100 ∧ tt i < 100 ∧ tg i < 24 ∧ kd i < 7) (hy : ob 16 y) (hx : FX mt uw ps ty va 6 e m p R V fs) : ∀ (nn : Nat) (i : Nat), nc - i < nn → i ≤ nc → (cti pr (q1, q2, rs, op, ag, sz, fr, tt, tg, kd, nc) p y (nc - i) i = none → jl_E l G m_Ma_raise (0, 0) 6 [some (.ref 13), some (.int (wt)), some (.int (en y)), some (.int (v)), some (.int ((nI (e)) + (-1))), none, none] [] σ P) → (∀ k σ', cti pr (q1, q2, rs, op, ag, sz, fr, tt, tg, kd, nc) p y (nc - i) i = some k → kd k = 6 → KB σ0 mt σ' 7 e m (tg k) (va_up R 6 (some 0)) V fs H su dt dq aw → P (.inl none) σ') → (∀ k σ', cti pr (q1, q2, rs, op, ag, sz, fr, tt, tg, kd, nc) p y (nc - i) i = some k → kd k ≠ 6 → KB σ0 mt σ' 8 e m (tg k) (psh R 0 y) (va_up V 7 v) fs H su dt dq aw → P (.inl none) σ') → jl_E l G m_Ma_raise (0, 0) 23 [some (.ref 13), some (.int (wt)), some (.int (en y)), some (.int (v)), some (.int (nI e)), some (.ref a), some (.int (nI i))] [] σ P := by
  obtain ⟨s0, s1, s2, s3⟩ := id hS
  obtain ⟨hW, w2, w3, w4, w5, w6, w7⟩ := id hw
  obtain ⟨hM, g1, g2, g3, g4, g5, g6, g7, g8⟩ := id hm
  intro nn
  induction nn with
  | zero => intro i hnn; exact absurd hnn (Nat.not_lt_zero _)
  | succ nn ihn =>
    intro i hnn hi hN h1 h2
    refine er_iload d_Ma_raise_23 rfl ?_
    refine er_aload d_Ma_raise_25 rfl ?_
    refine er_getf d_Ma_raise_27 f_Ma_raise_136 hM rfl ?_
    refine er_icmp_geN 131 d_Ma_raise_30 (by decide) (by omega) (by omega) (fun c1 => ?_) (fun c1 => ?_)
    · refine er_iinc ((nI (e)) + (-1)) d_Ma_raise_131 (by decide) rfl rfl ?_
      refine er_goto 6 d_Ma_raise_134 (by decide) ?_
      exact er_weak (ls' := [some (.ref 13), some (.int (wt)), some (.int (en y)), some (.int (v)), some (.int ((nI (e)) + (-1))), none, none]) (fun q v hv => by match q, hv with | 0, hv => exact hv | 1, hv => exact hv | 2, hv => exact hv | 3, hv => exact hv | 4, hv => exact hv | 5, hv => cases hv | 6, hv => cases hv | q + 7, hv => cases hv) (hN (by rw [show nc - i = 0 by omega]; rfl))
    · have hcfi := hcf i (by omega)
      refine er_aload d_Ma_raise_33 rfl ?_
      refine er_iload d_Ma_raise_35 rfl ?_
      refine er_aload_n d_Ma_raise_37 rfl ?_
      refine er_getf d_Ma_raise_38 f_Ma_raise_24 hX rfl ?_
      refine er_iload d_Ma_raise_41 rfl ?_
      refine er_ialdQ (v := (nI (p))) d_Ma_raise_43 u2 (by omega) (by omega) (congrArg nI hx.1.2.1) ?_
      refine er_callV (As := [.int (nI i), .int (nI p)]) d_Ma_raise_44 k_Ma_raise_139 hM rfl rfl rfl (Nat.le_of_ble_eq_true rfl) (by decide) (by decide) (me_around hl hm (by omega) (by omega) (hcf i (by omega)).1 (hcf i (by omega)).2.1) ?_
      show jl_E l G m_Ma_raise (0, 0) 47 [some (.ref 13), some (.int (wt)), some (.int (en y)), some (.int (v)), some (.int (nI e)), some (.ref a), some (.int (nI i))] [.int (bi (aro fr tt i p))] (σ) P
      refine er_if_eq 125 d_Ma_raise_47 (by decide) (fun c2 => ?_) (fun c2 => ?_)
      · refine er_iinc ((nI (i + 1))) d_Ma_raise_125 (by decide) rfl (jl_inc _) ?_
        show jl_E l G m_Ma_raise (0, 0) 128 [some (.ref 13), some (.int (wt)), some (.int (en y)), some (.int (v)), some (.int (nI e)), some (.ref a), some (.int (nI (i + 1)))] [] (σ) P
        refine er_goto 23 d_Ma_raise_128 (by decide) ?_
        exact ihn (i + 1) (by omega) (by omega) (fun z => hN ((show cti pr (q1, q2, rs, op, ag, sz, fr, tt, tg, kd, nc) p y (nc - i) i = cti pr (q1, q2, rs, op, ag, sz, fr, tt, tg, kd, nc) p y (nc - (i + 1)) (i + 1) by rw [show nc - i = (nc - (i + 1)) + 1 by omega, cti, if_neg (by simp [dfr, dtt, dkd, c1, Nat.not_le.mpr c1, bi_0.mp c2])]).trans z)) (fun k σ' z => h1 k σ' ((show cti pr (q1, q2, rs, op, ag, sz, fr, tt, tg, kd, nc) p y (nc - i) i = cti pr (q1, q2, rs, op, ag, sz, fr, tt, tg, kd, nc) p y (nc - (i + 1)) (i + 1) by rw [show nc - i = (nc - (i + 1)) + 1 by omega, cti, if_neg (by simp [dfr, dtt, dkd, c1, Nat.not_le.mpr c1, bi_0.mp c2])]).trans z)) (fun k σ' z => h2 k σ' ((show cti pr (q1, q2, rs, op, ag, sz, fr, tt, tg, kd, nc) p y (nc - i) i = cti pr (q1, q2, rs, op, ag, sz, fr, tt, tg, kd, nc) p y (nc - (i + 1)) (i + 1) by rw [show nc - i = (nc - (i + 1)) + 1 by omega, cti, if_neg (by simp [dfr, dtt, dkd, c1, Nat.not_le.mpr c1, bi_0.mp c2])]).trans z))
      · refine er_aload_n d_Ma_raise_50 rfl ?_
        refine er_aload d_Ma_raise_51 rfl ?_
        refine er_getf d_Ma_raise_53 f_Ma_raise_143 hM rfl ?_
        refine er_iload d_Ma_raise_56 rfl ?_
        refine er_ialdN d_Ma_raise_58 g6 (by omega) (by omega) ?_
        refine er_iload_n d_Ma_raise_59 rfl ?_
        refine er_callV (As := [.int (nI (kd (i))), .int (en y)]) d_Ma_raise_60 k_Ma_raise_146 hX rfl rfl rfl (Nat.le_of_ble_eq_true rfl) (by decide) (by decide) (ma_cat hl hX hw (hcf i (by omega)).2.2.2 hy hok) ?_
        show jl_E l G m_Ma_raise (0, 0) 63 [some (.ref 13), some (.int (wt)), some (.int (en y)), some (.int (v)), some (.int (nI e)), some (.ref a), some (.int (nI i))] [.int (bi (cty pr (kd i) y))] (σ) P
        refine er_if_eq 125 d_Ma_raise_63 (by decide) (fun c3 => ?_) (fun c3 => ?_)
        · refine er_iinc ((nI (i + 1))) d_Ma_raise_125 (by decide) rfl (jl_inc _) ?_
          show jl_E l G m_Ma_raise (0, 0) 128 [some (.ref 13), some (.int (wt)), some (.int (en y)), some (.int (v)), some (.int (nI e)), some (.ref a), some (.int (nI (i + 1)))] [] (σ) P
          refine er_goto 23 d_Ma_raise_128 (by decide) ?_
          exact ihn (i + 1) (by omega) (by omega) (fun z => hN ((show cti pr (q1, q2, rs, op, ag, sz, fr, tt, tg, kd, nc) p y (nc - i) i = cti pr (q1, q2, rs, op, ag, sz, fr, tt, tg, kd, nc) p y (nc - (i + 1)) (i + 1) by rw [show nc - i = (nc - (i + 1)) + 1 by omega, cti, if_neg (by simp [dfr, dtt, dkd, c1, Nat.not_le.mpr c1, bi_nf c2, bi_0.mp c3])]).trans z)) (fun k σ' z => h1 k σ' ((show cti pr (q1, q2, rs, op, ag, sz, fr, tt, tg, kd, nc) p y (nc - i) i = cti pr (q1, q2, rs, op, ag, sz, fr, tt, tg, kd, nc) p y (nc - (i + 1)) (i + 1) by rw [show nc - i = (nc - (i + 1)) + 1 by omega, cti, if_neg (by simp [dfr, dtt, dkd, c1, Nat.not_le.mpr c1, bi_nf c2, bi_0.mp c3])]).trans z)) (fun k σ' z => h2 k σ' ((show cti pr (q1, q2, rs, op, ag, sz, fr, tt, tg, kd, nc) p y (nc - i) i = cti pr (q1, q2, rs, op, ag, sz, fr, tt, tg, kd, nc) p y (nc - (i + 1)) (i + 1) by rw [show nc - i = (nc - (i + 1)) + 1 by omega, cti, if_neg (by simp [dfr, dtt, dkd, c1, Nat.not_le.mpr c1, bi_nf c2, bi_0.mp c3])]).trans z))
        · refine er_aload_n d_Ma_raise_66 rfl ?_
          refine er_iload d_Ma_raise_67 rfl ?_
          refine er_putf d_Ma_raise_69 p_Ma_raise_34 hX (Nat.le_of_ble_eq_true rfl) jl_fit_int ?_
          show jl_E l G m_Ma_raise (0, 0) 72 [some (.ref 13), some (.int (wt)), some (.int (en y)), some (.int (v)), some (.int (nI e)), some (.ref a), some (.int (nI i))] [] (σ.set (13) (.inr (1, [.ref 1, .ref 8, .ref 14, .ref 18, .ref 19, .ref 20, .ref 21, .int (nI e), .int (su), .int (dt), .int (dq), .int (aw)]))) P
          refine er_aload_n d_Ma_raise_72 rfl ?_
          refine er_getf d_Ma_raise_73 f_Ma_raise_24 (jl_ss hX) rfl ?_
          refine er_aload_n d_Ma_raise_76 rfl ?_
          refine er_getf d_Ma_raise_77 f_Ma_raise_34 (jl_ss hX) rfl ?_
          refine er_aload d_Ma_raise_80 rfl ?_
          refine er_getf d_Ma_raise_82 f_Ma_raise_149 (jl_sn (by omega) hM) rfl ?_
          refine er_iload d_Ma_raise_85 rfl ?_
          refine er_ialdN d_Ma_raise_87 (jl_sn (by omega) g5) (by omega) (by omega) ?_
          refine er_iastN d_Ma_raise_88 (jl_sn (by decide) u2) (by omega) (by omega) ?_
          rw [show upd (fun j => nI (ps j)) (e) ((nI (tg (i)))) = (fun j => nI ((va_up ps (e) (tg (i))) j)) from nI_up ps (e) (tg (i))]
          show jl_E l G m_Ma_raise (0, 0) 89 [some (.ref 13), some (.int (wt)), some (.int (en y)), some (.int (v)), some (.int (nI e)), some (.ref a), some (.int (nI i))] [] ((σ.set (13) (.inr (1, [.ref 1, .ref 8, .ref 14, .ref 18, .ref 19, .ref 20, .ref 21, .int (nI e), .int (su), .int (dt), .int (dq), .int (aw)]))).set (19) (.inl (0, 12, .inl (fun j => nI ((va_up ps (e) (tg (i))) j))))) P
          refine er_aload_n d_Ma_raise_89 rfl ?_
          refine er_getf d_Ma_raise_90 f_Ma_raise_28 (jl_sn (by decide) (jl_ss hX)) rfl ?_
          refine er_aload_n d_Ma_raise_93 rfl ?_
          refine er_getf d_Ma_raise_94 f_Ma_raise_34 (jl_sn (by decide) (jl_ss hX)) rfl ?_
          refine er_bipush ((nI (12))) d_Ma_raise_97 (by decide) ?_
          refine er_imulN d_Ma_raise_99 ?_
          refine er_bipush ((nI (6))) d_Ma_raise_100 (by decide) ?_
          refine er_iaddN d_Ma_raise_102 ?_
          refine er_iconst ((nI (0))) d_Ma_raise_103 (by decide) ?_
          refine er_iastN d_Ma_raise_104 (jl_sn (by decide) (jl_sn (by decide) t1)) (by omega) (by omega) ?_
          rw [show upd (fun j => en (ty j)) (((e) * (12)) + (6)) ((nI (0))) = (fun j => en ((va_up ty (((e) * (12)) + (6)) ((some (0)))) j)) from en_up ty (((e) * (12)) + (6)) ((some (0)))]
          show jl_E l G m_Ma_raise (0, 0) 105 [some (.ref 13), some (.int (wt)), some (.int (en y)), some (.int (v)), some (.int (nI e)), some (.ref a), some (.int (nI i))] [] (((σ.set (13) (.inr (1, [.ref 1, .ref 8, .ref 14, .ref 18, .ref 19, .ref 20, .ref 21, .int (nI e), .int (su), .int (dt), .int (dq), .int (aw)]))).set (19) (.inl (0, 12, .inl (fun j => nI ((va_up ps (e) (tg (i))) j))))).set (20) (.inl (0, 144, .inl (fun j => en ((va_up ty (((e) * (12)) + (6)) ((some (0)))) j))))) P
          refine er_aload d_Ma_raise_105 rfl ?_
          refine er_getf d_Ma_raise_107 f_Ma_raise_143 (jl_sn (by omega) (jl_sn (by omega) (jl_sn (by omega) hM))) rfl ?_
          refine er_iload d_Ma_raise_110 rfl ?_
          refine er_ialdN d_Ma_raise_112 (jl_sn (by omega) (jl_sn (by omega) (jl_sn (by omega) g6))) (by omega) (by omega) ?_
          refine er_bipush ((nI (6))) d_Ma_raise_113 (by decide) ?_
          refine er_icmp_eqN 124 d_Ma_raise_115 (by decide) (by omega) (by omega) (fun c4 => ?_) (fun c4 => ?_)
          · exact er_vret d_Ma_raise_124 rfl (h1 i _ (by rw [show nc - i = (nc - (i + 1)) + 1 by omega, cti, if_pos (by simp [dfr, dtt, dkd, bi_nf c2, bi_nf c3])]) (by omega) ⟨_, _, _, _, (jl_sn (by decide) (jl_sn (by decide) (jl_ss hX))), (jl_sn (by decide) (jl_sn (by decide) (jl_sn (by decide) u1))), (jl_sn (by decide) (jl_ss (jl_sn (by decide) u2))), (jl_ss (jl_sn (by decide) (jl_sn (by decide) t1))), (jl_sn (by decide) (jl_sn (by decide) (jl_sn (by decide) t2))), ⟨(jl_sn (by decide) (jl_sn (by decide) (jl_sn (by decide) s0))), (jl_sn (by decide) (jl_sn (by decide) (jl_sn (by decide) s1))), (jl_sn (by decide) (jl_sn (by decide) (jl_sn (by decide) s2))), (jl_sn (by decide) (jl_sn (by decide) (jl_sn (by decide) s3)))⟩, ((hx.six7 (y := some 0) (ob_s (by decide))).pc (p2 := tg i)), hto, (((hF.set (by omega)).set (by omega)).set (by omega))⟩) (by decide) (by decide)
          · refine er_aload_n d_Ma_raise_118 rfl ?_
            refine er_iload_n d_Ma_raise_119 rfl ?_
            refine er_iload_n d_Ma_raise_120 rfl ?_
            refine er_callV (As := [.int (en y), .int (v)]) d_Ma_raise_121 k_Ma_raise_133 (jl_sn (by decide) (jl_sn (by decide) (jl_ss hX))) rfl rfl rfl (Nat.le_of_ble_eq_true rfl) (by decide) (by decide) (ma_put (t := e) (h := 0) (y := y) (v := v) hl (jl_sn (by decide) (jl_sn (by decide) (jl_ss hX))) (jl_ss (jl_sn (by decide) (jl_sn (by decide) t1))) (jl_sn (by decide) (jl_sn (by decide) (jl_sn (by decide) t2))) he (va_up_self _ _ _) (by omega)) ?_
            show jl_E l G m_Ma_raise (0, 0) 124 [some (.ref 13), some (.int (wt)), some (.int (en y)), some (.int (v)), some (.int (nI e)), some (.ref a), some (.int (nI i))] [] ((((((σ.set (13) (.inr (1, [.ref 1, .ref 8, .ref 14, .ref 18, .ref 19, .ref 20, .ref 21, .int (nI e), .int (su), .int (dt), .int (dq), .int (aw)]))).set (19) (.inl (0, 12, .inl (fun j => nI ((va_up ps (e) (tg (i))) j))))).set (20) (.inl (0, 144, .inl (fun j => en ((va_up ty (((e) * (12)) + (6)) ((some (0)))) j))))).set (20) (.inl (0, 144, .inl (fun j => en ((va_up (va_up ty (e * 12 + 6) (some 0)) (e * 12 + 7 + 0) y) j))))).set (21) (.inl (0, 144, .inl (upd va (e * 12 + 7 + 0) v)))).set (20) (.inl (0, 144, .inl (fun j => en ((va_up (va_up (va_up ty (e * 12 + 6) (some 0)) (e * 12 + 7 + 0) y) (e * 12 + 6) (some (0 + 1))) j))))) P
            exact er_vret d_Ma_raise_124 rfl (h2 i _ (by rw [show nc - i = (nc - (i + 1)) + 1 by omega, cti, if_pos (by simp [dfr, dtt, dkd, bi_nf c2, bi_nf c3])]) (by omega) ⟨_, _, _, _, (jl_sn (by decide) (jl_sn (by decide) (jl_sn (by decide) (jl_sn (by decide) (jl_sn (by decide) (jl_ss hX)))))), (jl_sn (by decide) (jl_sn (by decide) (jl_sn (by decide) (jl_sn (by decide) (jl_sn (by decide) (jl_sn (by decide) u1)))))), (jl_sn (by decide) (jl_sn (by decide) (jl_sn (by decide) (jl_sn (by decide) (jl_ss (jl_sn (by decide) u2)))))), (jl_ss (jl_sn (by decide) (jl_ss (jl_ss (jl_sn (by decide) (jl_sn (by decide) t1)))))), (jl_sn (by decide) (jl_ss (jl_sn (by decide) (jl_sn (by decide) (jl_sn (by decide) (jl_sn (by decide) t2)))))), ⟨(jl_sn (by decide) (jl_sn (by decide) (jl_sn (by decide) (jl_sn (by decide) (jl_sn (by decide) (jl_sn (by decide) s0)))))), (jl_sn (by decide) (jl_sn (by decide) (jl_sn (by decide) (jl_sn (by decide) (jl_sn (by decide) (jl_sn (by decide) s1)))))), (jl_sn (by decide) (jl_sn (by decide) (jl_sn (by decide) (jl_sn (by decide) (jl_sn (by decide) (jl_sn (by decide) s2)))))), (jl_sn (by decide) (jl_sn (by decide) (jl_sn (by decide) (jl_sn (by decide) (jl_sn (by decide) (jl_sn (by decide) s3))))))⟩, (by have z := (((hx.six7 (y := some 0) (ob_s (by decide))).pc (p2 := tg i))).put (i := 0) (v := v) (by decide) (by decide) hy; simp only [psh_six] at z; exact z), hto, ((((((hF.set (by omega)).set (by omega)).set (by omega)).set (by omega)).set (by omega)).set (by omega))⟩) (by decide) (by decide)
theorem d_Ma_raise_6 : decode m_Ma_raise.2.1 6 = .ok (.iload 4, 2) := by decide +kernel
theorem d_Ma_raise_8 : decode m_Ma_raise.2.1 8 = .ok (.ifCond .lt 129, 3) := by decide +kernel
theorem d_Ma_raise_11 : decode m_Ma_raise.2.1 11 = .ok (.aload_n 0, 1) := by decide +kernel
theorem f_Ma_raise_20 : jl_fd m_Ma_raise 20 1 3 = true := by decide +kernel
theorem d_Ma_raise_12 : decode m_Ma_raise.2.1 12 = .ok (.getfield 20, 3) := by decide +kernel
theorem d_Ma_raise_15 : decode m_Ma_raise.2.1 15 = .ok (.iload 4, 2) := by decide +kernel
theorem d_Ma_raise_17 : decode m_Ma_raise.2.1 17 = .ok (.aaload, 1) := by decide +kernel
theorem d_Ma_raise_18 : decode m_Ma_raise.2.1 18 = .ok (.astore 5, 2) := by decide +kernel
theorem d_Ma_raise_20 : decode m_Ma_raise.2.1 20 = .ok (.iconst 0, 1) := by decide +kernel
theorem d_Ma_raise_21 : decode m_Ma_raise.2.1 21 = .ok (.istore 6, 2) := by decide +kernel
theorem ma_raise_b (hl : l.stackTraces = false) {P : jl_O → jl_S → Prop}  (hX : MaAt σ (nI t) su dt dq aw) (u1 : σ[18]? = some (.inl (3, 12, .inr (.inr (.inr (.inr uw)))))) (u2 : σ[19]? = some (.inl (0, 12, .inl fun j => nI (ps j)))) (t1 : σ[20]? = some (.inl (0, 144, .inl fun j => en (ty j)))) (t2 : σ[21]? = some (.inl (0, 144, .inl va))) (hS : StAt σ H.sz H.ty H.va H.n) (hto : ∀ j, ob 16 (H.ty j)) (hF : FrK σ0 σ) (hw : WoAt σ tb pr ow fi ft mt) (hm : MeAt σ a q1 q2 rs op ag sz fr tt tg kd nc mp fh) (hok : ∀ j, ob 6 (pr j)) (ha : 54 ≤ a) (he : e < 12) (hp : p < 24) (hnc : nc ≤ 2) (hcf : ∀ i, i < 2 → fr i < 100 ∧ tt i < 100 ∧ tg i < 24 ∧ kd i < 7) (hy : ob 16 y) (hx : FX mt uw ps ty va 6 e m p R V fs) (hua : uw e = some a) (hN : cti pr (q1, q2, rs, op, ag, sz, fr, tt, tg, kd, nc) p y (nc - 0) 0 = none → jl_E l G m_Ma_raise (0, 0) 6 [some (.ref 13), some (.int (wt)), some (.int (en y)), some (.int (v)), some (.int ((nI (e)) + (-1))), none, none] [] σ P) (h1 : ∀ k σ', cti pr (q1, q2, rs, op, ag, sz, fr, tt, tg, kd, nc) p y (nc - 0) 0 = some k → kd k = 6 → KB σ0 mt σ' 7 e m (tg k) (va_up R 6 (some 0)) V fs H su dt dq aw → P (.inl none) σ') (h2 : ∀ k σ', cti pr (q1, q2, rs, op, ag, sz, fr, tt, tg, kd, nc) p y (nc - 0) 0 = some k → kd k ≠ 6 → KB σ0 mt σ' 8 e m (tg k) (psh R 0 y) (va_up V 7 v) fs H su dt dq aw → P (.inl none) σ') : jl_E l G m_Ma_raise (0, 0) 6 [some (.ref 13), some (.int (wt)), some (.int (en y)), some (.int (v)), some (.int (nI e)), none, none] [] σ P := by
  obtain ⟨s0, s1, s2, s3⟩ := id hS
  obtain ⟨hW, w2, w3, w4, w5, w6, w7⟩ := id hw
  obtain ⟨hM, g1, g2, g3, g4, g5, g6, g7, g8⟩ := id hm
  refine er_iload d_Ma_raise_6 rfl ?_
  refine er_if_lt 137 d_Ma_raise_8 (by decide) (fun z => absurd z (nI_pos (by omega))) (fun _ => ?_)
  refine er_aload_n d_Ma_raise_11 rfl ?_
  refine er_getf d_Ma_raise_12 f_Ma_raise_20 hX rfl ?_
  refine er_iload d_Ma_raise_15 rfl ?_
  refine er_aaldQ (v := some (a)) d_Ma_raise_17 u1 (by omega) (by omega) (hua) ?_
  show jl_E l G m_Ma_raise (0, 0) 18 [some (.ref 13), some (.int (wt)), some (.int (en y)), some (.int (v)), some (.int (nI e)), none, none] [.ref a] (σ) P
  refine er_astore d_Ma_raise_18 (by decide) ?_
  show jl_E l G m_Ma_raise (0, 0) 20 [some (.ref 13), some (.int (wt)), some (.int (en y)), some (.int (v)), some (.int (nI e)), some (.ref a), none] [] (σ) P
  refine er_iconst ((nI (0))) d_Ma_raise_20 (by decide) ?_
  refine er_istore d_Ma_raise_21 (by decide) ?_
  show jl_E l G m_Ma_raise (0, 0) 23 [some (.ref 13), some (.int (wt)), some (.int (en y)), some (.int (v)), some (.int (nI e)), some (.ref a), some (.int (nI 0))] [] (σ) P
  exact ma_raise_i hl hX u1 u2 t1 t2 hS hto hF hw hm hok ha he hp hnc hcf hy hx (nc + 1) 0 (by omega) (by omega) hN h1 h2
theorem d_Ma_raise_137 : decode m_Ma_raise.2.1 137 = .ok (.aload_n 0, 1) := by decide +kernel
theorem d_Ma_raise_138 : decode m_Ma_raise.2.1 138 = .ok (.iload_n 1, 1) := by decide +kernel
theorem d_Ma_raise_139 : decode m_Ma_raise.2.1 139 = .ok (.iload_n 1, 1) := by decide +kernel
theorem d_Ma_raise_140 : decode m_Ma_raise.2.1 140 = .ok (.bipush 7, 2) := by decide +kernel
theorem d_Ma_raise_142 : decode m_Ma_raise.2.1 142 = .ok (.if_icmp .ne 10, 3) := by decide +kernel
theorem d_Ma_raise_152 : decode m_Ma_raise.2.1 152 = .ok (.iconst 0, 1) := by decide +kernel
theorem k_Ma_raise_87 : jl_cv m_Ma_raise m_Ma_end 87 2 = true := by decide +kernel
theorem d_Ma_raise_153 : decode m_Ma_raise.2.1 153 = .ok (.invokevirtual 87, 3) := by decide +kernel
theorem d_Ma_raise_156 : decode m_Ma_raise.2.1 156 = .ok (.return_, 1) := by decide +kernel
theorem d_Ma_raise_145 : decode m_Ma_raise.2.1 145 = .ok (.iload_n 2, 1) := by decide +kernel
theorem d_Ma_raise_146 : decode m_Ma_raise.2.1 146 = .ok (.bipush 10, 2) := by decide +kernel
theorem d_Ma_raise_148 : decode m_Ma_raise.2.1 148 = .ok (.isub, 1) := by decide +kernel
theorem d_Ma_raise_149 : decode m_Ma_raise.2.1 149 = .ok (.goto 4, 3) := by decide +kernel
theorem ma_raise_e (hl : l.stackTraces = false) {P : jl_O → jl_S → Prop}  (hX : MaAt σ (nI t) su dt dq aw) (u1 : σ[18]? = some (.inl (3, 12, .inr (.inr (.inr (.inr uw)))))) (u2 : σ[19]? = some (.inl (0, 12, .inl fun j => nI (ps j)))) (t1 : σ[20]? = some (.inl (0, 144, .inl fun j => en (ty j)))) (t2 : σ[21]? = some (.inl (0, 144, .inl va))) (hS : StAt σ H.sz H.ty H.va H.n) (hto : ∀ j, ob 16 (H.ty j)) (hF : FrK σ0 σ) (hob : ∀ j, ob 16 (ty j)) (hn : n < 8) (hE : ∀ σ', KZ σ0 σ' H (nI n) (if n = 7 then en y - nI 10 else nI 0) dq aw → P (.inl none) σ') : jl_E l G m_Ma_raise (0, 0) 6 [some (.ref 13), some (.int (nI n)), some (.int (en y)), some (.int (v)), some (.int (-1)), none, none] [] σ P := by
  obtain ⟨s0, s1, s2, s3⟩ := id hS
  refine er_iload d_Ma_raise_6 rfl ?_
  refine er_if_lt 137 d_Ma_raise_8 (by decide) (fun _ => ?_) (fun z => absurd (by decide) z)
  refine er_aload_n d_Ma_raise_137 rfl ?_
  refine er_iload_n d_Ma_raise_138 rfl ?_
  refine er_iload_n d_Ma_raise_139 rfl ?_
  refine er_bipush ((nI (7))) d_Ma_raise_140 (by decide) ?_
  refine er_icmp_neN 152 d_Ma_raise_142 (by decide) (by omega) (by omega) (fun c1 => ?_) (fun c1 => ?_)
  · refine er_iconst ((nI (0))) d_Ma_raise_152 (by decide) ?_
    refine er_callV (As := [.int (nI n), .int (nI 0)]) d_Ma_raise_153 k_Ma_raise_87 hX rfl rfl rfl (Nat.le_of_ble_eq_true rfl) (by decide) (by decide) (ma_end hl hX) ?_
    show jl_E l G m_Ma_raise (0, 0) 156 [some (.ref 13), some (.int (nI n)), some (.int (en y)), some (.int (v)), some (.int (-1)), none, none] [] (σ.set (13) (.inr (1, [.ref 1, .ref 8, .ref 14, .ref 18, .ref 19, .ref 20, .ref 21, .int (nI t), .int (nI n), .int (nI 0), .int (dq), .int (aw)]))) P
    exact er_vret d_Ma_raise_156 rfl (hE _ (by rw [if_neg (by omega)]; exact ⟨_, _, _, _, _, (jl_ss hX), (jl_sn (by decide) u1), (jl_sn (by decide) u2), (jl_sn (by decide) t1), (jl_sn (by decide) t2), ⟨(jl_sn (by decide) s0), (jl_sn (by decide) s1), (jl_sn (by decide) s2), (jl_sn (by decide) s3)⟩, hob, hto, (hF.set (by omega))⟩)) (by decide) (by decide)
  · refine er_iload_n d_Ma_raise_145 rfl ?_
    refine er_bipush ((nI (10))) d_Ma_raise_146 (by decide) ?_
    refine er_isub d_Ma_raise_148 ?_
    refine er_goto 153 d_Ma_raise_149 (by decide) ?_
    refine er_callV (As := [.int (nI n), .int ((en y) - (nI (10)))]) d_Ma_raise_153 k_Ma_raise_87 hX rfl rfl rfl (Nat.le_of_ble_eq_true rfl) (by decide) (by decide) (ma_end hl hX) ?_
    show jl_E l G m_Ma_raise (0, 0) 156 [some (.ref 13), some (.int (nI n)), some (.int (en y)), some (.int (v)), some (.int (-1)), none, none] [] (σ.set (13) (.inr (1, [.ref 1, .ref 8, .ref 14, .ref 18, .ref 19, .ref 20, .ref 21, .int (nI t), .int (nI n), .int ((en y) - (nI (10))), .int (dq), .int (aw)]))) P
    exact er_vret d_Ma_raise_156 rfl (hE _ (by rw [if_pos (by omega)]; exact ⟨_, _, _, _, _, (jl_ss hX), (jl_sn (by decide) u1), (jl_sn (by decide) u2), (jl_sn (by decide) t1), (jl_sn (by decide) t2), ⟨(jl_sn (by decide) s0), (jl_sn (by decide) s1), (jl_sn (by decide) s2), (jl_sn (by decide) s3)⟩, hob, hto, (hF.set (by omega))⟩)) (by decide) (by decide)
theorem ma_raise_l (hl : l.stackTraces = false) {P : jl_O → jl_S → Prop} (hX : MaAt σ (nI t) su dt dq aw) (u1 : σ[18]? = some (.inl (3, 12, .inr (.inr (.inr (.inr uw)))))) (u2 : σ[19]? = some (.inl (0, 12, .inl fun j => nI (ps j)))) (t1 : σ[20]? = some (.inl (0, 144, .inl fun j => en (ty j)))) (t2 : σ[21]? = some (.inl (0, 144, .inl va))) (hS : StAt σ H.sz H.ty H.va H.n) (hto : ∀ j, ob 16 (H.ty j)) (hF : FrK σ0 σ) (hob : ∀ j, ob 16 (ty j)) (hwx : WX σ0 tb pr ow fi ft mt sg D MP FH) (hmt : MtOk mt) (hok : WoOk tb pr ow fi) (hD : ∀ m, mt m ≠ none → MdOk (D m)) (hy : ob 16 y) (hn : n < 8) : ∀ (gs : List Fm) (g : Fm), FX mt uw ps ty va 6 gs.length g.m g.p g.R g.V gs → g.p < 24 → (∀ k ∈ gs, k.p < 24) → gs.length < 12 → (∀ f' fs' σ', rse pr D y v (g :: gs) = some (f' :: fs') → KB σ0 mt σ' (7 + hgt f'.R) fs'.length f'.m f'.p f'.R f'.V fs' H su dt dq aw → P (.inl none) σ') → (rse pr D y v (g :: gs) = none → ∀ σ', KZ σ0 σ' H (nI n) (if n = 7 then en y - nI 10 else nI 0) dq aw → P (.inl none) σ') → jl_E l G m_Ma_raise (0, 0) 6 [some (.ref 13), some (.int (nI n)), some (.int (en y)), some (.int v), some (.int (nI gs.length)), none, none] [] σ P := by
  have hwx := hwx.fr hF hmt
  intro gs
  induction gs with
  | nil =>
    intro g hx hp _ h12 hG hE
    obtain ⟨a, hma, hua⟩ := hx.1.1
    have hd := hD g.m (by rw [hma]; simp)
    refine ma_raise_b hl hX u1 u2 t1 t2 hS hto hF hwx.1 (hwx.2.2.2 g.m a hma) hok.1 (hmt g.m a hma).1 (by decide) hp hd.2.2.2.2.2.1 hd.2.2.2.2.2.2.1 hy hx hua (fun z => ?_) (fun k σ' z h6 h => ?_) (fun k σ' z h6 h => ?_)
    · have e : nI 0 + (-1) = (-1 : Int32) := by decide +kernel
      show jl_E l G m_Ma_raise (0, 0) 6 [some (.ref 13), some (.int (nI n)), some (.int (en y)), some (.int v), some (.int (nI 0 + (-1))), none, none] [] σ P
      rw [e]
      exact ma_raise_e hl hX u1 u2 t1 t2 hS hto hF hob hn (hE (by rw [rse]; rw [show cti pr (D g.m) g.p y (dnc (D g.m)) 0 = none from z]; rfl))
    · refine hG (cgt (D g.m) g k y v) [] σ' (by rw [rse, show cti pr (D g.m) g.p y (dnc (D g.m)) 0 = some k from z]) ?_
      have e : cgt (D g.m) g k y v = ⟨g.m, dtg (D g.m) k, va_up g.R 6 (some 0), g.V⟩ := by unfold cgt; rw [if_pos (show dkd (D g.m) k = 6 from h6)]
      rw [e]
      exact h.le (by show 7 + hgt (va_up g.R 6 (some 0)) ≤ 7; unfold hgt; rw [va_up_self]; exact Nat.le_refl _)
    · refine hG (cgt (D g.m) g k y v) [] σ' (by rw [rse, show cti pr (D g.m) g.p y (dnc (D g.m)) 0 = some k from z]) ?_
      have e : cgt (D g.m) g k y v = ⟨g.m, dtg (D g.m) k, psh g.R 0 y, va_up g.V 7 v⟩ := by unfold cgt; rw [if_neg (show ¬ dkd (D g.m) k = 6 from h6)]
      rw [e]
      exact h
  | cons k0 ks ih =>
    intro g hx hp hps h12 hG hE
    obtain ⟨a, hma, hua⟩ := hx.1.1
    have hd := hD g.m (by rw [hma]; simp)
    rw [List.length_cons] at h12
    refine ma_raise_b hl hX u1 u2 t1 t2 hS hto hF hwx.1 (hwx.2.2.2 g.m a hma) hok.1 (hmt g.m a hma).1 (by rw [List.length_cons]; omega) hp hd.2.2.2.2.2.1 hd.2.2.2.2.2.2.1 hy hx hua (fun z => ?_) (fun k σ' z h6 h => ?_) (fun k σ' z h6 h => ?_)
    · have e : nI (k0 :: ks).length + (-1) = nI ks.length := frI_m g (k0 :: ks)
      rw [e]
      have hr : rse pr D y v (g :: k0 :: ks) = rse pr D y v (k0 :: ks) := by
        rw [rse, show cti pr (D g.m) g.p y (dnc (D g.m)) 0 = none from z]
      have hfs := hx.2.1
      exact ih k0 ⟨⟨hfs.1.1, hfs.1.2.1, fun j hj => hfs.1.2.2.1 j (by omega), fun j hj => hfs.1.2.2.2 j (by omega)⟩, hfs.2.2, rfl, hob⟩ (hps k0 List.mem_cons_self) (fun k hk => hps k (List.mem_cons_of_mem _ hk)) (by omega) (fun f' fs' σ' q => hG f' fs' σ' (hr.trans q)) (fun q => hE (hr.trans q))
    · refine hG (cgt (D g.m) g k y v) (k0 :: ks) σ' (by rw [rse, show cti pr (D g.m) g.p y (dnc (D g.m)) 0 = some k from z]) ?_
      have e : cgt (D g.m) g k y v = ⟨g.m, dtg (D g.m) k, va_up g.R 6 (some 0), g.V⟩ := by unfold cgt; rw [if_pos (show dkd (D g.m) k = 6 from h6)]
      rw [e]
      exact h.le (by show 7 + hgt (va_up g.R 6 (some 0)) ≤ 7; unfold hgt; rw [va_up_self]; exact Nat.le_refl _)
    · refine hG (cgt (D g.m) g k y v) (k0 :: ks) σ' (by rw [rse, show cti pr (D g.m) g.p y (dnc (D g.m)) 0 = some k from z]) ?_
      have e : cgt (D g.m) g k y v = ⟨g.m, dtg (D g.m) k, psh g.R 0 y, va_up g.V 7 v⟩ := by unfold cgt; rw [if_neg (show ¬ dkd (D g.m) k = 6 from h6)]
      rw [e]
      exact h
theorem d_Ma_raise_0 : decode m_Ma_raise.2.1 0 = .ok (.aload_n 0, 1) := by decide +kernel
theorem d_Ma_raise_1 : decode m_Ma_raise.2.1 1 = .ok (.getfield 34, 3) := by decide +kernel
theorem d_Ma_raise_4 : decode m_Ma_raise.2.1 4 = .ok (.istore 4, 2) := by decide +kernel
theorem ma_raise (hl : l.stackTraces = false) {P : jl_O → jl_S → Prop}  (hk : KB σ0 mt σ (6) t m p (R) (V) (fs) (H) su dt dq aw) (hwx : WX σ0 tb pr ow fi ft mt sg D MP FH) (hmt : MtOk mt) (hok : WoOk tb pr ow fi) (hD : ∀ m, mt m ≠ none → MdOk (D m)) (hy : ob 16 y) (hn : n < 8) (ht : t < 12) (hp : p < 24) (hpf : ∀ k ∈ fs, k.p < 24) (hG : ∀ f' fs' σ', rse pr D y v (⟨m, p, R, V⟩ :: fs) = some (f' :: fs') → KB σ0 mt σ' (7 + hgt f'.R) fs'.length f'.m f'.p f'.R f'.V fs' H su dt dq aw → P (.inl none) σ') (hE : rse pr D y v (⟨m, p, R, V⟩ :: fs) = none → ∀ σ', KZ σ0 σ' H (nI n) (if n = 7 then en y - nI 10 else nI 0) dq aw → P (.inl none) σ') : jl_mE l G m_Ma_raise [.ref 13, .int (nI n), .int (en y), .int (v)] σ P := by
  obtain ⟨uw, ps, ty, va, hX, u1, u2, t1, t2, hS, hx, hto, hF⟩ := id hk
  obtain ⟨s0, s1, s2, s3⟩ := id hS
  obtain ⟨⟨⟨a, hma, hua⟩, hps, hty, hva⟩, hfs, hln, hob⟩ := id hx
  have hma : mt m = some a := hma
  have hps : ps t = p := hps
  have hty : ∀ j, j < _ → ty (t * 12 + j) = R j := hty
  have hva : ∀ j, j < _ → j ≠ 6 → va (t * 12 + j) = V j := hva
  have hRo := hx.rob
  refine jl_ofE (as := [.ref 13, .int (nI n), .int (en y), .int (v)]) rfl (by decide) hl (jl_cc rfl (jl_cc rfl (jl_cc rfl (jl_cc rfl jl_ca)))) (Nat.le_of_ble_eq_true rfl) ?_
  show jl_E l G m_Ma_raise (0, 0) 0 [some (.ref 13), some (.int (nI n)), some (.int (en y)), some (.int (v)), none, none, none] [] (σ) P
  refine er_aload_n d_Ma_raise_0 rfl ?_
  refine er_getf d_Ma_raise_1 f_Ma_raise_34 hX rfl ?_
  refine er_istore d_Ma_raise_4 (by decide) ?_
  show jl_E l G m_Ma_raise (0, 0) 6 [some (.ref 13), some (.int (nI n)), some (.int (en y)), some (.int (v)), some (.int (nI t)), none, none] [] (σ) P
  subst hln
  exact ma_raise_l hl hX u1 u2 t1 t2 hS hto hF hob hwx hmt hok hD hy hn fs ⟨m, p, R, V⟩ hx hp hpf ht hG hE
end JMf
