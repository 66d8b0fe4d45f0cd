/-! the model's machine: enter, call (wip/gen/p97zd.py) -/
section JNzd
variable {l : Launch} {G : jl_G} {σ : jl_S}
variable {tb : Nat → Bool} {pr : Nat → Option Nat} {ow fi ft : Nat → Nat} {hs : Nat → Bool} {fa vf wh wy hg dp md ov oh dn an : Int32}
variable {u1 u2 : Nat → Option Nat} {ur ul uo : Nat → Nat} {ua : Nat → Int32} {uc us ut uk : Nat → Nat}
variable {σ0 : jl_S} {N t m p h b n : Nat} {R : Rw} {V : Nat → Int32} {fs : List Fm} {H : Hp} {fa vf wh wy hg ov oh dn an x a v : Int32} {y : Option Nat}
variable {D : Nat → MDt} {d c m2 k q : Nat} {fx fp fh : Nat → Nat} {lw lk vl vk lk0 lw0 lw1 lk1 : Nat → Int32} {σ1 : jl_S} {dp md : Int32}
theorem d_Mo_enter_32 : decode m_Mo_enter.2.1 32 = .ok (.iload_n 2, 1) := by decide +kernel
theorem d_Mo_enter_33 : decode m_Mo_enter.2.1 33 = .ok (.bipush 6, 2) := by decide +kernel
theorem d_Mo_enter_35 : decode m_Mo_enter.2.1 35 = .ok (.if_icmp .ge 24, 3) := by decide +kernel
theorem d_Mo_enter_59 : decode m_Mo_enter.2.1 59 = .ok (.aload_n 0, 1) := by decide +kernel
theorem d_Mo_enter_60 : decode m_Mo_enter.2.1 60 = .ok (.dup, 1) := by decide +kernel
theorem f_Mo_enter_224 : jl_fd m_Mo_enter 224 7 32 = true := by decide +kernel
theorem d_Mo_enter_61 : decode m_Mo_enter.2.1 61 = .ok (.getfield 224, 3) := by decide +kernel
theorem d_Mo_enter_64 : decode m_Mo_enter.2.1 64 = .ok (.iconst 1, 1) := by decide +kernel
theorem d_Mo_enter_65 : decode m_Mo_enter.2.1 65 = .ok (.iadd, 1) := by decide +kernel
theorem p_Mo_enter_224 : jl_fp m_Mo_enter 224 7 32 = true := by decide +kernel
theorem d_Mo_enter_66 : decode m_Mo_enter.2.1 66 = .ok (.putfield 224, 3) := by decide +kernel
theorem d_Mo_enter_69 : decode m_Mo_enter.2.1 69 = .ok (.return_, 1) := by decide +kernel
theorem d_Mo_enter_38 : decode m_Mo_enter.2.1 38 = .ok (.aload_n 0, 1) := by decide +kernel
theorem f_Mo_enter_90 : jl_fd m_Mo_enter 90 7 29 = true := by decide +kernel
theorem d_Mo_enter_39 : decode m_Mo_enter.2.1 39 = .ok (.getfield 90, 3) := by decide +kernel
theorem d_Mo_enter_42 : decode m_Mo_enter.2.1 42 = .ok (.bipush 6, 2) := by decide +kernel
theorem d_Mo_enter_44 : decode m_Mo_enter.2.1 44 = .ok (.aload_n 0, 1) := by decide +kernel
theorem d_Mo_enter_45 : decode m_Mo_enter.2.1 45 = .ok (.getfield 224, 3) := by decide +kernel
theorem d_Mo_enter_48 : decode m_Mo_enter.2.1 48 = .ok (.imul, 1) := by decide +kernel
theorem d_Mo_enter_49 : decode m_Mo_enter.2.1 49 = .ok (.iload_n 2, 1) := by decide +kernel
theorem d_Mo_enter_50 : decode m_Mo_enter.2.1 50 = .ok (.iadd, 1) := by decide +kernel
theorem d_Mo_enter_51 : decode m_Mo_enter.2.1 51 = .ok (.iconst (-1), 1) := by decide +kernel
theorem d_Mo_enter_52 : decode m_Mo_enter.2.1 52 = .ok (.iastore, 1) := by decide +kernel
theorem d_Mo_enter_53 : decode m_Mo_enter.2.1 53 = .ok (.iinc 2 1, 3) := by decide +kernel
theorem d_Mo_enter_56 : decode m_Mo_enter.2.1 56 = .ok (.goto (-24), 3) := by decide +kernel
theorem mo_ent_l (hl : l.stackTraces = false) {P : jl_O → jl_S → Prop}   (hd : d < 13) (hT : ∀ lk' σ', wrt lk0 lk' (6 * d) 6 (fun _ => -1) → MoO σ' fa vf wh wy hg (nI (d + 1)) md ov oh dn an → σ'[47]? = some (.inl (0, 78, .inl lk')) → σ'.length = σ1.length → (∀ i, i ≠ 22 → i ≠ 47 → σ'[i]? = σ1[i]?) → P (.inl none) σ') : ∀ (nn : Nat) (i : Nat) (σ : jl_S) (lk : Nat → Int32), 6 - i < nn → i ≤ 6 → MoO σ fa vf wh wy hg (nI d) md ov oh dn an → σ[47]? = some (.inl (0, 78, .inl lk)) → σ.length = σ1.length → (∀ i, i ≠ 22 → i ≠ 47 → σ[i]? = σ1[i]?) → wrt lk0 lk (6 * d) i (fun _ => -1) → jl_E l G m_Mo_enter (0, 0) 32 [some (.ref 22), some (.int (nI m2)), some (.int (nI i))] [] σ P := by
  intro nn
  induction nn with
  | zero => intro i σ lk hnn; exact absurd hnn (Nat.not_lt_zero _)
  | succ nn ihn =>
    intro i σ lk hnn hi hO f5 hL hf hwr
    refine er_iload_n d_Mo_enter_32 rfl ?_
    refine er_bipush ((nI (6))) d_Mo_enter_33 (by decide) ?_
    refine er_icmp_geN 59 d_Mo_enter_35 (by decide) (by omega) (by omega) (fun c1 => ?_) (fun c1 => ?_)
    · refine er_aload_n d_Mo_enter_59 rfl ?_
      refine er_dup d_Mo_enter_60 rfl ?_
      refine er_getf d_Mo_enter_61 f_Mo_enter_224 hO rfl ?_
      refine er_iconst ((nI (1))) d_Mo_enter_64 (by decide) ?_
      refine er_iaddN d_Mo_enter_65 ?_
      refine er_putf d_Mo_enter_66 p_Mo_enter_224 hO (Nat.le_of_ble_eq_true rfl) jl_fit_int ?_
      show jl_E l G m_Mo_enter (0, 0) 69 [some (.ref 22), some (.int (nI m2)), some (.int (nI i))] [] (σ.set (22) (.inr (7, [.int (fa), .ref 23, .ref 24, .ref 25, .ref 26, .ref 27, .ref 28, .ref 29, .ref 30, .ref 31, .ref 32, .ref 33, .ref 34, .ref 35, .ref 36, .ref 37, .int (vf), .int (wh), .int (wy), .ref 38, .ref 39, .ref 40, .ref 41, .int (hg), .ref 42, .ref 43, .ref 44, .ref 45, .ref 46, .ref 47, .ref 48, .ref 49, .int (nI ((d) + (1))), .ref 50, .ref 51, .ref 52, .int (md), .int (ov), .int (oh), .int (dn), .int (an)]))) P
      exact er_vret d_Mo_enter_69 rfl (hT lk _ (by have z := hwr; rw [show i = 6 by omega] at z; exact z) (jl_ss hO) (jl_sn (by decide) f5) (by rw [List.length_set]; exact hL) (fun j h1 h2 => by rw [List.getElem?_set_ne (by omega)]; exact hf j h1 h2)) (by decide) (by decide)
    · refine er_aload_n d_Mo_enter_38 rfl ?_
      refine er_getf d_Mo_enter_39 f_Mo_enter_90 hO rfl ?_
      refine er_bipush ((nI (6))) d_Mo_enter_42 (by decide) ?_
      refine er_aload_n d_Mo_enter_44 rfl ?_
      refine er_getf d_Mo_enter_45 f_Mo_enter_224 hO rfl ?_
      refine er_imulN d_Mo_enter_48 ?_
      refine er_iload_n d_Mo_enter_49 rfl ?_
      refine er_iaddN d_Mo_enter_50 ?_
      refine er_iconst ((-1)) d_Mo_enter_51 (by decide) ?_
      refine er_iastN d_Mo_enter_52 f5 (by omega) (by omega) ?_
      show jl_E l G m_Mo_enter (0, 0) 53 [some (.ref 22), some (.int (nI m2)), some (.int (nI i))] [] (σ.set (47) (.inl (0, 78, .inl (upd (lk) (((6) * (d)) + (i)) ((-1)))))) P
      refine er_iinc ((nI (i + 1))) d_Mo_enter_53 (by decide) rfl (jl_inc _) ?_
      show jl_E l G m_Mo_enter (0, 0) 56 [some (.ref 22), some (.int (nI m2)), some (.int (nI (i + 1)))] [] (σ.set (47) (.inl (0, 78, .inl (upd (lk) (((6) * (d)) + (i)) ((-1)))))) P
      refine er_goto 32 d_Mo_enter_56 (by decide) ?_
      exact ihn (i + 1) _ _ (by omega) (by omega) (jl_sn (by decide) hO) (jl_ss f5) (by rw [List.length_set]; exact hL) (fun j h1 h2 => by rw [List.getElem?_set_ne (by omega)]; exact hf j h1 h2) (by rw [upd_up]; exact hwr.s rfl)
theorem d_Mo_enter_0 : decode m_Mo_enter.2.1 0 = .ok (.aload_n 0, 1) := by decide +kernel
theorem f_Mo_enter_78 : jl_fd m_Mo_enter 78 7 25 = true := by decide +kernel
theorem d_Mo_enter_1 : decode m_Mo_enter.2.1 1 = .ok (.getfield 78, 3) := by decide +kernel
theorem d_Mo_enter_4 : decode m_Mo_enter.2.1 4 = .ok (.aload_n 0, 1) := by decide +kernel
theorem d_Mo_enter_5 : decode m_Mo_enter.2.1 5 = .ok (.getfield 224, 3) := by decide +kernel
theorem d_Mo_enter_8 : decode m_Mo_enter.2.1 8 = .ok (.iload_n 1, 1) := by decide +kernel
theorem d_Mo_enter_9 : decode m_Mo_enter.2.1 9 = .ok (.iastore, 1) := by decide +kernel
theorem d_Mo_enter_10 : decode m_Mo_enter.2.1 10 = .ok (.aload_n 0, 1) := by decide +kernel
theorem f_Mo_enter_81 : jl_fd m_Mo_enter 81 7 26 = true := by decide +kernel
theorem d_Mo_enter_11 : decode m_Mo_enter.2.1 11 = .ok (.getfield 81, 3) := by decide +kernel
theorem d_Mo_enter_14 : decode m_Mo_enter.2.1 14 = .ok (.aload_n 0, 1) := by decide +kernel
theorem d_Mo_enter_15 : decode m_Mo_enter.2.1 15 = .ok (.getfield 224, 3) := by decide +kernel
theorem d_Mo_enter_18 : decode m_Mo_enter.2.1 18 = .ok (.iconst 0, 1) := by decide +kernel
theorem d_Mo_enter_19 : decode m_Mo_enter.2.1 19 = .ok (.iastore, 1) := by decide +kernel
theorem d_Mo_enter_20 : decode m_Mo_enter.2.1 20 = .ok (.aload_n 0, 1) := by decide +kernel
theorem f_Mo_enter_84 : jl_fd m_Mo_enter 84 7 27 = true := by decide +kernel
theorem d_Mo_enter_21 : decode m_Mo_enter.2.1 21 = .ok (.getfield 84, 3) := by decide +kernel
theorem d_Mo_enter_24 : decode m_Mo_enter.2.1 24 = .ok (.aload_n 0, 1) := by decide +kernel
theorem d_Mo_enter_25 : decode m_Mo_enter.2.1 25 = .ok (.getfield 224, 3) := by decide +kernel
theorem d_Mo_enter_28 : decode m_Mo_enter.2.1 28 = .ok (.iconst 0, 1) := by decide +kernel
theorem d_Mo_enter_29 : decode m_Mo_enter.2.1 29 = .ok (.iastore, 1) := by decide +kernel
theorem d_Mo_enter_30 : decode m_Mo_enter.2.1 30 = .ok (.iconst 0, 1) := by decide +kernel
theorem d_Mo_enter_31 : decode m_Mo_enter.2.1 31 = .ok (.istore_n 2, 1) := by decide +kernel
theorem mo_enter (hl : l.stackTraces = false) {P : jl_O → jl_S → Prop}  (hO : MoO σ fa vf wh wy hg (nI d) md ov oh dn an) (f1 : σ[43]? = some (.inl (0, 13, .inl fun j => nI (fx j)))) (f2 : σ[44]? = some (.inl (0, 13, .inl fun j => nI (fp j)))) (f3 : σ[45]? = some (.inl (0, 13, .inl fun j => nI (fh j)))) (f5 : σ[47]? = some (.inl (0, 78, .inl lk))) (hd : d < 13) (hT : ∀ lk' σ', wrt lk lk' (6 * d) 6 (fun _ => -1) → MoO σ' fa vf wh wy hg (nI (d + 1)) md ov oh dn an → σ'[43]? = some (.inl (0, 13, .inl fun j => nI ((va_up fx d m2) j))) → σ'[44]? = some (.inl (0, 13, .inl fun j => nI ((va_up fp d 0) j))) → σ'[45]? = some (.inl (0, 13, .inl fun j => nI ((va_up fh d 0) j))) → σ'[47]? = some (.inl (0, 78, .inl lk')) → σ'.length = σ.length → (∀ i, i ≠ 22 → i ≠ 43 → i ≠ 44 → i ≠ 45 → i ≠ 47 → σ'[i]? = σ[i]?) → P (.inl none) σ') : jl_mE l G m_Mo_enter [.ref 22, .int (nI m2)] σ P := by
  refine jl_ofE (as := [.ref 22, .int (nI m2)]) rfl (by decide) hl (jl_cc rfl (jl_cc rfl jl_ca)) (Nat.le_of_ble_eq_true rfl) ?_
  show jl_E l G m_Mo_enter (0, 0) 0 [some (.ref 22), some (.int (nI m2)), none] [] (σ) P
  refine er_aload_n d_Mo_enter_0 rfl ?_
  refine er_getf d_Mo_enter_1 f_Mo_enter_78 hO rfl ?_
  refine er_aload_n d_Mo_enter_4 rfl ?_
  refine er_getf d_Mo_enter_5 f_Mo_enter_224 hO rfl ?_
  refine er_iload_n d_Mo_enter_8 rfl ?_
  refine er_iastN d_Mo_enter_9 f1 (by omega) (by omega) ?_
  rw [show upd (fun j => nI (fx j)) (d) ((nI (m2))) = (fun j => nI ((va_up fx (d) (m2)) j)) from nI_up fx (d) (m2)]
  show jl_E l G m_Mo_enter (0, 0) 10 [some (.ref 22), some (.int (nI m2)), none] [] (σ.set (43) (.inl (0, 13, .inl (fun j => nI ((va_up fx (d) (m2)) j))))) P
  refine er_aload_n d_Mo_enter_10 rfl ?_
  refine er_getf d_Mo_enter_11 f_Mo_enter_81 (jl_sn (by decide) hO) rfl ?_
  refine er_aload_n d_Mo_enter_14 rfl ?_
  refine er_getf d_Mo_enter_15 f_Mo_enter_224 (jl_sn (by decide) hO) rfl ?_
  refine er_iconst ((nI (0))) d_Mo_enter_18 (by decide) ?_
  refine er_iastN d_Mo_enter_19 (jl_sn (by decide) f2) (by omega) (by omega) ?_
  rw [show upd (fun j => nI (fp j)) (d) ((nI (0))) = (fun j => nI ((va_up fp (d) (0)) j)) from nI_up fp (d) (0)]
  show jl_E l G m_Mo_enter (0, 0) 20 [some (.ref 22), some (.int (nI m2)), none] [] ((σ.set (43) (.inl (0, 13, .inl (fun j => nI ((va_up fx (d) (m2)) j))))).set (44) (.inl (0, 13, .inl (fun j => nI ((va_up fp (d) (0)) j))))) P
  refine er_aload_n d_Mo_enter_20 rfl ?_
  refine er_getf d_Mo_enter_21 f_Mo_enter_84 (jl_sn (by decide) (jl_sn (by decide) hO)) rfl ?_
  refine er_aload_n d_Mo_enter_24 rfl ?_
  refine er_getf d_Mo_enter_25 f_Mo_enter_224 (jl_sn (by decide) (jl_sn (by decide) hO)) rfl ?_
  refine er_iconst ((nI (0))) d_Mo_enter_28 (by decide) ?_
  refine er_iastN d_Mo_enter_29 (jl_sn (by decide) (jl_sn (by decide) f3)) (by omega) (by omega) ?_
  rw [show upd (fun j => nI (fh j)) (d) ((nI (0))) = (fun j => nI ((va_up fh (d) (0)) j)) from nI_up fh (d) (0)]
  show jl_E l G m_Mo_enter (0, 0) 30 [some (.ref 22), some (.int (nI m2)), none] [] (((σ.set (43) (.inl (0, 13, .inl (fun j => nI ((va_up fx (d) (m2)) j))))).set (44) (.inl (0, 13, .inl (fun j => nI ((va_up fp (d) (0)) j))))).set (45) (.inl (0, 13, .inl (fun j => nI ((va_up fh (d) (0)) j))))) P
  refine er_iconst ((nI (0))) d_Mo_enter_30 (by decide) ?_
  refine er_istore_n d_Mo_enter_31 (by decide) ?_
  show jl_E l G m_Mo_enter (0, 0) 32 [some (.ref 22), some (.int (nI m2)), some (.int (nI 0))] [] (((σ.set (43) (.inl (0, 13, .inl (fun j => nI ((va_up fx (d) (m2)) j))))).set (44) (.inl (0, 13, .inl (fun j => nI ((va_up fp (d) (0)) j))))).set (45) (.inl (0, 13, .inl (fun j => nI ((va_up fh (d) (0)) j))))) P
  exact mo_ent_l hl hd (fun lk' σ' w1 h1 h2 h3 h4 => hT lk' σ' w1 h1 ((h4 43 (by decide) (by decide)).trans (jl_sn (by decide) (jl_sn (by decide) (jl_ss f1)))) ((h4 44 (by decide) (by decide)).trans (jl_sn (by decide) (jl_ss (jl_sn (by decide) f2)))) ((h4 45 (by decide) (by decide)).trans (jl_ss (jl_sn (by decide) (jl_sn (by decide) f3)))) h2 (h3.trans (by rw [List.length_set, List.length_set, List.length_set])) (fun i n1 n2 n3 n4 n5 => (h4 i n1 n5).trans (by rw [List.getElem?_set_ne (by omega), List.getElem?_set_ne (by omega), List.getElem?_set_ne (by omega)]))) 7 0 _ lk (by omega) (by decide) (jl_sn (by decide) (jl_sn (by decide) (jl_sn (by decide) hO))) (jl_sn (by decide) (jl_sn (by decide) (jl_sn (by decide) f5))) rfl (fun _ _ _ => rfl) wrt.z
/-- i of what a CALL takes are LOCALS of the new METHOD -/
def CLw (lk0 lw0 lk lw : Nat → Int32) (t b i : Nat) (R : Rw) (V : Nat → Int32) : Prop := (∀ j, j < 6 * (t + 1) → lk j = lk0 j ∧ lw j = lw0 j) ∧ ∀ k, k < 6 → lk (6 * (t + 1) + k) = (if k < i then kdI (R (7 + b + k)) else -1) ∧ (k < i → lw (6 * (t + 1) + k) = V (7 + b + k))
theorem CLw.z (h1 : wrt lk0 lk (6 * (t + 1)) 6 (fun _ => -1)) : CLw lk0 lw lk lw t b 0 R V := by
  refine ⟨fun j hj => ⟨by rw [h1, if_neg (by omega)], rfl⟩, fun k hk => ⟨by rw [h1, if_pos (by omega), if_neg (by omega)], fun z => absurd z (Nat.not_lt_zero _)⟩⟩
theorem CLw.s {i : Nat} (h1 : CLw lk0 lw0 lk lw t b i R V) (hi : i < 6) : CLw lk0 lw0 (upd lk (6 * (t + 1) + i) (kdI (R (7 + b + i)))) (upd lw (6 * (t + 1) + i) (V (7 + b + i))) t b (i + 1) R V := by
  rw [upd_up, upd_up]
  refine ⟨fun j hj => ?_, fun k hk => ?_⟩
  · rw [va_up_ne _ _ (by omega), va_up_ne _ _ (by omega)]; exact h1.1 j hj
  · by_cases e : k = i
    · rw [e, va_up_self, va_up_self, if_pos (by omega)]; exact ⟨rfl, fun _ => rfl⟩
    · rw [va_up_ne _ _ (by omega), va_up_ne _ _ (by omega)]
      obtain ⟨a1, a2⟩ := h1.2 k hk
      refine ⟨?_, fun z => a2 (by omega)⟩
      rw [a1]
      by_cases z : k < i
      · rw [if_pos z, if_pos (by omega)]
      · rw [if_neg z, if_neg (by omega)]
theorem FY.call (h1 : FY fx fp fh lw lk vl vk (b + c) t m p h R V fs) (hb : b ≤ 5) (hc : c = 1 + q) (hw : CLw lk lw lk1 lw1 t b c R V) : FY (va_up fx (t + 1) m2) (va_up fp (t + 1) 0) (va_up (va_up fh t b) (t + 1) 0) lw1 lk1 vl vk 0 (t + 1) m2 0 0 (cwR R b q) (cwW V b q) (⟨m, p, va_up R 6 (some b), V⟩ :: fs) := by
  obtain ⟨⟨a1, a2, a3, a4⟩, a5, a6, a7⟩ := h1
  refine ⟨⟨va_up_self _ _ _, va_up_self _ _ _, fun k hk => ?_, fun j hj => absurd hj (Nat.not_lt_zero _)⟩, va_up_self _ _ _, ⟨⟨?_, ?_, fun k hk => ?_, fun j hj => ?_⟩, ?_, ?_, ?_⟩, ?_⟩
  · show lk1 (6 * (t + 1) + k) = kdI (cwR R b q k) ∧ (cwR R b q k ≠ none → lw1 (6 * (t + 1) + k) = cwW V b q k)
    obtain ⟨e1, e2⟩ := hw.2 k hk
    unfold cwR cwW
    rw [if_neg (show ¬ k = 6 by omega)]
    by_cases z : k < c
    · rw [if_pos z] at e1
      rw [if_pos (show k < 6 ∧ k ≤ q by omega), if_pos (show k < 6 ∧ k ≤ q by omega)]
      exact ⟨e1, fun _ => e2 z⟩
    · rw [if_neg z] at e1
      rw [if_neg (show ¬ (k < 6 ∧ k ≤ q) by omega)]
      exact ⟨e1, fun z => absurd rfl z⟩
  · show va_up fx (t + 1) m2 fs.length = m
    rw [a7, va_up_ne _ _ (by omega)]; exact a1
  · show va_up fp (t + 1) 0 fs.length = p
    rw [a7, va_up_ne _ _ (by omega)]; exact a2
  · show lk1 (6 * fs.length + k) = kdI (va_up R 6 (some b) k) ∧ (va_up R 6 (some b) k ≠ none → lw1 (6 * fs.length + k) = V k)
    rw [a7, va_up_ne _ _ (by omega)]
    obtain ⟨e1, e2⟩ := hw.1 (6 * t + k) (by omega)
    rw [e1, e2]
    exact a3 k hk
  · have hj : j < hgt (va_up R 6 (some b)) := hj
    rw [hgt_six2] at hj
    show vk (5 * fs.length + j) = kdI (va_up R 6 (some b) (7 + j)) ∧ vl (5 * fs.length + j) = V (7 + j)
    rw [a7, va_up_ne _ _ (by omega)]
    exact a4 j (by omega)
  · show va_up (va_up fh t b) (t + 1) 0 fs.length = hgt (va_up R 6 (some b))
    rw [a7, va_up_ne _ _ (by omega), va_up_self, hgt_six2]
  · show hgt (va_up R 6 (some b)) ≤ 5
    rw [hgt_six2]; exact hb
  · exact FsB.low (t := t) (fun j hj => ⟨va_up_ne _ _ (by omega), va_up_ne _ _ (by omega), (va_up_ne _ _ (by omega)).trans (va_up_ne _ _ (by omega))⟩) (fun j hj => ⟨(hw.1 j (by omega)).2, (hw.1 j (by omega)).1⟩) (fun _ _ => ⟨rfl, rfl⟩) a6 (by rw [a7]; exact Nat.le_refl _)
  · show fs.length + 1 = t + 1
    rw [a7]
theorem mo_methodOfE {sl : Nat} (hl : l.stackTraces = false) (hO : MoO σ fa vf wh wy hg dp md ov oh dn an) (hw : MoW σ tb pr ow ft hs) (hsl : sl < 4) (hd : dsc pr) (hk : k < 6) (e : mmo pr hs sl 6 (some k) = some m2) : jl_m l G m_Mo_methodOf [.ref 22, .int (nI k), .int (nI sl)] σ (.inl (some (.int (nI m2)))) σ := by
  have z := mo_methodOf (G := G) (x := some k) hl hO hw hsl hd (ob_s hk)
  rw [e] at z
  exact z
theorem mo_tk_14E {n c0 : Nat} {p q : Option Nat} (hl : l.stackTraces = false) (hO : MoO σ fa vf wh wy hg dp md ov oh dn an) (hw : MoW σ tb pr ow ft hs) (hu : MoM σ u1 u2 ur ul uo ua uc us ut uk) (hok : WoOk tb pr ow fi) (hn : n < 2 ^ 31) (hk : n / 4 < 6) (hmo : mmo pr hs (n % 4) 6 (some (n / 4)) = some c0) (hc : c0 < 24) (e1 : u1 c0 = p) (e2 : u2 c0 = q) (hp : ob 16 p) (hq : ob 16 q) (e : 1 + prm p q = c) : jl_m l G m_Mo_takes [.ref 22, .int (nI 14), .int (nI n)] σ (.inl (some (.int (nI c)))) (σ) := by
  have z := mo_tk_14 (G := G) hl hO hw hu hok hn hk hmo hc e1 e2 hp hq
  rw [e] at z
  exact z
theorem d_Mo_call_74 : decode m_Mo_call.2.1 74 = .ok (.iload 5, 2) := by decide +kernel
theorem d_Mo_call_76 : decode m_Mo_call.2.1 76 = .ok (.iload_n 2, 1) := by decide +kernel
theorem d_Mo_call_77 : decode m_Mo_call.2.1 77 = .ok (.if_icmp .ge 59, 3) := by decide +kernel
theorem d_Mo_call_136 : decode m_Mo_call.2.1 136 = .ok (.return_, 1) := by decide +kernel
theorem d_Mo_call_80 : decode m_Mo_call.2.1 80 = .ok (.aload_n 0, 1) := by decide +kernel
theorem d_Mo_call_81 : decode m_Mo_call.2.1 81 = .ok (.iload 4, 2) := by decide +kernel
theorem d_Mo_call_83 : decode m_Mo_call.2.1 83 = .ok (.iconst 1, 1) := by decide +kernel
theorem d_Mo_call_84 : decode m_Mo_call.2.1 84 = .ok (.iadd, 1) := by decide +kernel
theorem d_Mo_call_85 : decode m_Mo_call.2.1 85 = .ok (.iload 5, 2) := by decide +kernel
theorem d_Mo_call_87 : decode m_Mo_call.2.1 87 = .ok (.aload_n 0, 1) := by decide +kernel
theorem f_Mo_call_96 : jl_fd m_Mo_call 96 7 31 = true := by decide +kernel
theorem d_Mo_call_88 : decode m_Mo_call.2.1 88 = .ok (.getfield 96, 3) := by decide +kernel
theorem d_Mo_call_91 : decode m_Mo_call.2.1 91 = .ok (.iconst 5, 1) := by decide +kernel
theorem d_Mo_call_92 : decode m_Mo_call.2.1 92 = .ok (.iload 4, 2) := by decide +kernel
theorem d_Mo_call_94 : decode m_Mo_call.2.1 94 = .ok (.imul, 1) := by decide +kernel
theorem d_Mo_call_95 : decode m_Mo_call.2.1 95 = .ok (.aload_n 0, 1) := by decide +kernel
theorem f_Mo_call_84 : jl_fd m_Mo_call 84 7 27 = true := by decide +kernel
theorem d_Mo_call_96 : decode m_Mo_call.2.1 96 = .ok (.getfield 84, 3) := by decide +kernel
theorem d_Mo_call_99 : decode m_Mo_call.2.1 99 = .ok (.iload 4, 2) := by decide +kernel
theorem d_Mo_call_101 : decode m_Mo_call.2.1 101 = .ok (.iaload, 1) := by decide +kernel
theorem d_Mo_call_102 : decode m_Mo_call.2.1 102 = .ok (.iadd, 1) := by decide +kernel
theorem d_Mo_call_103 : decode m_Mo_call.2.1 103 = .ok (.iload 5, 2) := by decide +kernel
theorem d_Mo_call_105 : decode m_Mo_call.2.1 105 = .ok (.iadd, 1) := by decide +kernel
theorem d_Mo_call_106 : decode m_Mo_call.2.1 106 = .ok (.iaload, 1) := by decide +kernel
theorem d_Mo_call_107 : decode m_Mo_call.2.1 107 = .ok (.aload_n 0, 1) := by decide +kernel
theorem f_Mo_call_93 : jl_fd m_Mo_call 93 7 30 = true := by decide +kernel
theorem d_Mo_call_108 : decode m_Mo_call.2.1 108 = .ok (.getfield 93, 3) := by decide +kernel
theorem d_Mo_call_111 : decode m_Mo_call.2.1 111 = .ok (.iconst 5, 1) := by decide +kernel
theorem d_Mo_call_112 : decode m_Mo_call.2.1 112 = .ok (.iload 4, 2) := by decide +kernel
theorem d_Mo_call_114 : decode m_Mo_call.2.1 114 = .ok (.imul, 1) := by decide +kernel
theorem d_Mo_call_115 : decode m_Mo_call.2.1 115 = .ok (.aload_n 0, 1) := by decide +kernel
theorem d_Mo_call_116 : decode m_Mo_call.2.1 116 = .ok (.getfield 84, 3) := by decide +kernel
theorem d_Mo_call_119 : decode m_Mo_call.2.1 119 = .ok (.iload 4, 2) := by decide +kernel
theorem d_Mo_call_121 : decode m_Mo_call.2.1 121 = .ok (.iaload, 1) := by decide +kernel
theorem d_Mo_call_122 : decode m_Mo_call.2.1 122 = .ok (.iadd, 1) := by decide +kernel
theorem d_Mo_call_123 : decode m_Mo_call.2.1 123 = .ok (.iload 5, 2) := by decide +kernel
theorem d_Mo_call_125 : decode m_Mo_call.2.1 125 = .ok (.iadd, 1) := by decide +kernel
theorem d_Mo_call_126 : decode m_Mo_call.2.1 126 = .ok (.iaload, 1) := by decide +kernel
theorem k_Mo_call_254 : jl_cv m_Mo_call m_Mo_setLocal 254 4 = true := by decide +kernel
theorem d_Mo_call_127 : decode m_Mo_call.2.1 127 = .ok (.invokevirtual 254, 3) := by decide +kernel
theorem d_Mo_call_130 : decode m_Mo_call.2.1 130 = .ok (.iinc 5 1, 3) := by decide +kernel
theorem d_Mo_call_133 : decode m_Mo_call.2.1 133 = .ok (.goto (-59), 3) := by decide +kernel
theorem mo_cl_l (hl : l.stackTraces = false) {P : jl_O → jl_S → Prop}   (ht : t < 11) (hb : b + c ≤ 5) (hfh : fh t = b) (hkv : ∀ i, i < c → vk (5 * t + b + i) = kdI (R (7 + b + i)) ∧ vl (5 * t + b + i) = V (7 + b + i)) (hT : ∀ lw' lk' σ', σ'[46]? = some (.inl (0, 78, .inl lw')) → σ'[47]? = some (.inl (0, 78, .inl lk')) → CLw lk0 lw0 lk' lw' t b c R V → σ'.length = σ1.length → (∀ i, i ≠ 46 → i ≠ 47 → σ'[i]? = σ1[i]?) → P (.inl none) σ') : ∀ (nn : Nat) (i : Nat) (σ : jl_S) (lw lk : Nat → Int32), c - i < nn → i ≤ c → MoO σ fa vf wh wy hg dp md ov oh dn an → σ[45]? = some (.inl (0, 13, .inl fun j => nI (fh j))) → σ[46]? = some (.inl (0, 78, .inl lw)) → σ[47]? = some (.inl (0, 78, .inl lk)) → σ[48]? = some (.inl (0, 65, .inl vl)) → σ[49]? = some (.inl (0, 65, .inl vk)) → σ.length = σ1.length → (∀ i, i ≠ 46 → i ≠ 47 → σ[i]? = σ1[i]?) → CLw lk0 lw0 lk lw t b i R V → jl_E l G m_Mo_call (0, 0) 74 [some (.ref 22), some (.int (x)), some (.int (nI c)), some (.int (a)), some (.int (nI t)), some (.int (nI i))] [] σ P := by
  intro nn
  induction nn with
  | zero => intro i σ lw lk hnn; exact absurd hnn (Nat.not_lt_zero _)
  | succ nn ihn =>
    intro i σ lw lk hnn hi hO f3 f4 f5 f6 f7 hL hf hcw
    refine er_iload d_Mo_call_74 rfl ?_
    refine er_iload_n d_Mo_call_76 rfl ?_
    refine er_icmp_geN 136 d_Mo_call_77 (by decide) (by omega) (by omega) (fun c1 => ?_) (fun c1 => ?_)
    · exact er_vret d_Mo_call_136 rfl (hT lw lk _ f4 f5 (by have z := hcw; rw [show i = c by omega] at z; exact z) hL hf) (by decide) (by decide)
    · refine er_aload_n d_Mo_call_80 rfl ?_
      refine er_iload d_Mo_call_81 rfl ?_
      refine er_iconst ((nI (1))) d_Mo_call_83 (by decide) ?_
      refine er_iaddN d_Mo_call_84 ?_
      refine er_iload d_Mo_call_85 rfl ?_
      refine er_aload_n d_Mo_call_87 rfl ?_
      refine er_getf d_Mo_call_88 f_Mo_call_96 hO rfl ?_
      refine er_iconst ((nI (5))) d_Mo_call_91 (by decide) ?_
      refine er_iload d_Mo_call_92 rfl ?_
      refine er_imulN d_Mo_call_94 ?_
      refine er_aload_n d_Mo_call_95 rfl ?_
      refine er_getf d_Mo_call_96 f_Mo_call_84 hO rfl ?_
      refine er_iload d_Mo_call_99 rfl ?_
      refine er_ialdQ (v := (nI (b))) d_Mo_call_101 f3 (by omega) (by omega) (congrArg nI hfh) ?_
      refine er_iaddN d_Mo_call_102 ?_
      refine er_iload d_Mo_call_103 rfl ?_
      refine er_iaddN d_Mo_call_105 ?_
      refine er_ialdQ (v := (kdI (R (7 + b + i)))) d_Mo_call_106 f7 (by omega) (by omega) ((hkv i (by omega)).1) ?_
      refine er_aload_n d_Mo_call_107 rfl ?_
      refine er_getf d_Mo_call_108 f_Mo_call_93 hO rfl ?_
      refine er_iconst ((nI (5))) d_Mo_call_111 (by decide) ?_
      refine er_iload d_Mo_call_112 rfl ?_
      refine er_imulN d_Mo_call_114 ?_
      refine er_aload_n d_Mo_call_115 rfl ?_
      refine er_getf d_Mo_call_116 f_Mo_call_84 hO rfl ?_
      refine er_iload d_Mo_call_119 rfl ?_
      refine er_ialdQ (v := (nI (b))) d_Mo_call_121 f3 (by omega) (by omega) (congrArg nI hfh) ?_
      refine er_iaddN d_Mo_call_122 ?_
      refine er_iload d_Mo_call_123 rfl ?_
      refine er_iaddN d_Mo_call_125 ?_
      refine er_ialdQ (v := (V (7 + b + i))) d_Mo_call_126 f6 (by omega) (by omega) ((hkv i (by omega)).2) ?_
      refine er_callV (As := [.int (nI ((t) + (1))), .int (nI i), .int (kdI (R (7 + b + i))), .int (V (7 + b + i))]) d_Mo_call_127 k_Mo_call_254 hO rfl rfl rfl (Nat.le_of_ble_eq_true rfl) (by decide) (by decide) (mo_mlocal (f := t + 1) (k := i) hl hO f4 f5 (by omega) (by omega)) ?_
      show jl_E l G m_Mo_call (0, 0) 130 [some (.ref 22), some (.int (x)), some (.int (nI c)), some (.int (a)), some (.int (nI t)), some (.int (nI i))] [] ((σ.set (47) (.inl (0, 78, .inl (upd lk (6 * (t + 1) + i) (kdI (R (7 + b + i))))))).set (46) (.inl (0, 78, .inl (upd lw (6 * (t + 1) + i) (V (7 + b + i)))))) P
      refine er_iinc ((nI (i + 1))) d_Mo_call_130 (by decide) rfl (jl_inc _) ?_
      show jl_E l G m_Mo_call (0, 0) 133 [some (.ref 22), some (.int (x)), some (.int (nI c)), some (.int (a)), some (.int (nI t)), some (.int (nI (i + 1)))] [] ((σ.set (47) (.inl (0, 78, .inl (upd lk (6 * (t + 1) + i) (kdI (R (7 + b + i))))))).set (46) (.inl (0, 78, .inl (upd lw (6 * (t + 1) + i) (V (7 + b + i)))))) P
      refine er_goto 74 d_Mo_call_133 (by decide) ?_
      exact ihn (i + 1) _ _ _ (by omega) (by omega) (jl_sn (by decide) (jl_sn (by decide) hO)) (jl_sn (by decide) (jl_sn (by decide) f3)) (jl_ss (jl_sn (by decide) f4)) (jl_sn (by decide) (jl_ss f5)) (jl_sn (by decide) (jl_sn (by decide) f6)) (jl_sn (by decide) (jl_sn (by decide) f7)) (by rw [List.length_set, List.length_set]; exact hL) (fun j h1 h2 => by rw [List.getElem?_set_ne (by omega), List.getElem?_set_ne (by omega)]; exact hf j h1 h2) (hcw.s (by omega))
theorem d_Mo_call_0 : decode m_Mo_call.2.1 0 = .ok (.aload_n 0, 1) := by decide +kernel
theorem d_Mo_call_1 : decode m_Mo_call.2.1 1 = .ok (.bipush 14, 2) := by decide +kernel
theorem d_Mo_call_3 : decode m_Mo_call.2.1 3 = .ok (.iload_n 1, 1) := by decide +kernel
theorem k_Mo_call_176 : jl_cv m_Mo_call m_Mo_takes 176 2 = true := by decide +kernel
theorem d_Mo_call_4 : decode m_Mo_call.2.1 4 = .ok (.invokevirtual 176, 3) := by decide +kernel
theorem d_Mo_call_7 : decode m_Mo_call.2.1 7 = .ok (.istore_n 2, 1) := by decide +kernel
theorem d_Mo_call_8 : decode m_Mo_call.2.1 8 = .ok (.aload_n 0, 1) := by decide +kernel
theorem d_Mo_call_9 : decode m_Mo_call.2.1 9 = .ok (.iload_n 2, 1) := by decide +kernel
theorem k_Mo_call_245 : jl_cv m_Mo_call m_Mo_top 245 1 = true := by decide +kernel
theorem d_Mo_call_10 : decode m_Mo_call.2.1 10 = .ok (.invokevirtual 245, 3) := by decide +kernel
theorem d_Mo_call_13 : decode m_Mo_call.2.1 13 = .ok (.istore_n 3, 1) := by decide +kernel
theorem d_Mo_call_14 : decode m_Mo_call.2.1 14 = .ok (.iload_n 3, 1) := by decide +kernel
theorem d_Mo_call_15 : decode m_Mo_call.2.1 15 = .ok (.ifCond .ge 9, 3) := by decide +kernel
theorem d_Mo_call_18 : decode m_Mo_call.2.1 18 = .ok (.aload_n 0, 1) := by decide +kernel
theorem d_Mo_call_19 : decode m_Mo_call.2.1 19 = .ok (.iconst 2, 1) := by decide +kernel
theorem k_Mo_call_248 : jl_cv m_Mo_call m_Mo_signalNumber 248 1 = true := by decide +kernel
theorem d_Mo_call_20 : decode m_Mo_call.2.1 20 = .ok (.invokevirtual 248, 3) := by decide +kernel
theorem d_Mo_call_23 : decode m_Mo_call.2.1 23 = .ok (.return_, 1) := by decide +kernel
theorem mo_cl_n (hl : l.stackTraces = false) {P : jl_O → jl_S → Prop}  (hn : NB σ0 σ (b + c) t m (p) (b + c) (R) (V) (fs) (H) fa vf wh wy hg ov oh dn an) (hw0 : MoW σ0 tb pr ow ft hs) (hu0 : MoM σ0 u1 u2 ur ul uo ua uc us ut uk) (hcf : ∀ j, j < 48 → us j < 1024 ∧ ut j < 24 ∧ uk j < 7) (ht : t < 12) (htl : fs.length = t) (hof : (∀ f ∈ (⟨m, p, R, V⟩ :: fs), f.m < 24 ∧ f.p < 24 ∧ ctM (D f.m) uc us ut uk f.m ∧ uc f.m ≤ 2)) (hok : WoOk tb pr ow fi) (hn31 : n < 2 ^ 31) (hn6 : n / 4 < 6) {c0 : Nat} {q1 q2 : Option Nat} (hmo : mmo pr hs (n % 4) 6 (some (n / 4)) = some c0) (hc24 : c0 < 24) (e1 : u1 c0 = q1) (e2 : u2 c0 = q2) (ho1 : ob 16 q1) (ho2 : ob 16 q2) (hec : 1 + prm q1 q2 = c) (hb : b + c ≤ 5) (hv : V (7 + b) = -1) (hG : ∀ f' fs' σ', rse pr D none (-1) (⟨m, p, R, V⟩ :: fs) = some (f' :: fs') → NB σ0 σ' (hgt f'.R) fs'.length f'.m f'.p (hgt f'.R) f'.R f'.V fs' H fa vf wh wy hg ov oh dn an → P (.inl none) σ') (hE : rse pr D none (-1) (⟨m, p, R, V⟩ :: fs) = none → ∀ σ', NQ σ0 σ' [] H fa vf wh wy hg (nI 2) (nI 0) dn an → P (.inl none) σ') : jl_mE l G m_Mo_call [.ref 22, .int (nI n)] σ P := by
  obtain ⟨fx, fp, fh, lw, lk, vl, vk, ks, kc, kv, lo, sk, hO, f1, f2, f3, f4, f5, f6, f7, hH, hB, hy1, hR1, hF⟩ := id hn
  obtain ⟨k1, k2, k3⟩ := id hH
  obtain ⟨⟨r1, r2⟩, hlo, hsk⟩ := id hR1
  obtain ⟨⟨hfx, hfp, hlc, hst⟩, hfh, hfs, hln⟩ := id hy1
  have hfx : fx t = m := hfx
  have hfp : fp t = p := hfp
  have hlc : ∀ k, k < 6 → lk (6 * t + k) = kdI (R k) ∧ (R k ≠ none → lw (6 * t + k) = V k) := hlc
  have hst : ∀ j, j < _ → vk (5 * t + j) = kdI (R (7 + j)) ∧ vl (5 * t + j) = V (7 + j) := hst
  have hw := hw0.fn hF
  have hu := hu0.fn hF
  obtain ⟨h23, h24, h25, h26, h27⟩ := id hw
  obtain ⟨h28, h29, h30, h31, h32, h33, h34, h35, h36, h37⟩ := id hu
  refine jl_ofE (as := [.ref 22, .int (nI n)]) rfl (by decide) hl (jl_cc rfl (jl_cc rfl jl_ca)) (Nat.le_of_ble_eq_true rfl) ?_
  show jl_E l G m_Mo_call (0, 0) 0 [some (.ref 22), some (.int (nI n)), none, none, none, none] [] (σ) P
  refine er_aload_n d_Mo_call_0 rfl ?_
  refine er_bipush ((nI (14))) d_Mo_call_1 (by decide) ?_
  refine er_iload_n d_Mo_call_3 rfl ?_
  refine er_callV (As := [.int (nI 14), .int (nI n)]) d_Mo_call_4 k_Mo_call_176 hO rfl rfl rfl (Nat.le_of_ble_eq_true rfl) (by decide) (by decide) (mo_tk_14E hl hO hw hu hok hn31 hn6 hmo hc24 e1 e2 ho1 ho2 hec) ?_
  show jl_E l G m_Mo_call (0, 0) 7 [some (.ref 22), some (.int (nI n)), none, none, none, none] [.int (nI c)] (σ) P
  refine er_istore_n d_Mo_call_7 (by decide) ?_
  show jl_E l G m_Mo_call (0, 0) 8 [some (.ref 22), some (.int (nI n)), some (.int (nI c)), none, none, none] [] (σ) P
  refine er_aload_n d_Mo_call_8 rfl ?_
  refine er_iload_n d_Mo_call_9 rfl ?_
  refine er_callV (As := [.int (nI c)]) d_Mo_call_10 k_Mo_call_245 hO rfl rfl rfl (Nat.le_of_ble_eq_true rfl) (by decide) (by decide) (mo_topE (h := b + c) (n := c) (v := (-1)) hl hO f3 f6 ht hfh (by omega) (by omega) (by omega) (by rw [show 5 * t + (b + c) - c = 5 * t + b by omega]; exact (hst b (by omega)).2.trans hv)) ?_
  show jl_E l G m_Mo_call (0, 0) 13 [some (.ref 22), some (.int (nI n)), some (.int (nI c)), none, none, none] [.int (-1)] (σ) P
  refine er_istore_n d_Mo_call_13 (by decide) ?_
  show jl_E l G m_Mo_call (0, 0) 14 [some (.ref 22), some (.int (nI n)), some (.int (nI c)), some (.int (-1)), none, none] [] (σ) P
  refine er_iload_n d_Mo_call_14 rfl ?_
  refine er_if_ge 24 d_Mo_call_15 (by decide) (fun z => absurd z (by decide)) (fun _ => ?_)
  refine er_aload_n d_Mo_call_18 rfl ?_
  refine er_iconst ((nI (2))) d_Mo_call_19 (by decide) ?_
  refine er_callVE (As := [.int (nI 2)]) d_Mo_call_20 k_Mo_call_248 hO rfl rfl rfl (Nat.le_of_ble_eq_true rfl) (by decide) (by decide) (mo_sn_2 hl (hn.le (Nat.zero_le _)) hw0 hu0 hcf ht htl hof (fun f1 fs1 σ e1 h1 => ⟨_, rfl, ?_⟩) (fun e1 σ h1 => ⟨_, rfl, ?_⟩))
  · skip
    show jl_E l G m_Mo_call (0, 0) 23 [some (.ref 22), some (.int (nI n)), some (.int (nI c)), some (.int (-1)), none, none] [] (σ) P
    exact er_vret d_Mo_call_23 rfl (hG f1 fs1 _ e1 h1) (by decide) (by decide)
  · skip
    show jl_E l G m_Mo_call (0, 0) 23 [some (.ref 22), some (.int (nI n)), some (.int (nI c)), some (.int (-1)), none, none] [] (σ) P
    exact er_vret d_Mo_call_23 rfl (hE e1 _ h1) (by decide) (by decide)
theorem d_Mo_call_24 : decode m_Mo_call.2.1 24 = .ok (.aload_n 0, 1) := by decide +kernel
theorem f_Mo_call_224 : jl_fd m_Mo_call 224 7 32 = true := by decide +kernel
theorem d_Mo_call_25 : decode m_Mo_call.2.1 25 = .ok (.getfield 224, 3) := by decide +kernel
theorem d_Mo_call_28 : decode m_Mo_call.2.1 28 = .ok (.bipush 12, 2) := by decide +kernel
theorem d_Mo_call_30 : decode m_Mo_call.2.1 30 = .ok (.if_icmp .ne 11, 3) := by decide +kernel
theorem d_Mo_call_33 : decode m_Mo_call.2.1 33 = .ok (.aload_n 0, 1) := by decide +kernel
theorem d_Mo_call_34 : decode m_Mo_call.2.1 34 = .ok (.bipush 6, 2) := by decide +kernel
theorem d_Mo_call_36 : decode m_Mo_call.2.1 36 = .ok (.iconst 0, 1) := by decide +kernel
theorem k_Mo_call_230 : jl_cv m_Mo_call m_Mo_end 230 2 = true := by decide +kernel
theorem d_Mo_call_37 : decode m_Mo_call.2.1 37 = .ok (.invokevirtual 230, 3) := by decide +kernel
theorem d_Mo_call_40 : decode m_Mo_call.2.1 40 = .ok (.return_, 1) := by decide +kernel
theorem mo_cl_f (hl : l.stackTraces = false) {P : jl_O → jl_S → Prop}  (hn : NB σ0 σ (b + c) t m (p) (b + c) (R) (V) (fs) (H) fa vf wh wy hg ov oh dn an) (hw0 : MoW σ0 tb pr ow ft hs) (hu0 : MoM σ0 u1 u2 ur ul uo ua uc us ut uk) (hok : WoOk tb pr ow fi) (hn31 : n < 2 ^ 31) (hn6 : n / 4 < 6) {c0 : Nat} {q1 q2 : Option Nat} (hmo : mmo pr hs (n % 4) 6 (some (n / 4)) = some c0) (hc24 : c0 < 24) (e1 : u1 c0 = q1) (e2 : u2 c0 = q2) (ho1 : ob 16 q1) (ho2 : ob 16 q2) (hec : 1 + prm q1 q2 = c) (ht : t < 12) (hb : b + c ≤ 5) (h11 : 11 ≤ t) (hq : q < H.n) (hn40 : H.n ≤ 40) (hv : V (7 + b) = nI q) (hT : ∀ σ', NQ σ0 σ' [] H fa vf wh wy hg (nI 6) (nI 0) dn an → P (.inl none) σ') : jl_mE l G m_Mo_call [.ref 22, .int (nI n)] σ P := by
  obtain ⟨fx, fp, fh, lw, lk, vl, vk, ks, kc, kv, lo, sk, hO, f1, f2, f3, f4, f5, f6, f7, hH, hB, hy1, hR1, hF⟩ := id hn
  obtain ⟨k1, k2, k3⟩ := id hH
  obtain ⟨⟨r1, r2⟩, hlo, hsk⟩ := id hR1
  obtain ⟨⟨hfx, hfp, hlc, hst⟩, hfh, hfs, hln⟩ := id hy1
  have hfx : fx t = m := hfx
  have hfp : fp t = p := hfp
  have hlc : ∀ k, k < 6 → lk (6 * t + k) = kdI (R k) ∧ (R k ≠ none → lw (6 * t + k) = V k) := hlc
  have hst : ∀ j, j < _ → vk (5 * t + j) = kdI (R (7 + j)) ∧ vl (5 * t + j) = V (7 + j) := hst
  have hw := hw0.fn hF
  have hu := hu0.fn hF
  obtain ⟨h23, h24, h25, h26, h27⟩ := id hw
  obtain ⟨h28, h29, h30, h31, h32, h33, h34, h35, h36, h37⟩ := id hu
  refine jl_ofE (as := [.ref 22, .int (nI n)]) rfl (by decide) hl (jl_cc rfl (jl_cc rfl jl_ca)) (Nat.le_of_ble_eq_true rfl) ?_
  show jl_E l G m_Mo_call (0, 0) 0 [some (.ref 22), some (.int (nI n)), none, none, none, none] [] (σ) P
  refine er_aload_n d_Mo_call_0 rfl ?_
  refine er_bipush ((nI (14))) d_Mo_call_1 (by decide) ?_
  refine er_iload_n d_Mo_call_3 rfl ?_
  refine er_callV (As := [.int (nI 14), .int (nI n)]) d_Mo_call_4 k_Mo_call_176 hO rfl rfl rfl (Nat.le_of_ble_eq_true rfl) (by decide) (by decide) (mo_tk_14E hl hO hw hu hok hn31 hn6 hmo hc24 e1 e2 ho1 ho2 hec) ?_
  show jl_E l G m_Mo_call (0, 0) 7 [some (.ref 22), some (.int (nI n)), none, none, none, none] [.int (nI c)] (σ) P
  refine er_istore_n d_Mo_call_7 (by decide) ?_
  show jl_E l G m_Mo_call (0, 0) 8 [some (.ref 22), some (.int (nI n)), some (.int (nI c)), none, none, none] [] (σ) P
  refine er_aload_n d_Mo_call_8 rfl ?_
  refine er_iload_n d_Mo_call_9 rfl ?_
  refine er_callV (As := [.int (nI c)]) d_Mo_call_10 k_Mo_call_245 hO rfl rfl rfl (Nat.le_of_ble_eq_true rfl) (by decide) (by decide) (mo_topE (h := b + c) (n := c) (v := (nI (q))) hl hO f3 f6 ht hfh (by omega) (by omega) (by omega) (by rw [show 5 * t + (b + c) - c = 5 * t + b by omega]; exact (hst b (by omega)).2.trans hv)) ?_
  show jl_E l G m_Mo_call (0, 0) 13 [some (.ref 22), some (.int (nI n)), some (.int (nI c)), none, none, none] [.int (nI q)] (σ) P
  refine er_istore_n d_Mo_call_13 (by decide) ?_
  show jl_E l G m_Mo_call (0, 0) 14 [some (.ref 22), some (.int (nI n)), some (.int (nI c)), some (.int (nI q)), none, none] [] (σ) P
  refine er_iload_n d_Mo_call_14 rfl ?_
  refine er_if_ge 24 d_Mo_call_15 (by decide) (fun _ => ?_) (fun z => absurd (Int32.not_lt.mp (nI_pos (by omega))) z)
  refine er_aload_n d_Mo_call_24 rfl ?_
  refine er_getf d_Mo_call_25 f_Mo_call_224 hO rfl ?_
  refine er_bipush ((nI (12))) d_Mo_call_28 (by decide) ?_
  refine er_icmp_ne 41 d_Mo_call_30 (by decide) (fun z => absurd (congrArg nI (show t + 1 = 12 by omega)) z) (fun _ => ?_)
  refine er_aload_n d_Mo_call_33 rfl ?_
  refine er_bipush ((nI (6))) d_Mo_call_34 (by decide) ?_
  refine er_iconst ((nI (0))) d_Mo_call_36 (by decide) ?_
  refine er_callV (As := [.int (nI 6), .int (nI 0)]) d_Mo_call_37 k_Mo_call_230 hO rfl rfl rfl (Nat.le_of_ble_eq_true rfl) (by decide) (by decide) (mo_mend hl hO) ?_
  show jl_E l G m_Mo_call (0, 0) 40 [some (.ref 22), some (.int (nI n)), some (.int (nI c)), some (.int (nI q)), none, none] [] (σ.set (22) (.inr (7, [.int (fa), .ref 23, .ref 24, .ref 25, .ref 26, .ref 27, .ref 28, .ref 29, .ref 30, .ref 31, .ref 32, .ref 33, .ref 34, .ref 35, .ref 36, .ref 37, .int (vf), .int (wh), .int (wy), .ref 38, .ref 39, .ref 40, .ref 41, .int (hg), .ref 42, .ref 43, .ref 44, .ref 45, .ref 46, .ref 47, .ref 48, .ref 49, .int (nI 0), .ref 50, .ref 51, .ref 52, .int (nI (H.n)), .int (nI 6), .int (nI 0), .int (dn), .int (an)]))) P
  exact er_vret d_Mo_call_40 rfl (hT _ ⟨_, _, _, _, _, _, _, _, _, _, _, _, (jl_ss hO), (jl_sn (by decide) f1), (jl_sn (by decide) f2), (jl_sn (by decide) f3), (jl_sn (by decide) f4), (jl_sn (by decide) f5), (jl_sn (by decide) f6), (jl_sn (by decide) f7), ⟨(jl_sn (by decide) k1), (jl_sn (by decide) k2), (jl_sn (by decide) k3)⟩, hB, trivial, ⟨⟨(jl_sn (by decide) r1), (jl_sn (by decide) r2)⟩, hlo, hsk⟩, (hF.set (by omega))⟩) (by decide) (by decide)
theorem d_Mo_call_41 : decode m_Mo_call.2.1 41 = .ok (.aload_n 0, 1) := by decide +kernel
theorem d_Mo_call_42 : decode m_Mo_call.2.1 42 = .ok (.getfield 224, 3) := by decide +kernel
theorem d_Mo_call_45 : decode m_Mo_call.2.1 45 = .ok (.iconst 1, 1) := by decide +kernel
theorem d_Mo_call_46 : decode m_Mo_call.2.1 46 = .ok (.isub, 1) := by decide +kernel
theorem d_Mo_call_47 : decode m_Mo_call.2.1 47 = .ok (.istore 4, 2) := by decide +kernel
theorem d_Mo_call_49 : decode m_Mo_call.2.1 49 = .ok (.aload_n 0, 1) := by decide +kernel
theorem d_Mo_call_50 : decode m_Mo_call.2.1 50 = .ok (.iload_n 2, 1) := by decide +kernel
theorem k_Mo_call_242 : jl_cv m_Mo_call m_Mo_drop 242 1 = true := by decide +kernel
theorem d_Mo_call_51 : decode m_Mo_call.2.1 51 = .ok (.invokevirtual 242, 3) := by decide +kernel
theorem d_Mo_call_54 : decode m_Mo_call.2.1 54 = .ok (.aload_n 0, 1) := by decide +kernel
theorem d_Mo_call_55 : decode m_Mo_call.2.1 55 = .ok (.aload_n 0, 1) := by decide +kernel
theorem d_Mo_call_56 : decode m_Mo_call.2.1 56 = .ok (.aload_n 0, 1) := by decide +kernel
theorem f_Mo_call_99 : jl_fd m_Mo_call 99 7 33 = true := by decide +kernel
theorem d_Mo_call_57 : decode m_Mo_call.2.1 57 = .ok (.getfield 99, 3) := by decide +kernel
theorem d_Mo_call_60 : decode m_Mo_call.2.1 60 = .ok (.iload_n 3, 1) := by decide +kernel
theorem d_Mo_call_61 : decode m_Mo_call.2.1 61 = .ok (.iaload, 1) := by decide +kernel
theorem d_Mo_call_62 : decode m_Mo_call.2.1 62 = .ok (.iload_n 1, 1) := by decide +kernel
theorem d_Mo_call_63 : decode m_Mo_call.2.1 63 = .ok (.iconst 4, 1) := by decide +kernel
theorem d_Mo_call_64 : decode m_Mo_call.2.1 64 = .ok (.irem, 1) := by decide +kernel
theorem k_Mo_call_157 : jl_cv m_Mo_call m_Mo_methodOf 157 2 = true := by decide +kernel
theorem d_Mo_call_65 : decode m_Mo_call.2.1 65 = .ok (.invokevirtual 157, 3) := by decide +kernel
theorem k_Mo_call_251 : jl_cv m_Mo_call m_Mo_enter 251 1 = true := by decide +kernel
theorem d_Mo_call_68 : decode m_Mo_call.2.1 68 = .ok (.invokevirtual 251, 3) := by decide +kernel
theorem d_Mo_call_71 : decode m_Mo_call.2.1 71 = .ok (.iconst 0, 1) := by decide +kernel
theorem d_Mo_call_72 : decode m_Mo_call.2.1 72 = .ok (.istore 5, 2) := by decide +kernel
theorem mo_cl_o (hl : l.stackTraces = false) {P : jl_O → jl_S → Prop}  (hn : NB σ0 σ (b + c) t m (p) (b + c) (R) (V) (fs) (H) fa vf wh wy hg ov oh dn an) (hw0 : MoW σ0 tb pr ow ft hs) (hu0 : MoM σ0 u1 u2 ur ul uo ua uc us ut uk) (hok : WoOk tb pr ow fi) (hn31 : n < 2 ^ 31) (hn6 : n / 4 < 6) {c0 : Nat} {q1 q2 : Option Nat} (hmo : mmo pr hs (n % 4) 6 (some (n / 4)) = some c0) (hc24 : c0 < 24) (e1 : u1 c0 = q1) (e2 : u2 c0 = q2) (ho1 : ob 16 q1) (ho2 : ob 16 q2) (hec : 1 + prm q1 q2 = c) (ht : t < 12) (hb : b + c ≤ 5) (h11 : ¬ 11 ≤ t) (hq : q < H.n) (hn40 : H.n ≤ 40) (hv : V (7 + b) = nI q) (hso : H.so q = some k) (hk6 : k < 6) (hd : dsc pr) (hmm : mmo pr hs (n % 4) 6 (some k) = some m2) (hT : ∀ σ', NB σ0 σ' (0) (t + 1) m2 (0) (0) (cwR R b (prm q1 q2)) (cwW V b (prm q1 q2)) (⟨m, p, va_up R 6 (some b), V⟩ :: fs) (H) fa vf wh wy hg ov oh dn an → P (.inl none) σ') : jl_mE l G m_Mo_call [.ref 22, .int (nI n)] σ P := by
  obtain ⟨fx, fp, fh, lw, lk, vl, vk, ks, kc, kv, lo, sk, hO, f1, f2, f3, f4, f5, f6, f7, hH, hB, hy1, hR1, hF⟩ := id hn
  obtain ⟨k1, k2, k3⟩ := id hH
  obtain ⟨⟨r1, r2⟩, hlo, hsk⟩ := id hR1
  obtain ⟨⟨hfx, hfp, hlc, hst⟩, hfh, hfs, hln⟩ := id hy1
  have hfx : fx t = m := hfx
  have hfp : fp t = p := hfp
  have hlc : ∀ k, k < 6 → lk (6 * t + k) = kdI (R k) ∧ (R k ≠ none → lw (6 * t + k) = V k) := hlc
  have hst : ∀ j, j < _ → vk (5 * t + j) = kdI (R (7 + j)) ∧ vl (5 * t + j) = V (7 + j) := hst
  have hw := hw0.fn hF
  have hu := hu0.fn hF
  obtain ⟨h23, h24, h25, h26, h27⟩ := id hw
  obtain ⟨h28, h29, h30, h31, h32, h33, h34, h35, h36, h37⟩ := id hu
  refine jl_ofE (as := [.ref 22, .int (nI n)]) rfl (by decide) hl (jl_cc rfl (jl_cc rfl jl_ca)) (Nat.le_of_ble_eq_true rfl) ?_
  show jl_E l G m_Mo_call (0, 0) 0 [some (.ref 22), some (.int (nI n)), none, none, none, none] [] (σ) P
  refine er_aload_n d_Mo_call_0 rfl ?_
  refine er_bipush ((nI (14))) d_Mo_call_1 (by decide) ?_
  refine er_iload_n d_Mo_call_3 rfl ?_
  refine er_callV (As := [.int (nI 14), .int (nI n)]) d_Mo_call_4 k_Mo_call_176 hO rfl rfl rfl (Nat.le_of_ble_eq_true rfl) (by decide) (by decide) (mo_tk_14E hl hO hw hu hok hn31 hn6 hmo hc24 e1 e2 ho1 ho2 hec) ?_
  show jl_E l G m_Mo_call (0, 0) 7 [some (.ref 22), some (.int (nI n)), none, none, none, none] [.int (nI c)] (σ) P
  refine er_istore_n d_Mo_call_7 (by decide) ?_
  show jl_E l G m_Mo_call (0, 0) 8 [some (.ref 22), some (.int (nI n)), some (.int (nI c)), none, none, none] [] (σ) P
  refine er_aload_n d_Mo_call_8 rfl ?_
  refine er_iload_n d_Mo_call_9 rfl ?_
  refine er_callV (As := [.int (nI c)]) d_Mo_call_10 k_Mo_call_245 hO rfl rfl rfl (Nat.le_of_ble_eq_true rfl) (by decide) (by decide) (mo_topE (h := b + c) (n := c) (v := (nI (q))) hl hO f3 f6 ht hfh (by omega) (by omega) (by omega) (by rw [show 5 * t + (b + c) - c = 5 * t + b by omega]; exact (hst b (by omega)).2.trans hv)) ?_
  show jl_E l G m_Mo_call (0, 0) 13 [some (.ref 22), some (.int (nI n)), some (.int (nI c)), none, none, none] [.int (nI q)] (σ) P
  refine er_istore_n d_Mo_call_13 (by decide) ?_
  show jl_E l G m_Mo_call (0, 0) 14 [some (.ref 22), some (.int (nI n)), some (.int (nI c)), some (.int (nI q)), none, none] [] (σ) P
  refine er_iload_n d_Mo_call_14 rfl ?_
  refine er_if_ge 24 d_Mo_call_15 (by decide) (fun _ => ?_) (fun z => absurd (Int32.not_lt.mp (nI_pos (by omega))) z)
  refine er_aload_n d_Mo_call_24 rfl ?_
  refine er_getf d_Mo_call_25 f_Mo_call_224 hO rfl ?_
  refine er_bipush ((nI (12))) d_Mo_call_28 (by decide) ?_
  refine er_icmp_ne 41 d_Mo_call_30 (by decide) (fun _ => ?_) (fun z => absurd z (fun z => by rw [nI_eq (by omega) (by omega)] at z; omega))
  refine er_aload_n d_Mo_call_41 rfl ?_
  refine er_getf d_Mo_call_42 f_Mo_call_224 hO rfl ?_
  refine er_iconst ((nI (1))) d_Mo_call_45 (by decide) ?_
  refine er_isubN d_Mo_call_46 (by omega) ?_
  rw [show (t + 1) - (1) = t by omega]
  show jl_E l G m_Mo_call (0, 0) 47 [some (.ref 22), some (.int (nI n)), some (.int (nI c)), some (.int (nI q)), none, none] [.int (nI t)] (σ) P
  refine er_istore d_Mo_call_47 (by decide) ?_
  show jl_E l G m_Mo_call (0, 0) 49 [some (.ref 22), some (.int (nI n)), some (.int (nI c)), some (.int (nI q)), some (.int (nI t)), none] [] (σ) P
  refine er_aload_n d_Mo_call_49 rfl ?_
  refine er_iload_n d_Mo_call_50 rfl ?_
  refine er_callV (As := [.int (nI c)]) d_Mo_call_51 k_Mo_call_242 hO rfl rfl rfl (Nat.le_of_ble_eq_true rfl) (by decide) (by decide) (mo_dropE (h := b + c) (n := c) (c := b) hl hO f3 ht hfh (by omega) (by omega)) ?_
  show jl_E l G m_Mo_call (0, 0) 54 [some (.ref 22), some (.int (nI n)), some (.int (nI c)), some (.int (nI q)), some (.int (nI t)), none] [] (σ.set (45) (.inl (0, 13, .inl (fun j => nI ((va_up fh t b) j))))) P
  refine er_aload_n d_Mo_call_54 rfl ?_
  refine er_aload_n d_Mo_call_55 rfl ?_
  refine er_aload_n d_Mo_call_56 rfl ?_
  refine er_getf d_Mo_call_57 f_Mo_call_99 (jl_sn (by decide) hO) rfl ?_
  refine er_iload_n d_Mo_call_60 rfl ?_
  refine er_ialdQ (v := (nI (k))) d_Mo_call_61 (jl_sn (by decide) k1) (by omega) (by omega) ((hB q hq).1.trans (congrArg soI hso)) ?_
  refine er_iload_n d_Mo_call_62 rfl ?_
  refine er_iconst ((nI (4))) d_Mo_call_63 (by decide) ?_
  refine er_iremN d_Mo_call_64 (by omega) (by omega) (by omega) ?_
  refine er_callV (As := [.int (nI k), .int (nI ((n) % (4)))]) d_Mo_call_65 k_Mo_call_157 (jl_sn (by decide) hO) rfl rfl rfl (Nat.le_of_ble_eq_true rfl) (by decide) (by decide) (mo_methodOfE (k := k) (sl := n % 4) hl (jl_sn (by decide) hO) (MoW.sx hw (Or.inr (by decide))) (by omega) hd hk6 hmm) ?_
  show jl_E l G m_Mo_call (0, 0) 68 [some (.ref 22), some (.int (nI n)), some (.int (nI c)), some (.int (nI q)), some (.int (nI t)), none] [.int (nI m2), .ref 22] (σ.set (45) (.inl (0, 13, .inl (fun j => nI ((va_up fh t b) j))))) P
  refine er_callVE (As := [.int (nI m2)]) d_Mo_call_68 k_Mo_call_251 (jl_sn (by decide) hO) rfl rfl rfl (Nat.le_of_ble_eq_true rfl) (by decide) (by decide) (mo_enter (d := t + 1) hl (jl_sn (by decide) hO) (jl_sn (by decide) f1) (jl_sn (by decide) f2) (jl_ss f3) (jl_sn (by decide) f5) (by omega) (fun lk2 σ w1 e22 e43 e44 e45 e47 eL eF => ⟨_, rfl, ?_⟩))
  show jl_E l G m_Mo_call (0, 0) 71 [some (.ref 22), some (.int (nI n)), some (.int (nI c)), some (.int (nI q)), some (.int (nI t)), none] [] (σ) P
  refine er_iconst ((nI (0))) d_Mo_call_71 (by decide) ?_
  refine er_istore d_Mo_call_72 (by decide) ?_
  show jl_E l G m_Mo_call (0, 0) 74 [some (.ref 22), some (.int (nI n)), some (.int (nI c)), some (.int (nI q)), some (.int (nI t)), some (.int (nI 0))] [] (σ) P
  have f4 := (eF 46 (by decide) (by decide) (by decide) (by decide) (by decide)).trans (jl_sn (by decide) f4)
  have f6 := (eF 48 (by decide) (by decide) (by decide) (by decide) (by decide)).trans (jl_sn (by decide) f6)
  have f7 := (eF 49 (by decide) (by decide) (by decide) (by decide) (by decide)).trans (jl_sn (by decide) f7)
  have k1 := (eF 50 (by decide) (by decide) (by decide) (by decide) (by decide)).trans (jl_sn (by decide) k1)
  have k2 := (eF 51 (by decide) (by decide) (by decide) (by decide) (by decide)).trans (jl_sn (by decide) k2)
  have k3 := (eF 52 (by decide) (by decide) (by decide) (by decide) (by decide)).trans (jl_sn (by decide) k3)
  have r1 := (eF 40 (by decide) (by decide) (by decide) (by decide) (by decide)).trans (jl_sn (by decide) r1)
  have r2 := (eF 41 (by decide) (by decide) (by decide) (by decide) (by decide)).trans (jl_sn (by decide) r2)
  refine mo_cl_l (b := b) (R := R) (V := V) hl (by omega) hb ((va_up_ne _ _ (by omega)).trans (va_up_self _ _ _)) (fun i hi => ?_) (fun lw' lk' σ' g4 g5 hc gL gF => ?_) (c + 1) 0 σ lw lk2 (by omega) (Nat.zero_le _) e22 e45 f4 e47 f6 f7 rfl (fun _ _ _ => rfl) (CLw.z w1)
  · have z := hst (b + i) (by omega)
    rw [← Nat.add_assoc, ← Nat.add_assoc] at z
    exact z
  · refine hT σ' ⟨_, _, _, _, _, _, _, _, _, _, _, _, (gF 22 (by decide) (by decide)).trans e22, (gF 43 (by decide) (by decide)).trans e43, (gF 44 (by decide) (by decide)).trans e44, (gF 45 (by decide) (by decide)).trans e45, g4, g5, (gF 48 (by decide) (by decide)).trans f6, (gF 49 (by decide) (by decide)).trans f7, ⟨(gF 50 (by decide) (by decide)).trans k1, (gF 51 (by decide) (by decide)).trans k2, (gF 52 (by decide) (by decide)).trans k3⟩, hB, hy1.call (by omega) (by omega) hc, ⟨⟨(gF 40 (by decide) (by decide)).trans r1, (gF 41 (by decide) (by decide)).trans r2⟩, hlo, hsk⟩, ?_⟩
    refine ⟨gL.trans (eL.trans ((List.length_set ..).trans hF.1)), fun i h22 hi => ?_⟩
    rw [gF i (by omega) (by omega), eF i (by omega) (by omega) (by omega) (by omega) (by omega), List.getElem?_set_ne (by omega)]
    exact hF.2 i h22 hi
end JNzd
