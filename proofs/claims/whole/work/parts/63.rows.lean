/-! the class Verifier: rows (wip/gen/p63.py) -/
section JVa
variable {l : Launch} {G : jl_G} {σ : jl_S}
variable {tb : Nat → Bool} {pr : Nat → Option Nat} {ow fi ft : Nat → Nat} {mt : Nat → Option Nat}
variable {a : Nat} {q1 q2 : Option Nat} {rs : Nat} {op : Nat → Nat} {ag : Nat → Int32} {sz : Nat} {fr tt tg kd : Nat → Nat} {nc : Nat} {mp : Nat → Int32} {fh : Nat → Bool}
variable {wr wz : Int32} {bf gv jn : Nat → Option Nat} {sg : Int32 → Option Sg}
theorem d_Ve_lower_2 : decode m_Ve_lower.2.1 2 = .ok (.iload_n 2, 1) := by decide +kernel
theorem d_Ve_lower_3 : decode m_Ve_lower.2.1 3 = .ok (.iload_n 1, 1) := by decide +kernel
theorem d_Ve_lower_4 : decode m_Ve_lower.2.1 4 = .ok (.if_icmp .ge 36, 3) := by decide +kernel
theorem d_Ve_lower_40 : decode m_Ve_lower.2.1 40 = .ok (.return_, 1) := by decide +kernel
theorem d_Ve_lower_7 : decode m_Ve_lower.2.1 7 = .ok (.aload_n 0, 1) := by decide +kernel
theorem f_Ve_lower_15 : jl_fd m_Ve_lower 15 4 3 = true := by decide +kernel
theorem d_Ve_lower_8 : decode m_Ve_lower.2.1 8 = .ok (.getfield 15, 3) := by decide +kernel
theorem d_Ve_lower_11 : decode m_Ve_lower.2.1 11 = .ok (.bipush 6, 2) := by decide +kernel
theorem d_Ve_lower_13 : decode m_Ve_lower.2.1 13 = .ok (.dup2, 1) := by decide +kernel
theorem d_Ve_lower_14 : decode m_Ve_lower.2.1 14 = .ok (.iaload, 1) := by decide +kernel
theorem d_Ve_lower_15 : decode m_Ve_lower.2.1 15 = .ok (.iconst 1, 1) := by decide +kernel
theorem d_Ve_lower_16 : decode m_Ve_lower.2.1 16 = .ok (.isub, 1) := by decide +kernel
theorem d_Ve_lower_17 : decode m_Ve_lower.2.1 17 = .ok (.iastore, 1) := by decide +kernel
theorem d_Ve_lower_18 : decode m_Ve_lower.2.1 18 = .ok (.aload_n 0, 1) := by decide +kernel
theorem d_Ve_lower_19 : decode m_Ve_lower.2.1 19 = .ok (.getfield 15, 3) := by decide +kernel
theorem d_Ve_lower_22 : decode m_Ve_lower.2.1 22 = .ok (.bipush 7, 2) := by decide +kernel
theorem d_Ve_lower_24 : decode m_Ve_lower.2.1 24 = .ok (.aload_n 0, 1) := by decide +kernel
theorem d_Ve_lower_25 : decode m_Ve_lower.2.1 25 = .ok (.getfield 15, 3) := by decide +kernel
theorem d_Ve_lower_28 : decode m_Ve_lower.2.1 28 = .ok (.bipush 6, 2) := by decide +kernel
theorem d_Ve_lower_30 : decode m_Ve_lower.2.1 30 = .ok (.iaload, 1) := by decide +kernel
theorem d_Ve_lower_31 : decode m_Ve_lower.2.1 31 = .ok (.iadd, 1) := by decide +kernel
theorem d_Ve_lower_32 : decode m_Ve_lower.2.1 32 = .ok (.iconst (-1), 1) := by decide +kernel
theorem d_Ve_lower_33 : decode m_Ve_lower.2.1 33 = .ok (.iastore, 1) := by decide +kernel
theorem d_Ve_lower_34 : decode m_Ve_lower.2.1 34 = .ok (.iinc 2 1, 3) := by decide +kernel
theorem d_Ve_lower_37 : decode m_Ve_lower.2.1 37 = .ok (.goto (-35), 3) := by decide +kernel
theorem ve_low_loop (hl : l.stackTraces = false) {n h : Nat}  (hn : n ≤ h) (hh : h ≤ 5) : ∀ (nn : Nat) (i : Nat) (σ : jl_S), n - i < nn → i ≤ n → VeAt σ wr wz → σ[11]? = some (.inl (0, 12, .inl fun j => en ((low gv h i) j))) → jl_W l G m_Ve_lower (0, 0) 2 [some (.ref 9), some (.int (nI n)), some (.int (nI i))] [] σ (.inl none) (σ.set 11 (.inl (0, 12, .inl fun j => en ((low gv h n) j)))) := by
  intro nn
  induction nn with
  | zero => intro i σ hnn; exact absurd hnn (Nat.not_lt_zero _)
  | succ nn ihn =>
    intro i σ hnn hi hV hG
    refine jr_iload_n d_Ve_lower_2 rfl ?_
    refine jr_iload_n d_Ve_lower_3 rfl ?_
    refine jr_icmp_geN 40 d_Ve_lower_4 (by decide) (by omega) (by omega) (fun c1 => ?_) (fun c1 => ?_)
    · exact jr_vretE d_Ve_lower_40 rfl (rfl) (by rw [show n = i by omega]; exact (jl_id hG)) (by decide) (by decide)
    · refine jr_aload_n d_Ve_lower_7 rfl ?_
      refine jr_getf d_Ve_lower_8 f_Ve_lower_15 hV rfl ?_
      refine jr_bipush ((nI (6))) d_Ve_lower_11 (by decide) ?_
      refine jr_dup2 d_Ve_lower_13 rfl rfl ?_
      refine jr_ialdQ (v := (nI (h - i))) d_Ve_lower_14 hG (by omega) (by omega) (rfl) ?_
      refine jr_iconst ((nI (1))) d_Ve_lower_15 (by decide) ?_
      refine jr_isubN d_Ve_lower_16 (by omega) ?_
      refine jr_iastN d_Ve_lower_17 hG (by omega) (by omega) ?_
      rw [show upd (fun j => en ((low gv h i) j)) (6) ((nI ((h - i) - (1)))) = (fun j => en ((va_up (low gv h i) (6) ((some ((h - i) - (1))))) j)) from en_up (low gv h i) (6) ((some ((h - i) - (1))))]
      show jl_W l G m_Ve_lower (0, 0) 18 [some (.ref 9), some (.int (nI n)), some (.int (nI i))] [] (σ.set (11) (.inl (0, 12, .inl (fun j => en ((va_up (low gv h i) (6) ((some ((h - i) - (1))))) j))))) (.inl none) (σ.set 11 (.inl (0, 12, .inl fun j => en ((low gv h n) j))))
      refine jr_aload_n d_Ve_lower_18 rfl ?_
      refine jr_getf d_Ve_lower_19 f_Ve_lower_15 (jl_sn (by decide) hV) rfl ?_
      refine jr_bipush ((nI (7))) d_Ve_lower_22 (by decide) ?_
      refine jr_aload_n d_Ve_lower_24 rfl ?_
      refine jr_getf d_Ve_lower_25 f_Ve_lower_15 (jl_sn (by decide) hV) rfl ?_
      refine jr_bipush ((nI (6))) d_Ve_lower_28 (by decide) ?_
      refine jr_ialdQ (v := (nI (h - i - 1))) d_Ve_lower_30 (jl_ss hG) (by omega) (by omega) (rfl) ?_
      refine jr_iaddN d_Ve_lower_31 ?_
      refine jr_iconst ((-1)) d_Ve_lower_32 (by decide) ?_
      refine jr_iastN d_Ve_lower_33 (jl_ss hG) (by omega) (by omega) ?_
      rw [show upd (fun j => en ((va_up (low gv h i) (6) ((some ((h - i) - (1))))) j)) ((7) + (h - i - 1)) ((-1)) = (fun j => en ((va_up (va_up (low gv h i) (6) ((some ((h - i) - (1))))) ((7) + (h - i - 1)) (none)) j)) from en_up (va_up (low gv h i) (6) ((some ((h - i) - (1))))) ((7) + (h - i - 1)) (none)]
      show jl_W l G m_Ve_lower (0, 0) 34 [some (.ref 9), some (.int (nI n)), some (.int (nI i))] [] ((σ.set (11) (.inl (0, 12, .inl (fun j => en ((va_up (low gv h i) (6) ((some ((h - i) - (1))))) j))))).set (11) (.inl (0, 12, .inl (fun j => en ((va_up (va_up (low gv h i) (6) ((some ((h - i) - (1))))) ((7) + (h - i - 1)) (none)) j))))) (.inl none) (σ.set 11 (.inl (0, 12, .inl fun j => en ((low gv h n) j))))
      refine jr_iinc ((nI (i + 1))) d_Ve_lower_34 (by decide) rfl (jl_inc _) ?_
      show jl_W l G m_Ve_lower (0, 0) 37 [some (.ref 9), some (.int (nI n)), some (.int (nI (i + 1)))] [] ((σ.set (11) (.inl (0, 12, .inl (fun j => en ((va_up (low gv h i) (6) ((some ((h - i) - (1))))) j))))).set (11) (.inl (0, 12, .inl (fun j => en ((va_up (va_up (low gv h i) (6) ((some ((h - i) - (1))))) ((7) + (h - i - 1)) (none)) j))))) (.inl none) (σ.set 11 (.inl (0, 12, .inl fun j => en ((low gv h n) j))))
      refine jr_goto 2 d_Ve_lower_37 (by decide) ?_
      exact jl_seq (by rw [List.set_set, List.set_set]) (ihn (i + 1) _ (by omega) (by omega) (jl_sn (by decide) (jl_sn (by decide) hV)) (by rw [← low_s (by omega)]; exact jl_ss (jl_ss hG)))
theorem d_Ve_lower_0 : decode m_Ve_lower.2.1 0 = .ok (.iconst 0, 1) := by decide +kernel
theorem d_Ve_lower_1 : decode m_Ve_lower.2.1 1 = .ok (.istore_n 2, 1) := by decide +kernel
theorem ve_lower (hl : l.stackTraces = false) {n h : Nat} (hV : VeAt σ wr wz) (hG : σ[11]? = some (.inl (0, 12, .inl fun j => en (gv j)))) (hh : gv 6 = some h) (hn : n ≤ h) (h5 : h ≤ 5) : jl_m l G m_Ve_lower [.ref 9, .int (nI n)] σ (.inl none) (σ.set 11 (.inl (0, 12, .inl fun j => en ((low gv h n) j)))) := by
  refine jl_of (as := [.ref 9, .int (nI n)]) rfl (by decide) hl (jl_cc rfl (jl_cc rfl jl_ca)) (Nat.le_of_ble_eq_true rfl) ?_
  show jl_W l G m_Ve_lower (0, 0) 0 [some (.ref 9), some (.int (nI n)), none] [] (σ) (.inl none) (σ.set 11 (.inl (0, 12, .inl fun j => en ((low gv h n) j))))
  refine jr_iconst ((nI (0))) d_Ve_lower_0 (by decide) ?_
  refine jr_istore_n d_Ve_lower_1 (by decide) ?_
  show jl_W l G m_Ve_lower (0, 0) 2 [some (.ref 9), some (.int (nI n)), some (.int (nI 0))] [] (σ) (.inl none) (σ.set 11 (.inl (0, 12, .inl fun j => en ((low gv h n) j))))
  exact ve_low_loop hl hn h5 (n + 1) 0 σ (by omega) (by omega) hV (by rw [low_0 hh]; exact hG)
theorem d_Ve_put_0 : decode m_Ve_put.2.1 0 = .ok (.aload_n 0, 1) := by decide +kernel
theorem f_Ve_put_15 : jl_fd m_Ve_put 15 4 3 = true := by decide +kernel
theorem d_Ve_put_1 : decode m_Ve_put.2.1 1 = .ok (.getfield 15, 3) := by decide +kernel
theorem d_Ve_put_4 : decode m_Ve_put.2.1 4 = .ok (.bipush 7, 2) := by decide +kernel
theorem d_Ve_put_6 : decode m_Ve_put.2.1 6 = .ok (.aload_n 0, 1) := by decide +kernel
theorem d_Ve_put_7 : decode m_Ve_put.2.1 7 = .ok (.getfield 15, 3) := by decide +kernel
theorem d_Ve_put_10 : decode m_Ve_put.2.1 10 = .ok (.bipush 6, 2) := by decide +kernel
theorem d_Ve_put_12 : decode m_Ve_put.2.1 12 = .ok (.iaload, 1) := by decide +kernel
theorem d_Ve_put_13 : decode m_Ve_put.2.1 13 = .ok (.iadd, 1) := by decide +kernel
theorem d_Ve_put_14 : decode m_Ve_put.2.1 14 = .ok (.iload_n 1, 1) := by decide +kernel
theorem d_Ve_put_15 : decode m_Ve_put.2.1 15 = .ok (.iastore, 1) := by decide +kernel
theorem d_Ve_put_16 : decode m_Ve_put.2.1 16 = .ok (.aload_n 0, 1) := by decide +kernel
theorem d_Ve_put_17 : decode m_Ve_put.2.1 17 = .ok (.getfield 15, 3) := by decide +kernel
theorem d_Ve_put_20 : decode m_Ve_put.2.1 20 = .ok (.bipush 6, 2) := by decide +kernel
theorem d_Ve_put_22 : decode m_Ve_put.2.1 22 = .ok (.dup2, 1) := by decide +kernel
theorem d_Ve_put_23 : decode m_Ve_put.2.1 23 = .ok (.iaload, 1) := by decide +kernel
theorem d_Ve_put_24 : decode m_Ve_put.2.1 24 = .ok (.iconst 1, 1) := by decide +kernel
theorem d_Ve_put_25 : decode m_Ve_put.2.1 25 = .ok (.iadd, 1) := by decide +kernel
theorem d_Ve_put_26 : decode m_Ve_put.2.1 26 = .ok (.iastore, 1) := by decide +kernel
theorem d_Ve_put_27 : decode m_Ve_put.2.1 27 = .ok (.return_, 1) := by decide +kernel
theorem ve_put (hl : l.stackTraces = false) {h : Nat} {t : Option Nat} (hV : VeAt σ wr wz) (hG : σ[11]? = some (.inl (0, 12, .inl fun j => en (gv j)))) (hh : gv 6 = some h) (h5 : h < 5) : jl_m l G m_Ve_put [.ref 9, .int (en t)] σ (.inl none) (σ.set 11 (.inl (0, 12, .inl fun j => en ((psh gv h t) j)))) := by
  refine jl_of (as := [.ref 9, .int (en t)]) rfl (by decide) hl (jl_cc rfl (jl_cc rfl jl_ca)) (Nat.le_of_ble_eq_true rfl) ?_
  show jl_W l G m_Ve_put (0, 0) 0 [some (.ref 9), some (.int (en t))] [] (σ) (.inl none) (σ.set 11 (.inl (0, 12, .inl fun j => en ((psh gv h t) j))))
  refine jr_aload_n d_Ve_put_0 rfl ?_
  refine jr_getf d_Ve_put_1 f_Ve_put_15 hV rfl ?_
  refine jr_bipush ((nI (7))) d_Ve_put_4 (by decide) ?_
  refine jr_aload_n d_Ve_put_6 rfl ?_
  refine jr_getf d_Ve_put_7 f_Ve_put_15 hV rfl ?_
  refine jr_bipush ((nI (6))) d_Ve_put_10 (by decide) ?_
  refine jr_ialdQ (v := (nI (h))) d_Ve_put_12 hG (by omega) (by omega) (congrArg en hh) ?_
  refine jr_iaddN d_Ve_put_13 ?_
  refine jr_iload_n d_Ve_put_14 rfl ?_
  refine jr_iastN d_Ve_put_15 hG (by omega) (by omega) ?_
  rw [show upd (fun j => en (gv j)) ((7) + (h)) ((en t)) = (fun j => en ((va_up gv ((7) + (h)) (t)) j)) from en_up gv ((7) + (h)) (t)]
  show jl_W l G m_Ve_put (0, 0) 16 [some (.ref 9), some (.int (en t))] [] (σ.set (11) (.inl (0, 12, .inl (fun j => en ((va_up gv ((7) + (h)) (t)) j))))) (.inl none) (σ.set 11 (.inl (0, 12, .inl fun j => en ((psh gv h t) j))))
  refine jr_aload_n d_Ve_put_16 rfl ?_
  refine jr_getf d_Ve_put_17 f_Ve_put_15 (jl_sn (by decide) hV) rfl ?_
  refine jr_bipush ((nI (6))) d_Ve_put_20 (by decide) ?_
  refine jr_dup2 d_Ve_put_22 rfl rfl ?_
  refine jr_ialdQ (v := (nI (h))) d_Ve_put_23 (jl_ss hG) (by omega) (by omega) (congrArg en ((va_up_ne _ _ (by omega)).trans hh)) ?_
  refine jr_iconst ((nI (1))) d_Ve_put_24 (by decide) ?_
  refine jr_iaddN d_Ve_put_25 ?_
  refine jr_iastN d_Ve_put_26 (jl_ss hG) (by omega) (by omega) ?_
  rw [show upd (fun j => en ((va_up gv ((7) + (h)) (t)) j)) (6) ((nI ((h) + (1)))) = (fun j => en ((va_up (va_up gv ((7) + (h)) (t)) (6) ((some ((h) + (1))))) j)) from en_up (va_up gv ((7) + (h)) (t)) (6) ((some ((h) + (1))))]
  show jl_W l G m_Ve_put (0, 0) 27 [some (.ref 9), some (.int (en t))] [] ((σ.set (11) (.inl (0, 12, .inl (fun j => en ((va_up gv ((7) + (h)) (t)) j))))).set (11) (.inl (0, 12, .inl (fun j => en ((va_up (va_up gv ((7) + (h)) (t)) (6) ((some ((h) + (1))))) j))))) (.inl none) (σ.set 11 (.inl (0, 12, .inl fun j => en ((psh gv h t) j))))
  exact jr_vretE d_Ve_put_27 rfl (rfl) (by rw [List.set_set, ← psh_e]) (by decide) (by decide)
theorem d_Ve_typeOfResult_0 : decode m_Ve_typeOfResult.2.1 0 = .ok (.iload_n 1, 1) := by decide +kernel
theorem d_Ve_typeOfResult_1 : decode m_Ve_typeOfResult.2.1 1 = .ok (.tableswitch 175 1 24 #[111, 175, 175, 175, 175, 175, 175, 175, 175, 118, 120, 125, 175, 141, 120, 175, 175, 175, 171, 175, 175, 175, 175, 173], 111) := by decide +kernel
theorem d_Ve_typeOfResult_176 : decode m_Ve_typeOfResult.2.1 176 = .ok (.iconst 0, 1) := by decide +kernel
theorem d_Ve_typeOfResult_177 : decode m_Ve_typeOfResult.2.1 177 = .ok (.ireturn, 1) := by decide +kernel
theorem ve_tr_0 (hl : l.stackTraces = false) {tp : Option Nat} {x : Int32} (hc : CkAt σ) (hw : WoAt σ tb pr ow fi ft mt) (hok : WoOk tb pr ow fi) (hsg : SgC σ tb pr mt sg) (hV : VeAt σ wr wz) (hB : σ[10]? = some (.inl (0, 12, .inl fun j => en (bf j))))  : jl_m l G m_Ve_typeOfResult [.ref 9, .int (nI 0), .int (x), .int (en tp)] σ (.inl (some (.int (en (some 0))))) (σ) := by
  obtain ⟨hW, h2, h3, h4, h5, h6, h7⟩ := id hw
  refine jl_of (as := [.ref 9, .int (nI 0), .int (x), .int (en tp)]) rfl (by decide) hl (jl_cc rfl (jl_cc rfl (jl_cc rfl (jl_cc rfl jl_ca)))) (Nat.le_of_ble_eq_true rfl) ?_
  show jl_W l G m_Ve_typeOfResult (0, 0) 0 [some (.ref 9), some (.int (nI 0)), some (.int (x)), some (.int (en tp)), none] [] (σ) (.inl (some (.int (en (some 0))))) (σ)
  refine jr_iload_n d_Ve_typeOfResult_0 rfl ?_
  refine jr_tableOut 176 d_Ve_typeOfResult_1 (by decide +kernel) (by decide) ?_
  refine jr_iconst ((nI (0))) d_Ve_typeOfResult_176 (by decide) ?_
  exact jr_iretE d_Ve_typeOfResult_177 rfl (rfl) (rfl) (by decide) (by decide)
theorem d_Ve_typeOfResult_112 : decode m_Ve_typeOfResult.2.1 112 = .ok (.aload_n 0, 1) := by decide +kernel
theorem f_Ve_typeOfResult_9 : jl_fd m_Ve_typeOfResult 9 4 2 = true := by decide +kernel
theorem d_Ve_typeOfResult_113 : decode m_Ve_typeOfResult.2.1 113 = .ok (.getfield 9, 3) := by decide +kernel
theorem d_Ve_typeOfResult_116 : decode m_Ve_typeOfResult.2.1 116 = .ok (.iload_n 2, 1) := by decide +kernel
theorem d_Ve_typeOfResult_117 : decode m_Ve_typeOfResult.2.1 117 = .ok (.iaload, 1) := by decide +kernel
theorem d_Ve_typeOfResult_118 : decode m_Ve_typeOfResult.2.1 118 = .ok (.ireturn, 1) := by decide +kernel
theorem ve_tr_1 (hl : l.stackTraces = false) {tp : Option Nat} {n : Nat} (hc : CkAt σ) (hw : WoAt σ tb pr ow fi ft mt) (hok : WoOk tb pr ow fi) (hsg : SgC σ tb pr mt sg) (hV : VeAt σ wr wz) (hB : σ[10]? = some (.inl (0, 12, .inl fun j => en (bf j)))) (hn : n < 6) : jl_m l G m_Ve_typeOfResult [.ref 9, .int (nI 1), .int (nI n), .int (en tp)] σ (.inl (some (.int (en (bf n))))) (σ) := by
  obtain ⟨hW, h2, h3, h4, h5, h6, h7⟩ := id hw
  refine jl_of (as := [.ref 9, .int (nI 1), .int (nI n), .int (en tp)]) rfl (by decide) hl (jl_cc rfl (jl_cc rfl (jl_cc rfl (jl_cc rfl jl_ca)))) (Nat.le_of_ble_eq_true rfl) ?_
  show jl_W l G m_Ve_typeOfResult (0, 0) 0 [some (.ref 9), some (.int (nI 1)), some (.int (nI n)), some (.int (en tp)), none] [] (σ) (.inl (some (.int (en (bf n))))) (σ)
  refine jr_iload_n d_Ve_typeOfResult_0 rfl ?_
  refine jr_tableIn (off := 111) 112 d_Ve_typeOfResult_1 (by decide +kernel) (by decide +kernel) (by decide +kernel) (by decide) ?_
  refine jr_aload_n d_Ve_typeOfResult_112 rfl ?_
  refine jr_getf d_Ve_typeOfResult_113 f_Ve_typeOfResult_9 hV rfl ?_
  refine jr_iload_n d_Ve_typeOfResult_116 rfl ?_
  refine jr_ialdN d_Ve_typeOfResult_117 hB (by omega) (by omega) ?_
  exact jr_iretE d_Ve_typeOfResult_118 rfl (rfl) (rfl) (by decide) (by decide)
theorem ve_tr_2 (hl : l.stackTraces = false) {tp : Option Nat} {x : Int32} (hc : CkAt σ) (hw : WoAt σ tb pr ow fi ft mt) (hok : WoOk tb pr ow fi) (hsg : SgC σ tb pr mt sg) (hV : VeAt σ wr wz) (hB : σ[10]? = some (.inl (0, 12, .inl fun j => en (bf j))))  : jl_m l G m_Ve_typeOfResult [.ref 9, .int (nI 2), .int (x), .int (en tp)] σ (.inl (some (.int (en (some 0))))) (σ) := by
  obtain ⟨hW, h2, h3, h4, h5, h6, h7⟩ := id hw
  refine jl_of (as := [.ref 9, .int (nI 2), .int (x), .int (en tp)]) rfl (by decide) hl (jl_cc rfl (jl_cc rfl (jl_cc rfl (jl_cc rfl jl_ca)))) (Nat.le_of_ble_eq_true rfl) ?_
  show jl_W l G m_Ve_typeOfResult (0, 0) 0 [some (.ref 9), some (.int (nI 2)), some (.int (x)), some (.int (en tp)), none] [] (σ) (.inl (some (.int (en (some 0))))) (σ)
  refine jr_iload_n d_Ve_typeOfResult_0 rfl ?_
  refine jr_tableIn (off := 175) 176 d_Ve_typeOfResult_1 (by decide +kernel) (by decide +kernel) (by decide +kernel) (by decide) ?_
  refine jr_iconst ((nI (0))) d_Ve_typeOfResult_176 (by decide) ?_
  exact jr_iretE d_Ve_typeOfResult_177 rfl (rfl) (rfl) (by decide) (by decide)
theorem ve_tr_3 (hl : l.stackTraces = false) {tp : Option Nat} {x : Int32} (hc : CkAt σ) (hw : WoAt σ tb pr ow fi ft mt) (hok : WoOk tb pr ow fi) (hsg : SgC σ tb pr mt sg) (hV : VeAt σ wr wz) (hB : σ[10]? = some (.inl (0, 12, .inl fun j => en (bf j))))  : jl_m l G m_Ve_typeOfResult [.ref 9, .int (nI 3), .int (x), .int (en tp)] σ (.inl (some (.int (en (some 0))))) (σ) := by
  obtain ⟨hW, h2, h3, h4, h5, h6, h7⟩ := id hw
  refine jl_of (as := [.ref 9, .int (nI 3), .int (x), .int (en tp)]) rfl (by decide) hl (jl_cc rfl (jl_cc rfl (jl_cc rfl (jl_cc rfl jl_ca)))) (Nat.le_of_ble_eq_true rfl) ?_
  show jl_W l G m_Ve_typeOfResult (0, 0) 0 [some (.ref 9), some (.int (nI 3)), some (.int (x)), some (.int (en tp)), none] [] (σ) (.inl (some (.int (en (some 0))))) (σ)
  refine jr_iload_n d_Ve_typeOfResult_0 rfl ?_
  refine jr_tableIn (off := 175) 176 d_Ve_typeOfResult_1 (by decide +kernel) (by decide +kernel) (by decide +kernel) (by decide) ?_
  refine jr_iconst ((nI (0))) d_Ve_typeOfResult_176 (by decide) ?_
  exact jr_iretE d_Ve_typeOfResult_177 rfl (rfl) (rfl) (by decide) (by decide)
theorem ve_tr_4 (hl : l.stackTraces = false) {tp : Option Nat} {x : Int32} (hc : CkAt σ) (hw : WoAt σ tb pr ow fi ft mt) (hok : WoOk tb pr ow fi) (hsg : SgC σ tb pr mt sg) (hV : VeAt σ wr wz) (hB : σ[10]? = some (.inl (0, 12, .inl fun j => en (bf j))))  : jl_m l G m_Ve_typeOfResult [.ref 9, .int (nI 4), .int (x), .int (en tp)] σ (.inl (some (.int (en (some 0))))) (σ) := by
  obtain ⟨hW, h2, h3, h4, h5, h6, h7⟩ := id hw
  refine jl_of (as := [.ref 9, .int (nI 4), .int (x), .int (en tp)]) rfl (by decide) hl (jl_cc rfl (jl_cc rfl (jl_cc rfl (jl_cc rfl jl_ca)))) (Nat.le_of_ble_eq_true rfl) ?_
  show jl_W l G m_Ve_typeOfResult (0, 0) 0 [some (.ref 9), some (.int (nI 4)), some (.int (x)), some (.int (en tp)), none] [] (σ) (.inl (some (.int (en (some 0))))) (σ)
  refine jr_iload_n d_Ve_typeOfResult_0 rfl ?_
  refine jr_tableIn (off := 175) 176 d_Ve_typeOfResult_1 (by decide +kernel) (by decide +kernel) (by decide +kernel) (by decide) ?_
  refine jr_iconst ((nI (0))) d_Ve_typeOfResult_176 (by decide) ?_
  exact jr_iretE d_Ve_typeOfResult_177 rfl (rfl) (rfl) (by decide) (by decide)
theorem ve_tr_5 (hl : l.stackTraces = false) {tp : Option Nat} {x : Int32} (hc : CkAt σ) (hw : WoAt σ tb pr ow fi ft mt) (hok : WoOk tb pr ow fi) (hsg : SgC σ tb pr mt sg) (hV : VeAt σ wr wz) (hB : σ[10]? = some (.inl (0, 12, .inl fun j => en (bf j))))  : jl_m l G m_Ve_typeOfResult [.ref 9, .int (nI 5), .int (x), .int (en tp)] σ (.inl (some (.int (en (some 0))))) (σ) := by
  obtain ⟨hW, h2, h3, h4, h5, h6, h7⟩ := id hw
  refine jl_of (as := [.ref 9, .int (nI 5), .int (x), .int (en tp)]) rfl (by decide) hl (jl_cc rfl (jl_cc rfl (jl_cc rfl (jl_cc rfl jl_ca)))) (Nat.le_of_ble_eq_true rfl) ?_
  show jl_W l G m_Ve_typeOfResult (0, 0) 0 [some (.ref 9), some (.int (nI 5)), some (.int (x)), some (.int (en tp)), none] [] (σ) (.inl (some (.int (en (some 0))))) (σ)
  refine jr_iload_n d_Ve_typeOfResult_0 rfl ?_
  refine jr_tableIn (off := 175) 176 d_Ve_typeOfResult_1 (by decide +kernel) (by decide +kernel) (by decide +kernel) (by decide) ?_
  refine jr_iconst ((nI (0))) d_Ve_typeOfResult_176 (by decide) ?_
  exact jr_iretE d_Ve_typeOfResult_177 rfl (rfl) (rfl) (by decide) (by decide)
theorem ve_tr_6 (hl : l.stackTraces = false) {tp : Option Nat} {x : Int32} (hc : CkAt σ) (hw : WoAt σ tb pr ow fi ft mt) (hok : WoOk tb pr ow fi) (hsg : SgC σ tb pr mt sg) (hV : VeAt σ wr wz) (hB : σ[10]? = some (.inl (0, 12, .inl fun j => en (bf j))))  : jl_m l G m_Ve_typeOfResult [.ref 9, .int (nI 6), .int (x), .int (en tp)] σ (.inl (some (.int (en (some 0))))) (σ) := by
  obtain ⟨hW, h2, h3, h4, h5, h6, h7⟩ := id hw
  refine jl_of (as := [.ref 9, .int (nI 6), .int (x), .int (en tp)]) rfl (by decide) hl (jl_cc rfl (jl_cc rfl (jl_cc rfl (jl_cc rfl jl_ca)))) (Nat.le_of_ble_eq_true rfl) ?_
  show jl_W l G m_Ve_typeOfResult (0, 0) 0 [some (.ref 9), some (.int (nI 6)), some (.int (x)), some (.int (en tp)), none] [] (σ) (.inl (some (.int (en (some 0))))) (σ)
  refine jr_iload_n d_Ve_typeOfResult_0 rfl ?_
  refine jr_tableIn (off := 175) 176 d_Ve_typeOfResult_1 (by decide +kernel) (by decide +kernel) (by decide +kernel) (by decide) ?_
  refine jr_iconst ((nI (0))) d_Ve_typeOfResult_176 (by decide) ?_
  exact jr_iretE d_Ve_typeOfResult_177 rfl (rfl) (rfl) (by decide) (by decide)
theorem ve_tr_7 (hl : l.stackTraces = false) {tp : Option Nat} {x : Int32} (hc : CkAt σ) (hw : WoAt σ tb pr ow fi ft mt) (hok : WoOk tb pr ow fi) (hsg : SgC σ tb pr mt sg) (hV : VeAt σ wr wz) (hB : σ[10]? = some (.inl (0, 12, .inl fun j => en (bf j))))  : jl_m l G m_Ve_typeOfResult [.ref 9, .int (nI 7), .int (x), .int (en tp)] σ (.inl (some (.int (en (some 0))))) (σ) := by
  obtain ⟨hW, h2, h3, h4, h5, h6, h7⟩ := id hw
  refine jl_of (as := [.ref 9, .int (nI 7), .int (x), .int (en tp)]) rfl (by decide) hl (jl_cc rfl (jl_cc rfl (jl_cc rfl (jl_cc rfl jl_ca)))) (Nat.le_of_ble_eq_true rfl) ?_
  show jl_W l G m_Ve_typeOfResult (0, 0) 0 [some (.ref 9), some (.int (nI 7)), some (.int (x)), some (.int (en tp)), none] [] (σ) (.inl (some (.int (en (some 0))))) (σ)
  refine jr_iload_n d_Ve_typeOfResult_0 rfl ?_
  refine jr_tableIn (off := 175) 176 d_Ve_typeOfResult_1 (by decide +kernel) (by decide +kernel) (by decide +kernel) (by decide) ?_
  refine jr_iconst ((nI (0))) d_Ve_typeOfResult_176 (by decide) ?_
  exact jr_iretE d_Ve_typeOfResult_177 rfl (rfl) (rfl) (by decide) (by decide)
theorem ve_tr_8 (hl : l.stackTraces = false) {tp : Option Nat} {x : Int32} (hc : CkAt σ) (hw : WoAt σ tb pr ow fi ft mt) (hok : WoOk tb pr ow fi) (hsg : SgC σ tb pr mt sg) (hV : VeAt σ wr wz) (hB : σ[10]? = some (.inl (0, 12, .inl fun j => en (bf j))))  : jl_m l G m_Ve_typeOfResult [.ref 9, .int (nI 8), .int (x), .int (en tp)] σ (.inl (some (.int (en (some 0))))) (σ) := by
  obtain ⟨hW, h2, h3, h4, h5, h6, h7⟩ := id hw
  refine jl_of (as := [.ref 9, .int (nI 8), .int (x), .int (en tp)]) rfl (by decide) hl (jl_cc rfl (jl_cc rfl (jl_cc rfl (jl_cc rfl jl_ca)))) (Nat.le_of_ble_eq_true rfl) ?_
  show jl_W l G m_Ve_typeOfResult (0, 0) 0 [some (.ref 9), some (.int (nI 8)), some (.int (x)), some (.int (en tp)), none] [] (σ) (.inl (some (.int (en (some 0))))) (σ)
  refine jr_iload_n d_Ve_typeOfResult_0 rfl ?_
  refine jr_tableIn (off := 175) 176 d_Ve_typeOfResult_1 (by decide +kernel) (by decide +kernel) (by decide +kernel) (by decide) ?_
  refine jr_iconst ((nI (0))) d_Ve_typeOfResult_176 (by decide) ?_
  exact jr_iretE d_Ve_typeOfResult_177 rfl (rfl) (rfl) (by decide) (by decide)
theorem ve_tr_9 (hl : l.stackTraces = false) {tp : Option Nat} {x : Int32} (hc : CkAt σ) (hw : WoAt σ tb pr ow fi ft mt) (hok : WoOk tb pr ow fi) (hsg : SgC σ tb pr mt sg) (hV : VeAt σ wr wz) (hB : σ[10]? = some (.inl (0, 12, .inl fun j => en (bf j))))  : jl_m l G m_Ve_typeOfResult [.ref 9, .int (nI 9), .int (x), .int (en tp)] σ (.inl (some (.int (en (some 0))))) (σ) := by
  obtain ⟨hW, h2, h3, h4, h5, h6, h7⟩ := id hw
  refine jl_of (as := [.ref 9, .int (nI 9), .int (x), .int (en tp)]) rfl (by decide) hl (jl_cc rfl (jl_cc rfl (jl_cc rfl (jl_cc rfl jl_ca)))) (Nat.le_of_ble_eq_true rfl) ?_
  show jl_W l G m_Ve_typeOfResult (0, 0) 0 [some (.ref 9), some (.int (nI 9)), some (.int (x)), some (.int (en tp)), none] [] (σ) (.inl (some (.int (en (some 0))))) (σ)
  refine jr_iload_n d_Ve_typeOfResult_0 rfl ?_
  refine jr_tableIn (off := 175) 176 d_Ve_typeOfResult_1 (by decide +kernel) (by decide +kernel) (by decide +kernel) (by decide) ?_
  refine jr_iconst ((nI (0))) d_Ve_typeOfResult_176 (by decide) ?_
  exact jr_iretE d_Ve_typeOfResult_177 rfl (rfl) (rfl) (by decide) (by decide)
theorem d_Ve_typeOfResult_119 : decode m_Ve_typeOfResult.2.1 119 = .ok (.iconst 2, 1) := by decide +kernel
theorem d_Ve_typeOfResult_120 : decode m_Ve_typeOfResult.2.1 120 = .ok (.ireturn, 1) := by decide +kernel
theorem ve_tr_10 (hl : l.stackTraces = false) {tp : Option Nat} {x : Int32} (hc : CkAt σ) (hw : WoAt σ tb pr ow fi ft mt) (hok : WoOk tb pr ow fi) (hsg : SgC σ tb pr mt sg) (hV : VeAt σ wr wz) (hB : σ[10]? = some (.inl (0, 12, .inl fun j => en (bf j))))  : jl_m l G m_Ve_typeOfResult [.ref 9, .int (nI 10), .int (x), .int (en tp)] σ (.inl (some (.int (en (some 2))))) (σ) := by
  obtain ⟨hW, h2, h3, h4, h5, h6, h7⟩ := id hw
  refine jl_of (as := [.ref 9, .int (nI 10), .int (x), .int (en tp)]) rfl (by decide) hl (jl_cc rfl (jl_cc rfl (jl_cc rfl (jl_cc rfl jl_ca)))) (Nat.le_of_ble_eq_true rfl) ?_
  show jl_W l G m_Ve_typeOfResult (0, 0) 0 [some (.ref 9), some (.int (nI 10)), some (.int (x)), some (.int (en tp)), none] [] (σ) (.inl (some (.int (en (some 2))))) (σ)
  refine jr_iload_n d_Ve_typeOfResult_0 rfl ?_
  refine jr_tableIn (off := 118) 119 d_Ve_typeOfResult_1 (by decide +kernel) (by decide +kernel) (by decide +kernel) (by decide) ?_
  refine jr_iconst ((nI (2))) d_Ve_typeOfResult_119 (by decide) ?_
  exact jr_iretE d_Ve_typeOfResult_120 rfl (rfl) (rfl) (by decide) (by decide)
theorem d_Ve_typeOfResult_121 : decode m_Ve_typeOfResult.2.1 121 = .ok (.bipush 10, 2) := by decide +kernel
theorem d_Ve_typeOfResult_123 : decode m_Ve_typeOfResult.2.1 123 = .ok (.iload_n 2, 1) := by decide +kernel
theorem d_Ve_typeOfResult_124 : decode m_Ve_typeOfResult.2.1 124 = .ok (.iadd, 1) := by decide +kernel
theorem d_Ve_typeOfResult_125 : decode m_Ve_typeOfResult.2.1 125 = .ok (.ireturn, 1) := by decide +kernel
theorem ve_tr_11 (hl : l.stackTraces = false) {tp : Option Nat} {n : Nat} (hc : CkAt σ) (hw : WoAt σ tb pr ow fi ft mt) (hok : WoOk tb pr ow fi) (hsg : SgC σ tb pr mt sg) (hV : VeAt σ wr wz) (hB : σ[10]? = some (.inl (0, 12, .inl fun j => en (bf j)))) (hn : n < 6) : jl_m l G m_Ve_typeOfResult [.ref 9, .int (nI 11), .int (nI n), .int (en tp)] σ (.inl (some (.int (en (some (10 + n)))))) (σ) := by
  obtain ⟨hW, h2, h3, h4, h5, h6, h7⟩ := id hw
  refine jl_of (as := [.ref 9, .int (nI 11), .int (nI n), .int (en tp)]) rfl (by decide) hl (jl_cc rfl (jl_cc rfl (jl_cc rfl (jl_cc rfl jl_ca)))) (Nat.le_of_ble_eq_true rfl) ?_
  show jl_W l G m_Ve_typeOfResult (0, 0) 0 [some (.ref 9), some (.int (nI 11)), some (.int (nI n)), some (.int (en tp)), none] [] (σ) (.inl (some (.int (en (some (10 + n)))))) (σ)
  refine jr_iload_n d_Ve_typeOfResult_0 rfl ?_
  refine jr_tableIn (off := 120) 121 d_Ve_typeOfResult_1 (by decide +kernel) (by decide +kernel) (by decide +kernel) (by decide) ?_
  refine jr_bipush ((nI (10))) d_Ve_typeOfResult_121 (by decide) ?_
  refine jr_iload_n d_Ve_typeOfResult_123 rfl ?_
  refine jr_iaddN d_Ve_typeOfResult_124 ?_
  exact jr_iretE d_Ve_typeOfResult_125 rfl (rfl) (rfl) (by decide) (by decide)
theorem d_Ve_typeOfResult_126 : decode m_Ve_typeOfResult.2.1 126 = .ok (.aload_n 0, 1) := by decide +kernel
theorem f_Ve_typeOfResult_28 : jl_fd m_Ve_typeOfResult 28 4 0 = true := by decide +kernel
theorem d_Ve_typeOfResult_127 : decode m_Ve_typeOfResult.2.1 127 = .ok (.getfield 28, 3) := by decide +kernel
theorem d_Ve_typeOfResult_130 : decode m_Ve_typeOfResult.2.1 130 = .ok (.iload_n 2, 1) := by decide +kernel
theorem d_Ve_typeOfResult_131 : decode m_Ve_typeOfResult.2.1 131 = .ok (.bipush 32, 2) := by decide +kernel
theorem d_Ve_typeOfResult_133 : decode m_Ve_typeOfResult.2.1 133 = .ok (.idiv, 1) := by decide +kernel
theorem d_Ve_typeOfResult_134 : decode m_Ve_typeOfResult.2.1 134 = .ok (.iload_n 2, 1) := by decide +kernel
theorem d_Ve_typeOfResult_135 : decode m_Ve_typeOfResult.2.1 135 = .ok (.bipush 32, 2) := by decide +kernel
theorem d_Ve_typeOfResult_137 : decode m_Ve_typeOfResult.2.1 137 = .ok (.irem, 1) := by decide +kernel
theorem k_Ve_typeOfResult_104 : jl_cv m_Ve_typeOfResult m_Wo_fieldType 104 2 = true := by decide +kernel
theorem d_Ve_typeOfResult_138 : decode m_Ve_typeOfResult.2.1 138 = .ok (.invokevirtual 104, 3) := by decide +kernel
theorem d_Ve_typeOfResult_141 : decode m_Ve_typeOfResult.2.1 141 = .ok (.ireturn, 1) := by decide +kernel
theorem ve_tr_12 (hl : l.stackTraces = false) {tp : Option Nat} {n : Nat} (hc : CkAt σ) (hw : WoAt σ tb pr ow fi ft mt) (hok : WoOk tb pr ow fi) (hsg : SgC σ tb pr mt sg) (hV : VeAt σ wr wz) (hB : σ[10]? = some (.inl (0, 12, .inl fun j => en (bf j)))) (hn : n < 2 ^ 31) (hk : n / 32 < 6) (hf : n % 32 < fi (n / 32) + ow (n / 32)) : jl_m l G m_Ve_typeOfResult [.ref 9, .int (nI 12), .int (nI n), .int (en tp)] σ (.inl (some (.int (en (some (fty pr fi ft (n / 32) (n % 32))))))) (σ) := by
  obtain ⟨hW, h2, h3, h4, h5, h6, h7⟩ := id hw
  refine jl_of (as := [.ref 9, .int (nI 12), .int (nI n), .int (en tp)]) rfl (by decide) hl (jl_cc rfl (jl_cc rfl (jl_cc rfl (jl_cc rfl jl_ca)))) (Nat.le_of_ble_eq_true rfl) ?_
  show jl_W l G m_Ve_typeOfResult (0, 0) 0 [some (.ref 9), some (.int (nI 12)), some (.int (nI n)), some (.int (en tp)), none] [] (σ) (.inl (some (.int (en (some (fty pr fi ft (n / 32) (n % 32))))))) (σ)
  refine jr_iload_n d_Ve_typeOfResult_0 rfl ?_
  refine jr_tableIn (off := 125) 126 d_Ve_typeOfResult_1 (by decide +kernel) (by decide +kernel) (by decide +kernel) (by decide) ?_
  refine jr_aload_n d_Ve_typeOfResult_126 rfl ?_
  refine jr_getf d_Ve_typeOfResult_127 f_Ve_typeOfResult_28 hV rfl ?_
  refine jr_iload_n d_Ve_typeOfResult_130 rfl ?_
  refine jr_bipush ((nI (32))) d_Ve_typeOfResult_131 (by decide) ?_
  refine jr_idivN d_Ve_typeOfResult_133 (by omega) (by omega) (by omega) ?_
  refine jr_iload_n d_Ve_typeOfResult_134 rfl ?_
  refine jr_bipush ((nI (32))) d_Ve_typeOfResult_135 (by decide) ?_
  refine jr_iremN d_Ve_typeOfResult_137 (by omega) (by omega) (by omega) ?_
  refine jr_callV (As := [.int (nI ((n) / (32))), .int (nI ((n) % (32)))]) d_Ve_typeOfResult_138 k_Ve_typeOfResult_104 hW rfl rfl rfl (Nat.le_of_ble_eq_true rfl) (by decide) (by decide) (wo_ft hl hw hok hk hf) ?_
  show jl_W l G m_Ve_typeOfResult (0, 0) 141 [some (.ref 9), some (.int (nI 12)), some (.int (nI n)), some (.int (en tp)), none] [.int (nI (fty pr fi ft (n / 32) (n % 32)))] (σ) (.inl (some (.int (en (some (fty pr fi ft (n / 32) (n % 32))))))) (σ)
  exact jr_iretE d_Ve_typeOfResult_141 rfl (rfl) (rfl) (by decide) (by decide)
theorem ve_tr_13 (hl : l.stackTraces = false) {tp : Option Nat} {x : Int32} (hc : CkAt σ) (hw : WoAt σ tb pr ow fi ft mt) (hok : WoOk tb pr ow fi) (hsg : SgC σ tb pr mt sg) (hV : VeAt σ wr wz) (hB : σ[10]? = some (.inl (0, 12, .inl fun j => en (bf j))))  : jl_m l G m_Ve_typeOfResult [.ref 9, .int (nI 13), .int (x), .int (en tp)] σ (.inl (some (.int (en (some 0))))) (σ) := by
  obtain ⟨hW, h2, h3, h4, h5, h6, h7⟩ := id hw
  refine jl_of (as := [.ref 9, .int (nI 13), .int (x), .int (en tp)]) rfl (by decide) hl (jl_cc rfl (jl_cc rfl (jl_cc rfl (jl_cc rfl jl_ca)))) (Nat.le_of_ble_eq_true rfl) ?_
  show jl_W l G m_Ve_typeOfResult (0, 0) 0 [some (.ref 9), some (.int (nI 13)), some (.int (x)), some (.int (en tp)), none] [] (σ) (.inl (some (.int (en (some 0))))) (σ)
  refine jr_iload_n d_Ve_typeOfResult_0 rfl ?_
  refine jr_tableIn (off := 175) 176 d_Ve_typeOfResult_1 (by decide +kernel) (by decide +kernel) (by decide +kernel) (by decide) ?_
  refine jr_iconst ((nI (0))) d_Ve_typeOfResult_176 (by decide) ?_
  exact jr_iretE d_Ve_typeOfResult_177 rfl (rfl) (rfl) (by decide) (by decide)
theorem d_Ve_typeOfResult_142 : decode m_Ve_typeOfResult.2.1 142 = .ok (.aload_n 0, 1) := by decide +kernel
theorem d_Ve_typeOfResult_143 : decode m_Ve_typeOfResult.2.1 143 = .ok (.getfield 28, 3) := by decide +kernel
theorem d_Ve_typeOfResult_146 : decode m_Ve_typeOfResult.2.1 146 = .ok (.iload_n 2, 1) := by decide +kernel
theorem d_Ve_typeOfResult_147 : decode m_Ve_typeOfResult.2.1 147 = .ok (.iconst 4, 1) := by decide +kernel
theorem d_Ve_typeOfResult_148 : decode m_Ve_typeOfResult.2.1 148 = .ok (.idiv, 1) := by decide +kernel
theorem d_Ve_typeOfResult_149 : decode m_Ve_typeOfResult.2.1 149 = .ok (.iload_n 2, 1) := by decide +kernel
theorem d_Ve_typeOfResult_150 : decode m_Ve_typeOfResult.2.1 150 = .ok (.iconst 4, 1) := by decide +kernel
theorem d_Ve_typeOfResult_151 : decode m_Ve_typeOfResult.2.1 151 = .ok (.irem, 1) := by decide +kernel
theorem k_Ve_typeOfResult_170 : jl_cv m_Ve_typeOfResult m_Wo_found 170 2 = true := by decide +kernel
theorem d_Ve_typeOfResult_152 : decode m_Ve_typeOfResult.2.1 152 = .ok (.invokevirtual 170, 3) := by decide +kernel
theorem d_Ve_typeOfResult_155 : decode m_Ve_typeOfResult.2.1 155 = .ok (.astore 4, 2) := by decide +kernel
theorem d_Ve_typeOfResult_157 : decode m_Ve_typeOfResult.2.1 157 = .ok (.aload 4, 2) := by decide +kernel
theorem d_Ve_typeOfResult_159 : decode m_Ve_typeOfResult.2.1 159 = .ok (.ifnonnull 7, 3) := by decide +kernel
theorem d_Ve_typeOfResult_166 : decode m_Ve_typeOfResult.2.1 166 = .ok (.aload 4, 2) := by decide +kernel
theorem f_Ve_typeOfResult_118 : jl_fd m_Ve_typeOfResult 118 2 2 = true := by decide +kernel
theorem d_Ve_typeOfResult_168 : decode m_Ve_typeOfResult.2.1 168 = .ok (.getfield 118, 3) := by decide +kernel
theorem d_Ve_typeOfResult_171 : decode m_Ve_typeOfResult.2.1 171 = .ok (.ireturn, 1) := by decide +kernel
theorem ve_tr_14 (hl : l.stackTraces = false) {tp : Option Nat} {n : Nat} {r : Nat} {p q : Option Nat} (hc : CkAt σ) (hw : WoAt σ tb pr ow fi ft mt) (hok : WoOk tb pr ow fi) (hsg : SgC σ tb pr mt sg) (hV : VeAt σ wr wz) (hB : σ[10]? = some (.inl (0, 12, .inl fun j => en (bf j)))) (hn : n < 2 ^ 31) (hg : sg (nI n) = some (p, q, r)) : jl_m l G m_Ve_typeOfResult [.ref 9, .int (nI 14), .int (nI n), .int (en tp)] σ (.inl (some (.int (en (some r))))) (σ) := by
  obtain ⟨hW, h2, h3, h4, h5, h6, h7⟩ := id hw
  refine jl_of (as := [.ref 9, .int (nI 14), .int (nI n), .int (en tp)]) rfl (by decide) hl (jl_cc rfl (jl_cc rfl (jl_cc rfl (jl_cc rfl jl_ca)))) (Nat.le_of_ble_eq_true rfl) ?_
  show jl_W l G m_Ve_typeOfResult (0, 0) 0 [some (.ref 9), some (.int (nI 14)), some (.int (nI n)), some (.int (en tp)), none] [] (σ) (.inl (some (.int (en (some r))))) (σ)
  refine jr_iload_n d_Ve_typeOfResult_0 rfl ?_
  refine jr_tableIn (off := 141) 142 d_Ve_typeOfResult_1 (by decide +kernel) (by decide +kernel) (by decide +kernel) (by decide) ?_
  refine jr_aload_n d_Ve_typeOfResult_142 rfl ?_
  refine jr_getf d_Ve_typeOfResult_143 f_Ve_typeOfResult_28 hV rfl ?_
  refine jr_iload_n d_Ve_typeOfResult_146 rfl ?_
  refine jr_iconst ((nI (4))) d_Ve_typeOfResult_147 (by decide) ?_
  refine jr_idivN d_Ve_typeOfResult_148 (by omega) (by omega) (by omega) ?_
  refine jr_iload_n d_Ve_typeOfResult_149 rfl ?_
  refine jr_iconst ((nI (4))) d_Ve_typeOfResult_150 (by decide) ?_
  refine jr_iremN d_Ve_typeOfResult_151 (by omega) (by omega) (by omega) ?_
  refine jr_callV (As := [.int (nI ((n) / (4))), .int (nI ((n) % (4)))]) d_Ve_typeOfResult_152 k_Ve_typeOfResult_170 hW rfl rfl rfl (Nat.le_of_ble_eq_true rfl) (by decide) (by decide) (wo_found hl hw hok.1) ?_
  show jl_W l G m_Ve_typeOfResult (0, 0) 155 [some (.ref 9), some (.int (nI 14)), some (.int (nI n)), some (.int (en tp)), none] [va_rf (found tb pr mt (nI (n / 4)) (nI (n % 4)))] (σ) (.inl (some (.int (en (some r))))) (σ)
  refine jr_astoreO d_Ve_typeOfResult_155 (by decide) ?_
  show jl_W l G m_Ve_typeOfResult (0, 0) 157 [some (.ref 9), some (.int (nI 14)), some (.int (nI n)), some (.int (en tp)), some (va_rf (found tb pr mt (nI (n / 4)) (nI (n % 4))))] [] (σ) (.inl (some (.int (en (some r))))) (σ)
  refine jr_aloadO d_Ve_typeOfResult_157 rfl ?_
  cases c1 : found tb pr mt (nI (n / 4)) (nI (n % 4)) with
  | none =>
    show jl_W l G m_Ve_typeOfResult (0, 0) 159 [some (.ref 9), some (.int (nI 14)), some (.int (nI n)), some (.int (en tp)), some (.null)] [.null] (σ) (.inl (some (.int (en (some r))))) (σ)
    refine jr_ifnonnullN d_Ve_typeOfResult_159 ?_
    exact absurd ((hsg.n hn).1 c1) (by rw [hg]; simp)
  | some ac1 =>
    obtain ⟨q1, q2, rs, fs, hM, hsx, hq1, hq2, hrs, hqq⟩ := (hsg.n hn).2 _ c1
    rw [hg] at hsx; cases hsx
    show jl_W l G m_Ve_typeOfResult (0, 0) 159 [some (.ref 9), some (.int (nI 14)), some (.int (nI n)), some (.int (en tp)), some (.ref ac1)] [.ref ac1] (σ) (.inl (some (.int (en (some r))))) (σ)
    refine jr_ifnonnull 166 d_Ve_typeOfResult_159 (by decide) ?_
    refine jr_aload d_Ve_typeOfResult_166 rfl ?_
    refine jr_getf d_Ve_typeOfResult_168 f_Ve_typeOfResult_118 hM rfl ?_
    exact jr_iretE d_Ve_typeOfResult_171 rfl (rfl) (rfl) (by decide) (by decide)
theorem ve_tr_15 (hl : l.stackTraces = false) {tp : Option Nat} {n : Nat} (hc : CkAt σ) (hw : WoAt σ tb pr ow fi ft mt) (hok : WoOk tb pr ow fi) (hsg : SgC σ tb pr mt sg) (hV : VeAt σ wr wz) (hB : σ[10]? = some (.inl (0, 12, .inl fun j => en (bf j)))) (hn : n < 6) : jl_m l G m_Ve_typeOfResult [.ref 9, .int (nI 15), .int (nI n), .int (en tp)] σ (.inl (some (.int (en (some (10 + n)))))) (σ) := by
  obtain ⟨hW, h2, h3, h4, h5, h6, h7⟩ := id hw
  refine jl_of (as := [.ref 9, .int (nI 15), .int (nI n), .int (en tp)]) rfl (by decide) hl (jl_cc rfl (jl_cc rfl (jl_cc rfl (jl_cc rfl jl_ca)))) (Nat.le_of_ble_eq_true rfl) ?_
  show jl_W l G m_Ve_typeOfResult (0, 0) 0 [some (.ref 9), some (.int (nI 15)), some (.int (nI n)), some (.int (en tp)), none] [] (σ) (.inl (some (.int (en (some (10 + n)))))) (σ)
  refine jr_iload_n d_Ve_typeOfResult_0 rfl ?_
  refine jr_tableIn (off := 120) 121 d_Ve_typeOfResult_1 (by decide +kernel) (by decide +kernel) (by decide +kernel) (by decide) ?_
  refine jr_bipush ((nI (10))) d_Ve_typeOfResult_121 (by decide) ?_
  refine jr_iload_n d_Ve_typeOfResult_123 rfl ?_
  refine jr_iaddN d_Ve_typeOfResult_124 ?_
  exact jr_iretE d_Ve_typeOfResult_125 rfl (rfl) (rfl) (by decide) (by decide)
theorem ve_tr_16 (hl : l.stackTraces = false) {tp : Option Nat} {x : Int32} (hc : CkAt σ) (hw : WoAt σ tb pr ow fi ft mt) (hok : WoOk tb pr ow fi) (hsg : SgC σ tb pr mt sg) (hV : VeAt σ wr wz) (hB : σ[10]? = some (.inl (0, 12, .inl fun j => en (bf j))))  : jl_m l G m_Ve_typeOfResult [.ref 9, .int (nI 16), .int (x), .int (en tp)] σ (.inl (some (.int (en (some 0))))) (σ) := by
  obtain ⟨hW, h2, h3, h4, h5, h6, h7⟩ := id hw
  refine jl_of (as := [.ref 9, .int (nI 16), .int (x), .int (en tp)]) rfl (by decide) hl (jl_cc rfl (jl_cc rfl (jl_cc rfl (jl_cc rfl jl_ca)))) (Nat.le_of_ble_eq_true rfl) ?_
  show jl_W l G m_Ve_typeOfResult (0, 0) 0 [some (.ref 9), some (.int (nI 16)), some (.int (x)), some (.int (en tp)), none] [] (σ) (.inl (some (.int (en (some 0))))) (σ)
  refine jr_iload_n d_Ve_typeOfResult_0 rfl ?_
  refine jr_tableIn (off := 175) 176 d_Ve_typeOfResult_1 (by decide +kernel) (by decide +kernel) (by decide +kernel) (by decide) ?_
  refine jr_iconst ((nI (0))) d_Ve_typeOfResult_176 (by decide) ?_
  exact jr_iretE d_Ve_typeOfResult_177 rfl (rfl) (rfl) (by decide) (by decide)
theorem ve_tr_17 (hl : l.stackTraces = false) {tp : Option Nat} {x : Int32} (hc : CkAt σ) (hw : WoAt σ tb pr ow fi ft mt) (hok : WoOk tb pr ow fi) (hsg : SgC σ tb pr mt sg) (hV : VeAt σ wr wz) (hB : σ[10]? = some (.inl (0, 12, .inl fun j => en (bf j))))  : jl_m l G m_Ve_typeOfResult [.ref 9, .int (nI 17), .int (x), .int (en tp)] σ (.inl (some (.int (en (some 0))))) (σ) := by
  obtain ⟨hW, h2, h3, h4, h5, h6, h7⟩ := id hw
  refine jl_of (as := [.ref 9, .int (nI 17), .int (x), .int (en tp)]) rfl (by decide) hl (jl_cc rfl (jl_cc rfl (jl_cc rfl (jl_cc rfl jl_ca)))) (Nat.le_of_ble_eq_true rfl) ?_
  show jl_W l G m_Ve_typeOfResult (0, 0) 0 [some (.ref 9), some (.int (nI 17)), some (.int (x)), some (.int (en tp)), none] [] (σ) (.inl (some (.int (en (some 0))))) (σ)
  refine jr_iload_n d_Ve_typeOfResult_0 rfl ?_
  refine jr_tableIn (off := 175) 176 d_Ve_typeOfResult_1 (by decide +kernel) (by decide +kernel) (by decide +kernel) (by decide) ?_
  refine jr_iconst ((nI (0))) d_Ve_typeOfResult_176 (by decide) ?_
  exact jr_iretE d_Ve_typeOfResult_177 rfl (rfl) (rfl) (by decide) (by decide)
theorem ve_tr_18 (hl : l.stackTraces = false) {tp : Option Nat} {x : Int32} (hc : CkAt σ) (hw : WoAt σ tb pr ow fi ft mt) (hok : WoOk tb pr ow fi) (hsg : SgC σ tb pr mt sg) (hV : VeAt σ wr wz) (hB : σ[10]? = some (.inl (0, 12, .inl fun j => en (bf j))))  : jl_m l G m_Ve_typeOfResult [.ref 9, .int (nI 18), .int (x), .int (en tp)] σ (.inl (some (.int (en (some 0))))) (σ) := by
  obtain ⟨hW, h2, h3, h4, h5, h6, h7⟩ := id hw
  refine jl_of (as := [.ref 9, .int (nI 18), .int (x), .int (en tp)]) rfl (by decide) hl (jl_cc rfl (jl_cc rfl (jl_cc rfl (jl_cc rfl jl_ca)))) (Nat.le_of_ble_eq_true rfl) ?_
  show jl_W l G m_Ve_typeOfResult (0, 0) 0 [some (.ref 9), some (.int (nI 18)), some (.int (x)), some (.int (en tp)), none] [] (σ) (.inl (some (.int (en (some 0))))) (σ)
  refine jr_iload_n d_Ve_typeOfResult_0 rfl ?_
  refine jr_tableIn (off := 175) 176 d_Ve_typeOfResult_1 (by decide +kernel) (by decide +kernel) (by decide +kernel) (by decide) ?_
  refine jr_iconst ((nI (0))) d_Ve_typeOfResult_176 (by decide) ?_
  exact jr_iretE d_Ve_typeOfResult_177 rfl (rfl) (rfl) (by decide) (by decide)
theorem d_Ve_typeOfResult_172 : decode m_Ve_typeOfResult.2.1 172 = .ok (.iconst 1, 1) := by decide +kernel
theorem d_Ve_typeOfResult_173 : decode m_Ve_typeOfResult.2.1 173 = .ok (.ireturn, 1) := by decide +kernel
theorem ve_tr_19 (hl : l.stackTraces = false) {tp : Option Nat} {x : Int32} (hc : CkAt σ) (hw : WoAt σ tb pr ow fi ft mt) (hok : WoOk tb pr ow fi) (hsg : SgC σ tb pr mt sg) (hV : VeAt σ wr wz) (hB : σ[10]? = some (.inl (0, 12, .inl fun j => en (bf j))))  : jl_m l G m_Ve_typeOfResult [.ref 9, .int (nI 19), .int (x), .int (en tp)] σ (.inl (some (.int (en (some 1))))) (σ) := by
  obtain ⟨hW, h2, h3, h4, h5, h6, h7⟩ := id hw
  refine jl_of (as := [.ref 9, .int (nI 19), .int (x), .int (en tp)]) rfl (by decide) hl (jl_cc rfl (jl_cc rfl (jl_cc rfl (jl_cc rfl jl_ca)))) (Nat.le_of_ble_eq_true rfl) ?_
  show jl_W l G m_Ve_typeOfResult (0, 0) 0 [some (.ref 9), some (.int (nI 19)), some (.int (x)), some (.int (en tp)), none] [] (σ) (.inl (some (.int (en (some 1))))) (σ)
  refine jr_iload_n d_Ve_typeOfResult_0 rfl ?_
  refine jr_tableIn (off := 171) 172 d_Ve_typeOfResult_1 (by decide +kernel) (by decide +kernel) (by decide +kernel) (by decide) ?_
  refine jr_iconst ((nI (1))) d_Ve_typeOfResult_172 (by decide) ?_
  exact jr_iretE d_Ve_typeOfResult_173 rfl (rfl) (rfl) (by decide) (by decide)
theorem ve_tr_20 (hl : l.stackTraces = false) {tp : Option Nat} {x : Int32} (hc : CkAt σ) (hw : WoAt σ tb pr ow fi ft mt) (hok : WoOk tb pr ow fi) (hsg : SgC σ tb pr mt sg) (hV : VeAt σ wr wz) (hB : σ[10]? = some (.inl (0, 12, .inl fun j => en (bf j))))  : jl_m l G m_Ve_typeOfResult [.ref 9, .int (nI 20), .int (x), .int (en tp)] σ (.inl (some (.int (en (some 0))))) (σ) := by
  obtain ⟨hW, h2, h3, h4, h5, h6, h7⟩ := id hw
  refine jl_of (as := [.ref 9, .int (nI 20), .int (x), .int (en tp)]) rfl (by decide) hl (jl_cc rfl (jl_cc rfl (jl_cc rfl (jl_cc rfl jl_ca)))) (Nat.le_of_ble_eq_true rfl) ?_
  show jl_W l G m_Ve_typeOfResult (0, 0) 0 [some (.ref 9), some (.int (nI 20)), some (.int (x)), some (.int (en tp)), none] [] (σ) (.inl (some (.int (en (some 0))))) (σ)
  refine jr_iload_n d_Ve_typeOfResult_0 rfl ?_
  refine jr_tableIn (off := 175) 176 d_Ve_typeOfResult_1 (by decide +kernel) (by decide +kernel) (by decide +kernel) (by decide) ?_
  refine jr_iconst ((nI (0))) d_Ve_typeOfResult_176 (by decide) ?_
  exact jr_iretE d_Ve_typeOfResult_177 rfl (rfl) (rfl) (by decide) (by decide)
theorem ve_tr_21 (hl : l.stackTraces = false) {tp : Option Nat} {x : Int32} (hc : CkAt σ) (hw : WoAt σ tb pr ow fi ft mt) (hok : WoOk tb pr ow fi) (hsg : SgC σ tb pr mt sg) (hV : VeAt σ wr wz) (hB : σ[10]? = some (.inl (0, 12, .inl fun j => en (bf j))))  : jl_m l G m_Ve_typeOfResult [.ref 9, .int (nI 21), .int (x), .int (en tp)] σ (.inl (some (.int (en (some 0))))) (σ) := by
  obtain ⟨hW, h2, h3, h4, h5, h6, h7⟩ := id hw
  refine jl_of (as := [.ref 9, .int (nI 21), .int (x), .int (en tp)]) rfl (by decide) hl (jl_cc rfl (jl_cc rfl (jl_cc rfl (jl_cc rfl jl_ca)))) (Nat.le_of_ble_eq_true rfl) ?_
  show jl_W l G m_Ve_typeOfResult (0, 0) 0 [some (.ref 9), some (.int (nI 21)), some (.int (x)), some (.int (en tp)), none] [] (σ) (.inl (some (.int (en (some 0))))) (σ)
  refine jr_iload_n d_Ve_typeOfResult_0 rfl ?_
  refine jr_tableIn (off := 175) 176 d_Ve_typeOfResult_1 (by decide +kernel) (by decide +kernel) (by decide +kernel) (by decide) ?_
  refine jr_iconst ((nI (0))) d_Ve_typeOfResult_176 (by decide) ?_
  exact jr_iretE d_Ve_typeOfResult_177 rfl (rfl) (rfl) (by decide) (by decide)
theorem ve_tr_22 (hl : l.stackTraces = false) {tp : Option Nat} {x : Int32} (hc : CkAt σ) (hw : WoAt σ tb pr ow fi ft mt) (hok : WoOk tb pr ow fi) (hsg : SgC σ tb pr mt sg) (hV : VeAt σ wr wz) (hB : σ[10]? = some (.inl (0, 12, .inl fun j => en (bf j))))  : jl_m l G m_Ve_typeOfResult [.ref 9, .int (nI 22), .int (x), .int (en tp)] σ (.inl (some (.int (en (some 0))))) (σ) := by
  obtain ⟨hW, h2, h3, h4, h5, h6, h7⟩ := id hw
  refine jl_of (as := [.ref 9, .int (nI 22), .int (x), .int (en tp)]) rfl (by decide) hl (jl_cc rfl (jl_cc rfl (jl_cc rfl (jl_cc rfl jl_ca)))) (Nat.le_of_ble_eq_true rfl) ?_
  show jl_W l G m_Ve_typeOfResult (0, 0) 0 [some (.ref 9), some (.int (nI 22)), some (.int (x)), some (.int (en tp)), none] [] (σ) (.inl (some (.int (en (some 0))))) (σ)
  refine jr_iload_n d_Ve_typeOfResult_0 rfl ?_
  refine jr_tableIn (off := 175) 176 d_Ve_typeOfResult_1 (by decide +kernel) (by decide +kernel) (by decide +kernel) (by decide) ?_
  refine jr_iconst ((nI (0))) d_Ve_typeOfResult_176 (by decide) ?_
  exact jr_iretE d_Ve_typeOfResult_177 rfl (rfl) (rfl) (by decide) (by decide)
theorem ve_tr_23 (hl : l.stackTraces = false) {tp : Option Nat} {x : Int32} (hc : CkAt σ) (hw : WoAt σ tb pr ow fi ft mt) (hok : WoOk tb pr ow fi) (hsg : SgC σ tb pr mt sg) (hV : VeAt σ wr wz) (hB : σ[10]? = some (.inl (0, 12, .inl fun j => en (bf j))))  : jl_m l G m_Ve_typeOfResult [.ref 9, .int (nI 23), .int (x), .int (en tp)] σ (.inl (some (.int (en (some 0))))) (σ) := by
  obtain ⟨hW, h2, h3, h4, h5, h6, h7⟩ := id hw
  refine jl_of (as := [.ref 9, .int (nI 23), .int (x), .int (en tp)]) rfl (by decide) hl (jl_cc rfl (jl_cc rfl (jl_cc rfl (jl_cc rfl jl_ca)))) (Nat.le_of_ble_eq_true rfl) ?_
  show jl_W l G m_Ve_typeOfResult (0, 0) 0 [some (.ref 9), some (.int (nI 23)), some (.int (x)), some (.int (en tp)), none] [] (σ) (.inl (some (.int (en (some 0))))) (σ)
  refine jr_iload_n d_Ve_typeOfResult_0 rfl ?_
  refine jr_tableIn (off := 175) 176 d_Ve_typeOfResult_1 (by decide +kernel) (by decide +kernel) (by decide +kernel) (by decide) ?_
  refine jr_iconst ((nI (0))) d_Ve_typeOfResult_176 (by decide) ?_
  exact jr_iretE d_Ve_typeOfResult_177 rfl (rfl) (rfl) (by decide) (by decide)
theorem d_Ve_typeOfResult_174 : decode m_Ve_typeOfResult.2.1 174 = .ok (.iload_n 3, 1) := by decide +kernel
theorem d_Ve_typeOfResult_175 : decode m_Ve_typeOfResult.2.1 175 = .ok (.ireturn, 1) := by decide +kernel
theorem ve_tr_24 (hl : l.stackTraces = false) {tp : Option Nat} {x : Int32} (hc : CkAt σ) (hw : WoAt σ tb pr ow fi ft mt) (hok : WoOk tb pr ow fi) (hsg : SgC σ tb pr mt sg) (hV : VeAt σ wr wz) (hB : σ[10]? = some (.inl (0, 12, .inl fun j => en (bf j))))  : jl_m l G m_Ve_typeOfResult [.ref 9, .int (nI 24), .int (x), .int (en tp)] σ (.inl (some (.int (en (tp))))) (σ) := by
  obtain ⟨hW, h2, h3, h4, h5, h6, h7⟩ := id hw
  refine jl_of (as := [.ref 9, .int (nI 24), .int (x), .int (en tp)]) rfl (by decide) hl (jl_cc rfl (jl_cc rfl (jl_cc rfl (jl_cc rfl jl_ca)))) (Nat.le_of_ble_eq_true rfl) ?_
  show jl_W l G m_Ve_typeOfResult (0, 0) 0 [some (.ref 9), some (.int (nI 24)), some (.int (x)), some (.int (en tp)), none] [] (σ) (.inl (some (.int (en (tp))))) (σ)
  refine jr_iload_n d_Ve_typeOfResult_0 rfl ?_
  refine jr_tableIn (off := 173) 174 d_Ve_typeOfResult_1 (by decide +kernel) (by decide +kernel) (by decide +kernel) (by decide) ?_
  refine jr_iload_n d_Ve_typeOfResult_174 rfl ?_
  exact jr_iretE d_Ve_typeOfResult_175 rfl (rfl) (rfl) (by decide) (by decide)
theorem ve_tr_25 (hl : l.stackTraces = false) {tp : Option Nat} {x : Int32} (hc : CkAt σ) (hw : WoAt σ tb pr ow fi ft mt) (hok : WoOk tb pr ow fi) (hsg : SgC σ tb pr mt sg) (hV : VeAt σ wr wz) (hB : σ[10]? = some (.inl (0, 12, .inl fun j => en (bf j))))  : jl_m l G m_Ve_typeOfResult [.ref 9, .int (nI 25), .int (x), .int (en tp)] σ (.inl (some (.int (en (some 0))))) (σ) := by
  obtain ⟨hW, h2, h3, h4, h5, h6, h7⟩ := id hw
  refine jl_of (as := [.ref 9, .int (nI 25), .int (x), .int (en tp)]) rfl (by decide) hl (jl_cc rfl (jl_cc rfl (jl_cc rfl (jl_cc rfl jl_ca)))) (Nat.le_of_ble_eq_true rfl) ?_
  show jl_W l G m_Ve_typeOfResult (0, 0) 0 [some (.ref 9), some (.int (nI 25)), some (.int (x)), some (.int (en tp)), none] [] (σ) (.inl (some (.int (en (some 0))))) (σ)
  refine jr_iload_n d_Ve_typeOfResult_0 rfl ?_
  refine jr_tableOut 176 d_Ve_typeOfResult_1 (by decide +kernel) (by decide) ?_
  refine jr_iconst ((nI (0))) d_Ve_typeOfResult_176 (by decide) ?_
  exact jr_iretE d_Ve_typeOfResult_177 rfl (rfl) (rfl) (by decide) (by decide)
theorem ve_tr (hl : l.stackTraces = false) {o : Nat} {x : Int32} {tp : Option Nat} (hc : CkAt σ) (hw : WoAt σ tb pr ow fi ft mt) (hok : WoOk tb pr ow fi) (hsg : SgC σ tb pr mt sg) (hV : VeAt σ wr wz) (hB : σ[10]? = some (.inl (0, 12, .inl fun j => en (bf j)))) (ho : o < 26) (hf5 : f5o tb ow fi sg o x = false) : jl_m l G m_Ve_typeOfResult [.ref 9, .int (nI o), .int x, .int (en tp)] σ (.inl (some (.int (en (tres pr fi ft sg bf o x tp))))) σ := by
  have hq : o = 0 ∨ o = 1 ∨ o = 2 ∨ o = 3 ∨ o = 4 ∨ o = 5 ∨ o = 6 ∨ o = 7 ∨ o = 8 ∨ o = 9 ∨ o = 10 ∨ o = 11 ∨ o = 12 ∨ o = 13 ∨ o = 14 ∨ o = 15 ∨ o = 16 ∨ o = 17 ∨ o = 18 ∨ o = 19 ∨ o = 20 ∨ o = 21 ∨ o = 22 ∨ o = 23 ∨ o = 24 ∨ o = 25 := by omega
  rcases hq with rfl | rfl | rfl | rfl | rfl | rfl | rfl | rfl | rfl | rfl | rfl | rfl | rfl | rfl | rfl | rfl | rfl | rfl | rfl | rfl | rfl | rfl | rfl | rfl | rfl | rfl
  · exact ve_tr_0 hl hc hw hok hsg hV hB
  · obtain ⟨n, hn, hx⟩ := lt6_of (x := x) (by simpa [f5o] using hf5)
    subst hx
    exact jl_meq (by simp only [tres]; rw [nI_clamp (by omega)]) (ve_tr_1 hl hc hw hok hsg hV hB hn)
  · exact ve_tr_2 hl hc hw hok hsg hV hB
  · exact ve_tr_3 hl hc hw hok hsg hV hB
  · exact ve_tr_4 hl hc hw hok hsg hV hB
  · exact ve_tr_5 hl hc hw hok hsg hV hB
  · exact ve_tr_6 hl hc hw hok hsg hV hB
  · exact ve_tr_7 hl hc hw hok hsg hV hB
  · exact ve_tr_8 hl hc hw hok hsg hV hB
  · exact ve_tr_9 hl hc hw hok hsg hV hB
  · exact ve_tr_10 hl hc hw hok hsg hV hB
  · obtain ⟨n, hn, hx, -⟩ := hasI_of (tb := tb) (k := x) (by simpa [f5o] using hf5)
    subst hx
    exact jl_meq (by simp only [tres]; rw [nI_clamp (by omega)]) (ve_tr_11 hl hc hw hok hsg hV hB hn)
  · obtain ⟨n, hn, hx, hk, hf, -⟩ := hasF_of (tb := tb) (ow := ow) (fi := fi) (x := x) (by simpa [f5o] using hf5)
    subst hx
    exact jl_meq (by simp only [tres, xq, xr]; rw [nI_clamp hn]) (ve_tr_12 hl hc hw hok hsg hV hB hn hk hf)
  · exact ve_tr_13 hl hc hw hok hsg hV hB
  · cases hg : sg x with
    | none => simp [f5o, hg] at hf5
    | some g =>
      obtain ⟨n, hn, hx, -⟩ := hsg.of hg
      subst hx
      exact jl_meq (by simp only [tres, hg]) (ve_tr_14 hl hc hw hok hsg hV hB hn hg)
  · obtain ⟨n, hn, hx, -⟩ := hasI_of (tb := tb) (k := x) (by simpa [f5o] using hf5)
    subst hx
    exact jl_meq (by simp only [tres]; rw [nI_clamp (by omega)]) (ve_tr_15 hl hc hw hok hsg hV hB hn)
  · exact ve_tr_16 hl hc hw hok hsg hV hB
  · exact ve_tr_17 hl hc hw hok hsg hV hB
  · exact ve_tr_18 hl hc hw hok hsg hV hB
  · exact ve_tr_19 hl hc hw hok hsg hV hB
  · exact ve_tr_20 hl hc hw hok hsg hV hB
  · exact ve_tr_21 hl hc hw hok hsg hV hB
  · exact ve_tr_22 hl hc hw hok hsg hV hB
  · exact ve_tr_23 hl hc hw hok hsg hV hB
  · exact ve_tr_24 hl hc hw hok hsg hV hB
  · exact ve_tr_25 hl hc hw hok hsg hV hB
theorem d_Ve_act_0 : decode m_Ve_act.2.1 0 = .ok (.aload_n 0, 1) := by decide +kernel
theorem f_Ve_act_9 : jl_fd m_Ve_act 9 4 2 = true := by decide +kernel
theorem d_Ve_act_1 : decode m_Ve_act.2.1 1 = .ok (.getfield 9, 3) := by decide +kernel
theorem d_Ve_act_4 : decode m_Ve_act.2.1 4 = .ok (.bipush 6, 2) := by decide +kernel
theorem d_Ve_act_6 : decode m_Ve_act.2.1 6 = .ok (.iaload, 1) := by decide +kernel
theorem d_Ve_act_7 : decode m_Ve_act.2.1 7 = .ok (.ifCond .ne 7, 3) := by decide +kernel
theorem d_Ve_act_14 : decode m_Ve_act.2.1 14 = .ok (.aload_n 0, 1) := by decide +kernel
theorem d_Ve_act_15 : decode m_Ve_act.2.1 15 = .ok (.getfield 9, 3) := by decide +kernel
theorem d_Ve_act_18 : decode m_Ve_act.2.1 18 = .ok (.bipush 7, 2) := by decide +kernel
theorem d_Ve_act_20 : decode m_Ve_act.2.1 20 = .ok (.aload_n 0, 1) := by decide +kernel
theorem d_Ve_act_21 : decode m_Ve_act.2.1 21 = .ok (.getfield 9, 3) := by decide +kernel
theorem d_Ve_act_24 : decode m_Ve_act.2.1 24 = .ok (.bipush 6, 2) := by decide +kernel
theorem d_Ve_act_26 : decode m_Ve_act.2.1 26 = .ok (.iaload, 1) := by decide +kernel
theorem d_Ve_act_27 : decode m_Ve_act.2.1 27 = .ok (.iadd, 1) := by decide +kernel
theorem d_Ve_act_28 : decode m_Ve_act.2.1 28 = .ok (.iconst 1, 1) := by decide +kernel
theorem d_Ve_act_29 : decode m_Ve_act.2.1 29 = .ok (.isub, 1) := by decide +kernel
theorem d_Ve_act_30 : decode m_Ve_act.2.1 30 = .ok (.iaload, 1) := by decide +kernel
theorem d_Ve_act_31 : decode m_Ve_act.2.1 31 = .ok (.istore_n 3, 1) := by decide +kernel
theorem d_Ve_act_32 : decode m_Ve_act.2.1 32 = .ok (.aload_n 0, 1) := by decide +kernel
theorem d_Ve_act_33 : decode m_Ve_act.2.1 33 = .ok (.aload_n 0, 1) := by decide +kernel
theorem f_Ve_act_32 : jl_fd m_Ve_act 32 4 1 = true := by decide +kernel
theorem d_Ve_act_34 : decode m_Ve_act.2.1 34 = .ok (.getfield 32, 3) := by decide +kernel
theorem d_Ve_act_37 : decode m_Ve_act.2.1 37 = .ok (.iload_n 1, 1) := by decide +kernel
theorem d_Ve_act_38 : decode m_Ve_act.2.1 38 = .ok (.iload_n 2, 1) := by decide +kernel
theorem k_Ve_act_160 : jl_cv m_Ve_act m_Ck_takes 160 2 = true := by decide +kernel
theorem d_Ve_act_39 : decode m_Ve_act.2.1 39 = .ok (.invokevirtual 160, 3) := by decide +kernel
theorem k_Ve_act_131 : jl_cv m_Ve_act m_Ve_lower 131 1 = true := by decide +kernel
theorem d_Ve_act_42 : decode m_Ve_act.2.1 42 = .ok (.invokevirtual 131, 3) := by decide +kernel
theorem d_Ve_act_45 : decode m_Ve_act.2.1 45 = .ok (.iload_n 1, 1) := by decide +kernel
theorem d_Ve_act_46 : decode m_Ve_act.2.1 46 = .ok (.iconst 2, 1) := by decide +kernel
theorem d_Ve_act_47 : decode m_Ve_act.2.1 47 = .ok (.if_icmp .ne 10, 3) := by decide +kernel
theorem d_Ve_act_57 : decode m_Ve_act.2.1 57 = .ok (.iconst 0, 1) := by decide +kernel
theorem d_Ve_act_58 : decode m_Ve_act.2.1 58 = .ok (.istore 4, 2) := by decide +kernel
theorem d_Ve_act_60 : decode m_Ve_act.2.1 60 = .ok (.iload 4, 2) := by decide +kernel
theorem d_Ve_act_62 : decode m_Ve_act.2.1 62 = .ok (.getstatic 163, 3) := by decide +kernel
theorem d_Ve_act_65 : decode m_Ve_act.2.1 65 = .ok (.iload_n 1, 1) := by decide +kernel
theorem d_Ve_act_66 : decode m_Ve_act.2.1 66 = .ok (.iaload, 1) := by decide +kernel
theorem d_Ve_act_67 : decode m_Ve_act.2.1 67 = .ok (.if_icmp .ge 20, 3) := by decide +kernel
theorem d_Ve_act_87 : decode m_Ve_act.2.1 87 = .ok (.return_, 1) := by decide +kernel
theorem d_Ve_act_50 : decode m_Ve_act.2.1 50 = .ok (.aload_n 0, 1) := by decide +kernel
theorem f_Ve_act_15 : jl_fd m_Ve_act 15 4 3 = true := by decide +kernel
theorem d_Ve_act_51 : decode m_Ve_act.2.1 51 = .ok (.getfield 15, 3) := by decide +kernel
theorem d_Ve_act_54 : decode m_Ve_act.2.1 54 = .ok (.iload_n 2, 1) := by decide +kernel
theorem d_Ve_act_55 : decode m_Ve_act.2.1 55 = .ok (.iload_n 3, 1) := by decide +kernel
theorem d_Ve_act_56 : decode m_Ve_act.2.1 56 = .ok (.iastore, 1) := by decide +kernel
theorem d_Ve_act_10 : decode m_Ve_act.2.1 10 = .ok (.iconst (-1), 1) := by decide +kernel
theorem d_Ve_act_11 : decode m_Ve_act.2.1 11 = .ok (.goto 20, 3) := by decide +kernel
theorem ve_act_0 (hl : l.stackTraces = false) {o h : Nat} {x : Int32} (hc : CkAt σ) (hw : WoAt σ tb pr ow fi ft mt) (hok : WoOk tb pr ow fi) (hsg : SgC σ tb pr mt sg) (hmt : MtOk mt) (hV : VeAt σ wr wz) (hB : σ[10]? = some (.inl (0, 12, .inl fun j => en (bf j)))) (hG : σ[11]? = some (.inl (0, 12, .inl fun j => en (gv j)))) (ho : o < 26) (hf5 : f5o tb ow fi sg o x = false) (hb6 : bf 6 = some h) (hg6 : gv 6 = some h) (hh5 : h ≤ 5) (hf1 : tks sg o x ≤ h ∧ h - tks sg o x + pts o ≤ 5) (hp : pts o = 0) : jl_m l G m_Ve_act [.ref 9, .int (nI o), .int (x)] σ (.inl none) (σ.set 11 (.inl (0, 12, .inl fun j => en ((actR pr fi ft sg bf o x gv h) j)))) := by
  obtain ⟨hW, h2, h3, h4, h5, h6, h7⟩ := id hw
  refine jl_of (as := [.ref 9, .int (nI o), .int (x)]) rfl (by decide) hl (jl_cc rfl (jl_cc rfl (jl_cc rfl jl_ca))) (Nat.le_of_ble_eq_true rfl) ?_
  show jl_W l G m_Ve_act (0, 0) 0 [some (.ref 9), some (.int (nI o)), some (.int (x)), none, none] [] (σ) (.inl none) (σ.set 11 (.inl (0, 12, .inl fun j => en ((actR pr fi ft sg bf o x gv h) j))))
  refine jr_aload_n d_Ve_act_0 rfl ?_
  refine jr_getf d_Ve_act_1 f_Ve_act_9 hV rfl ?_
  refine jr_bipush ((nI (6))) d_Ve_act_4 (by decide) ?_
  refine jr_ialdQ (v := (nI (h))) d_Ve_act_6 hB (by omega) (by omega) (congrArg en hb6) ?_
  refine jr_if_neN 14 d_Ve_act_7 (by decide) (by omega) (fun c1 => ?_) (fun c1 => ?_)
  · refine jr_aload_n d_Ve_act_14 rfl ?_
    refine jr_getf d_Ve_act_15 f_Ve_act_9 hV rfl ?_
    refine jr_bipush ((nI (7))) d_Ve_act_18 (by decide) ?_
    refine jr_aload_n d_Ve_act_20 rfl ?_
    refine jr_getf d_Ve_act_21 f_Ve_act_9 hV rfl ?_
    refine jr_bipush ((nI (6))) d_Ve_act_24 (by decide) ?_
    refine jr_ialdQ (v := (nI (h))) d_Ve_act_26 hB (by omega) (by omega) (congrArg en hb6) ?_
    refine jr_iaddN d_Ve_act_27 ?_
    refine jr_iconst ((nI (1))) d_Ve_act_28 (by decide) ?_
    refine jr_isubN d_Ve_act_29 (by omega) ?_
    refine jr_ialdQ (v := (en (topO bf h))) d_Ve_act_30 hB (by omega) (by omega) (congrArg en (show bf (((7) + (h)) - (1)) = topO bf h by unfold topO; rw [if_neg (by omega)]; congr 1; omega)) ?_
    refine jr_istore_n d_Ve_act_31 (by decide) ?_
    show jl_W l G m_Ve_act (0, 0) 32 [some (.ref 9), some (.int (nI o)), some (.int (x)), some (.int (en (topO bf h))), none] [] (σ) (.inl none) (σ.set 11 (.inl (0, 12, .inl fun j => en ((actR pr fi ft sg bf o x gv h) j))))
    refine jr_aload_n d_Ve_act_32 rfl ?_
    refine jr_aload_n d_Ve_act_33 rfl ?_
    refine jr_getf d_Ve_act_34 f_Ve_act_32 hV rfl ?_
    refine jr_iload_n d_Ve_act_37 rfl ?_
    refine jr_iload_n d_Ve_act_38 rfl ?_
    refine jr_callV (As := [.int (nI o), .int (x)]) d_Ve_act_39 k_Ve_act_160 hc rfl rfl rfl (Nat.le_of_ble_eq_true rfl) (by decide) (by decide) (ck_takes hl hc hw hok hsg ho) ?_
    show jl_W l G m_Ve_act (0, 0) 42 [some (.ref 9), some (.int (nI o)), some (.int (x)), some (.int (en (topO bf h))), none] [.int (nI (tks sg o x)), .ref 9] (σ) (.inl none) (σ.set 11 (.inl (0, 12, .inl fun j => en ((actR pr fi ft sg bf o x gv h) j))))
    refine jr_callV (As := [.int (nI (tks sg o x))]) d_Ve_act_42 k_Ve_act_131 hV rfl rfl rfl (Nat.le_of_ble_eq_true rfl) (by decide) (by decide) (ve_lower hl hV hG hg6 hf1.1 hh5) ?_
    show jl_W l G m_Ve_act (0, 0) 45 [some (.ref 9), some (.int (nI o)), some (.int (x)), some (.int (en (topO bf h))), none] [] (σ.set (11) (.inl (0, 12, .inl (fun j => en ((low gv h (tks sg o x)) j))))) (.inl none) (σ.set 11 (.inl (0, 12, .inl fun j => en ((actR pr fi ft sg bf o x gv h) j))))
    refine jr_iload_n d_Ve_act_45 rfl ?_
    refine jr_iconst ((nI (2))) d_Ve_act_46 (by decide) ?_
    refine jr_icmp_neN 57 d_Ve_act_47 (by decide) (by omega) (by omega) (fun c2 => ?_) (fun c2 => ?_)
    · refine jr_iconst ((nI (0))) d_Ve_act_57 (by decide) ?_
      refine jr_istore d_Ve_act_58 (by decide) ?_
      show jl_W l G m_Ve_act (0, 0) 60 [some (.ref 9), some (.int (nI o)), some (.int (x)), some (.int (en (topO bf h))), some (.int (nI 0))] [] (σ.set (11) (.inl (0, 12, .inl (fun j => en ((low gv h (tks sg o x)) j))))) (.inl none) (σ.set 11 (.inl (0, 12, .inl fun j => en ((actR pr fi ft sg bf o x gv h) j))))
      refine jr_iload d_Ve_act_60 rfl ?_
      refine jr_gets (ci := 0) (G.2.2.2.2.1) d_Ve_act_62 rfl (List.mem_cons_of_mem _ (List.mem_cons_of_mem _ List.mem_cons_self)) ?_
      refine jr_iload_n d_Ve_act_65 rfl ?_
      refine jr_ptldQ (v := 0) d_Ve_act_66 (by omega) (hp) ?_
      refine jr_icmp_ge 87 d_Ve_act_67 (by decide) (fun _ => ?_) (fun z => absurd (by decide) z)
      exact jr_vretE d_Ve_act_87 rfl (rfl) (by rw [actR_0 hp (by omega)]) (by decide) (by decide)
    · have ho2 : o = 2 := by omega
      subst ho2
      obtain ⟨n, hn, hx⟩ := lt6_of (x := x) (by simpa [f5o] using hf5)
      subst hx
      show jl_W l G m_Ve_act (0, 0) 50 [some (.ref 9), some (.int (nI 2)), some (.int (nI n)), some (.int (en (topO bf h))), none] [] (σ.set (11) (.inl (0, 12, .inl (fun j => en ((low gv h (tks sg 2 (nI n))) j))))) (.inl none) (σ.set 11 (.inl (0, 12, .inl fun j => en ((actR pr fi ft sg bf 2 (nI n) gv h) j))))
      refine jr_aload_n d_Ve_act_50 rfl ?_
      refine jr_getf d_Ve_act_51 f_Ve_act_15 (jl_sn (by decide) hV) rfl ?_
      refine jr_iload_n d_Ve_act_54 rfl ?_
      refine jr_iload_n d_Ve_act_55 rfl ?_
      refine jr_iastN d_Ve_act_56 (jl_ss hG) (by omega) (by omega) ?_
      rw [show upd (fun j => en ((low gv h (tks sg 2 (nI n))) j)) (n) ((en (topO bf h))) = (fun j => en ((va_up (low gv h (tks sg 2 (nI n))) (n) ((topO bf h))) j)) from en_up (low gv h (tks sg 2 (nI n))) (n) ((topO bf h))]
      show jl_W l G m_Ve_act (0, 0) 57 [some (.ref 9), some (.int (nI 2)), some (.int (nI n)), some (.int (en (topO bf h))), none] [] ((σ.set (11) (.inl (0, 12, .inl (fun j => en ((low gv h (tks sg 2 (nI n))) j))))).set (11) (.inl (0, 12, .inl (fun j => en ((va_up (low gv h (tks sg 2 (nI n))) (n) ((topO bf h))) j))))) (.inl none) (σ.set 11 (.inl (0, 12, .inl fun j => en ((actR pr fi ft sg bf 2 (nI n) gv h) j))))
      refine jr_iconst ((nI (0))) d_Ve_act_57 (by decide) ?_
      refine jr_istore d_Ve_act_58 (by decide) ?_
      show jl_W l G m_Ve_act (0, 0) 60 [some (.ref 9), some (.int (nI 2)), some (.int (nI n)), some (.int (en (topO bf h))), some (.int (nI 0))] [] ((σ.set (11) (.inl (0, 12, .inl (fun j => en ((low gv h (tks sg 2 (nI n))) j))))).set (11) (.inl (0, 12, .inl (fun j => en ((va_up (low gv h (tks sg 2 (nI n))) (n) ((topO bf h))) j))))) (.inl none) (σ.set 11 (.inl (0, 12, .inl fun j => en ((actR pr fi ft sg bf 2 (nI n) gv h) j))))
      refine jr_iload d_Ve_act_60 rfl ?_
      refine jr_gets (ci := 0) (G.2.2.2.2.1) d_Ve_act_62 rfl (List.mem_cons_of_mem _ (List.mem_cons_of_mem _ List.mem_cons_self)) ?_
      refine jr_iload_n d_Ve_act_65 rfl ?_
      refine jr_ptldQ (v := 0) d_Ve_act_66 (by omega) (hp) ?_
      refine jr_icmp_ge 87 d_Ve_act_67 (by decide) (fun _ => ?_) (fun z => absurd (by decide) z)
      exact jr_vretE d_Ve_act_87 rfl (rfl) (by rw [List.set_set, actR_2 (by omega)]) (by decide) (by decide)
  · refine jr_iconst ((-1)) d_Ve_act_10 (by decide) ?_
    refine jr_goto 31 d_Ve_act_11 (by decide) ?_
    refine jr_istore_n d_Ve_act_31 (by decide) ?_
    show jl_W l G m_Ve_act (0, 0) 32 [some (.ref 9), some (.int (nI o)), some (.int (x)), some (.int (-1)), none] [] (σ) (.inl none) (σ.set 11 (.inl (0, 12, .inl fun j => en ((actR pr fi ft sg bf o x gv h) j))))
    have htp : topO bf h = none := by unfold topO; rw [if_pos (by omega)]
    rw [show (-1 : Int32) = en (topO bf h) by rw [htp]; rfl]
    show jl_W l G m_Ve_act (0, 0) 32 [some (.ref 9), some (.int (nI o)), some (.int (x)), some (.int (en (topO bf h))), none] [] (σ) (.inl none) (σ.set 11 (.inl (0, 12, .inl fun j => en ((actR pr fi ft sg bf o x gv h) j))))
    refine jr_aload_n d_Ve_act_32 rfl ?_
    refine jr_aload_n d_Ve_act_33 rfl ?_
    refine jr_getf d_Ve_act_34 f_Ve_act_32 hV rfl ?_
    refine jr_iload_n d_Ve_act_37 rfl ?_
    refine jr_iload_n d_Ve_act_38 rfl ?_
    refine jr_callV (As := [.int (nI o), .int (x)]) d_Ve_act_39 k_Ve_act_160 hc rfl rfl rfl (Nat.le_of_ble_eq_true rfl) (by decide) (by decide) (ck_takes hl hc hw hok hsg ho) ?_
    show jl_W l G m_Ve_act (0, 0) 42 [some (.ref 9), some (.int (nI o)), some (.int (x)), some (.int (en (topO bf h))), none] [.int (nI (tks sg o x)), .ref 9] (σ) (.inl none) (σ.set 11 (.inl (0, 12, .inl fun j => en ((actR pr fi ft sg bf o x gv h) j))))
    refine jr_callV (As := [.int (nI (tks sg o x))]) d_Ve_act_42 k_Ve_act_131 hV rfl rfl rfl (Nat.le_of_ble_eq_true rfl) (by decide) (by decide) (ve_lower hl hV hG hg6 hf1.1 hh5) ?_
    show jl_W l G m_Ve_act (0, 0) 45 [some (.ref 9), some (.int (nI o)), some (.int (x)), some (.int (en (topO bf h))), none] [] (σ.set (11) (.inl (0, 12, .inl (fun j => en ((low gv h (tks sg o x)) j))))) (.inl none) (σ.set 11 (.inl (0, 12, .inl fun j => en ((actR pr fi ft sg bf o x gv h) j))))
    refine jr_iload_n d_Ve_act_45 rfl ?_
    refine jr_iconst ((nI (2))) d_Ve_act_46 (by decide) ?_
    refine jr_icmp_neN 57 d_Ve_act_47 (by decide) (by omega) (by omega) (fun c3 => ?_) (fun c3 => ?_)
    · refine jr_iconst ((nI (0))) d_Ve_act_57 (by decide) ?_
      refine jr_istore d_Ve_act_58 (by decide) ?_
      show jl_W l G m_Ve_act (0, 0) 60 [some (.ref 9), some (.int (nI o)), some (.int (x)), some (.int (en (topO bf h))), some (.int (nI 0))] [] (σ.set (11) (.inl (0, 12, .inl (fun j => en ((low gv h (tks sg o x)) j))))) (.inl none) (σ.set 11 (.inl (0, 12, .inl fun j => en ((actR pr fi ft sg bf o x gv h) j))))
      refine jr_iload d_Ve_act_60 rfl ?_
      refine jr_gets (ci := 0) (G.2.2.2.2.1) d_Ve_act_62 rfl (List.mem_cons_of_mem _ (List.mem_cons_of_mem _ List.mem_cons_self)) ?_
      refine jr_iload_n d_Ve_act_65 rfl ?_
      refine jr_ptldQ (v := 0) d_Ve_act_66 (by omega) (hp) ?_
      refine jr_icmp_ge 87 d_Ve_act_67 (by decide) (fun _ => ?_) (fun z => absurd (by decide) z)
      exact jr_vretE d_Ve_act_87 rfl (rfl) (by rw [actR_0 hp (by omega)]) (by decide) (by decide)
    · have ho2 : o = 2 := by omega
      subst ho2
      obtain ⟨n, hn, hx⟩ := lt6_of (x := x) (by simpa [f5o] using hf5)
      subst hx
      show jl_W l G m_Ve_act (0, 0) 50 [some (.ref 9), some (.int (nI 2)), some (.int (nI n)), some (.int (en (topO bf h))), none] [] (σ.set (11) (.inl (0, 12, .inl (fun j => en ((low gv h (tks sg 2 (nI n))) j))))) (.inl none) (σ.set 11 (.inl (0, 12, .inl fun j => en ((actR pr fi ft sg bf 2 (nI n) gv h) j))))
      refine jr_aload_n d_Ve_act_50 rfl ?_
      refine jr_getf d_Ve_act_51 f_Ve_act_15 (jl_sn (by decide) hV) rfl ?_
      refine jr_iload_n d_Ve_act_54 rfl ?_
      refine jr_iload_n d_Ve_act_55 rfl ?_
      refine jr_iastN d_Ve_act_56 (jl_ss hG) (by omega) (by omega) ?_
      rw [show upd (fun j => en ((low gv h (tks sg 2 (nI n))) j)) (n) ((en (topO bf h))) = (fun j => en ((va_up (low gv h (tks sg 2 (nI n))) (n) ((topO bf h))) j)) from en_up (low gv h (tks sg 2 (nI n))) (n) ((topO bf h))]
      show jl_W l G m_Ve_act (0, 0) 57 [some (.ref 9), some (.int (nI 2)), some (.int (nI n)), some (.int (en (topO bf h))), none] [] ((σ.set (11) (.inl (0, 12, .inl (fun j => en ((low gv h (tks sg 2 (nI n))) j))))).set (11) (.inl (0, 12, .inl (fun j => en ((va_up (low gv h (tks sg 2 (nI n))) (n) ((topO bf h))) j))))) (.inl none) (σ.set 11 (.inl (0, 12, .inl fun j => en ((actR pr fi ft sg bf 2 (nI n) gv h) j))))
      refine jr_iconst ((nI (0))) d_Ve_act_57 (by decide) ?_
      refine jr_istore d_Ve_act_58 (by decide) ?_
      show jl_W l G m_Ve_act (0, 0) 60 [some (.ref 9), some (.int (nI 2)), some (.int (nI n)), some (.int (en (topO bf h))), some (.int (nI 0))] [] ((σ.set (11) (.inl (0, 12, .inl (fun j => en ((low gv h (tks sg 2 (nI n))) j))))).set (11) (.inl (0, 12, .inl (fun j => en ((va_up (low gv h (tks sg 2 (nI n))) (n) ((topO bf h))) j))))) (.inl none) (σ.set 11 (.inl (0, 12, .inl fun j => en ((actR pr fi ft sg bf 2 (nI n) gv h) j))))
      refine jr_iload d_Ve_act_60 rfl ?_
      refine jr_gets (ci := 0) (G.2.2.2.2.1) d_Ve_act_62 rfl (List.mem_cons_of_mem _ (List.mem_cons_of_mem _ List.mem_cons_self)) ?_
      refine jr_iload_n d_Ve_act_65 rfl ?_
      refine jr_ptldQ (v := 0) d_Ve_act_66 (by omega) (hp) ?_
      refine jr_icmp_ge 87 d_Ve_act_67 (by decide) (fun _ => ?_) (fun z => absurd (by decide) z)
      exact jr_vretE d_Ve_act_87 rfl (rfl) (by rw [List.set_set, actR_2 (by omega)]) (by decide) (by decide)
theorem d_Ve_act_70 : decode m_Ve_act.2.1 70 = .ok (.aload_n 0, 1) := by decide +kernel
theorem d_Ve_act_71 : decode m_Ve_act.2.1 71 = .ok (.aload_n 0, 1) := by decide +kernel
theorem d_Ve_act_72 : decode m_Ve_act.2.1 72 = .ok (.iload_n 1, 1) := by decide +kernel
theorem d_Ve_act_73 : decode m_Ve_act.2.1 73 = .ok (.iload_n 2, 1) := by decide +kernel
theorem d_Ve_act_74 : decode m_Ve_act.2.1 74 = .ok (.iload_n 3, 1) := by decide +kernel
theorem k_Ve_act_166 : jl_cv m_Ve_act m_Ve_typeOfResult 166 3 = true := by decide +kernel
theorem d_Ve_act_75 : decode m_Ve_act.2.1 75 = .ok (.invokevirtual 166, 3) := by decide +kernel
theorem k_Ve_act_138 : jl_cv m_Ve_act m_Ve_put 138 1 = true := by decide +kernel
theorem d_Ve_act_78 : decode m_Ve_act.2.1 78 = .ok (.invokevirtual 138, 3) := by decide +kernel
theorem d_Ve_act_81 : decode m_Ve_act.2.1 81 = .ok (.iinc 4 1, 3) := by decide +kernel
theorem d_Ve_act_84 : decode m_Ve_act.2.1 84 = .ok (.goto (-24), 3) := by decide +kernel
theorem ve_act_1 (hl : l.stackTraces = false) {o h : Nat} {x : Int32} (hc : CkAt σ) (hw : WoAt σ tb pr ow fi ft mt) (hok : WoOk tb pr ow fi) (hsg : SgC σ tb pr mt sg) (hmt : MtOk mt) (hV : VeAt σ wr wz) (hB : σ[10]? = some (.inl (0, 12, .inl fun j => en (bf j)))) (hG : σ[11]? = some (.inl (0, 12, .inl fun j => en (gv j)))) (ho : o < 26) (hf5 : f5o tb ow fi sg o x = false) (hb6 : bf 6 = some h) (hg6 : gv 6 = some h) (hh5 : h ≤ 5) (hf1 : tks sg o x ≤ h ∧ h - tks sg o x + pts o ≤ 5) (hp : pts o = 1) : jl_m l G m_Ve_act [.ref 9, .int (nI o), .int (x)] σ (.inl none) (σ.set 11 (.inl (0, 12, .inl fun j => en ((actR pr fi ft sg bf o x gv h) j)))) := by
  obtain ⟨hW, h2, h3, h4, h5, h6, h7⟩ := id hw
  refine jl_of (as := [.ref 9, .int (nI o), .int (x)]) rfl (by decide) hl (jl_cc rfl (jl_cc rfl (jl_cc rfl jl_ca))) (Nat.le_of_ble_eq_true rfl) ?_
  show jl_W l G m_Ve_act (0, 0) 0 [some (.ref 9), some (.int (nI o)), some (.int (x)), none, none] [] (σ) (.inl none) (σ.set 11 (.inl (0, 12, .inl fun j => en ((actR pr fi ft sg bf o x gv h) j))))
  refine jr_aload_n d_Ve_act_0 rfl ?_
  refine jr_getf d_Ve_act_1 f_Ve_act_9 hV rfl ?_
  refine jr_bipush ((nI (6))) d_Ve_act_4 (by decide) ?_
  refine jr_ialdQ (v := (nI (h))) d_Ve_act_6 hB (by omega) (by omega) (congrArg en hb6) ?_
  refine jr_if_neN 14 d_Ve_act_7 (by decide) (by omega) (fun c1 => ?_) (fun c1 => ?_)
  · refine jr_aload_n d_Ve_act_14 rfl ?_
    refine jr_getf d_Ve_act_15 f_Ve_act_9 hV rfl ?_
    refine jr_bipush ((nI (7))) d_Ve_act_18 (by decide) ?_
    refine jr_aload_n d_Ve_act_20 rfl ?_
    refine jr_getf d_Ve_act_21 f_Ve_act_9 hV rfl ?_
    refine jr_bipush ((nI (6))) d_Ve_act_24 (by decide) ?_
    refine jr_ialdQ (v := (nI (h))) d_Ve_act_26 hB (by omega) (by omega) (congrArg en hb6) ?_
    refine jr_iaddN d_Ve_act_27 ?_
    refine jr_iconst ((nI (1))) d_Ve_act_28 (by decide) ?_
    refine jr_isubN d_Ve_act_29 (by omega) ?_
    refine jr_ialdQ (v := (en (topO bf h))) d_Ve_act_30 hB (by omega) (by omega) (congrArg en (show bf (((7) + (h)) - (1)) = topO bf h by unfold topO; rw [if_neg (by omega)]; congr 1; omega)) ?_
    refine jr_istore_n d_Ve_act_31 (by decide) ?_
    show jl_W l G m_Ve_act (0, 0) 32 [some (.ref 9), some (.int (nI o)), some (.int (x)), some (.int (en (topO bf h))), none] [] (σ) (.inl none) (σ.set 11 (.inl (0, 12, .inl fun j => en ((actR pr fi ft sg bf o x gv h) j))))
    refine jr_aload_n d_Ve_act_32 rfl ?_
    refine jr_aload_n d_Ve_act_33 rfl ?_
    refine jr_getf d_Ve_act_34 f_Ve_act_32 hV rfl ?_
    refine jr_iload_n d_Ve_act_37 rfl ?_
    refine jr_iload_n d_Ve_act_38 rfl ?_
    refine jr_callV (As := [.int (nI o), .int (x)]) d_Ve_act_39 k_Ve_act_160 hc rfl rfl rfl (Nat.le_of_ble_eq_true rfl) (by decide) (by decide) (ck_takes hl hc hw hok hsg ho) ?_
    show jl_W l G m_Ve_act (0, 0) 42 [some (.ref 9), some (.int (nI o)), some (.int (x)), some (.int (en (topO bf h))), none] [.int (nI (tks sg o x)), .ref 9] (σ) (.inl none) (σ.set 11 (.inl (0, 12, .inl fun j => en ((actR pr fi ft sg bf o x gv h) j))))
    refine jr_callV (As := [.int (nI (tks sg o x))]) d_Ve_act_42 k_Ve_act_131 hV rfl rfl rfl (Nat.le_of_ble_eq_true rfl) (by decide) (by decide) (ve_lower hl hV hG hg6 hf1.1 hh5) ?_
    show jl_W l G m_Ve_act (0, 0) 45 [some (.ref 9), some (.int (nI o)), some (.int (x)), some (.int (en (topO bf h))), none] [] (σ.set (11) (.inl (0, 12, .inl (fun j => en ((low gv h (tks sg o x)) j))))) (.inl none) (σ.set 11 (.inl (0, 12, .inl fun j => en ((actR pr fi ft sg bf o x gv h) j))))
    refine jr_iload_n d_Ve_act_45 rfl ?_
    refine jr_iconst ((nI (2))) d_Ve_act_46 (by decide) ?_
    refine jr_icmp_neN 57 d_Ve_act_47 (by decide) (by omega) (by omega) (fun c2 => ?_) (fun c2 => ?_)
    · refine jr_iconst ((nI (0))) d_Ve_act_57 (by decide) ?_
      refine jr_istore d_Ve_act_58 (by decide) ?_
      show jl_W l G m_Ve_act (0, 0) 60 [some (.ref 9), some (.int (nI o)), some (.int (x)), some (.int (en (topO bf h))), some (.int (nI 0))] [] (σ.set (11) (.inl (0, 12, .inl (fun j => en ((low gv h (tks sg o x)) j))))) (.inl none) (σ.set 11 (.inl (0, 12, .inl fun j => en ((actR pr fi ft sg bf o x gv h) j))))
      refine jr_iload d_Ve_act_60 rfl ?_
      refine jr_gets (ci := 0) (G.2.2.2.2.1) d_Ve_act_62 rfl (List.mem_cons_of_mem _ (List.mem_cons_of_mem _ List.mem_cons_self)) ?_
      refine jr_iload_n d_Ve_act_65 rfl ?_
      refine jr_ptldQ (v := 1) d_Ve_act_66 (by omega) (hp) ?_
      refine jr_icmp_ge 87 d_Ve_act_67 (by decide) (fun z => absurd z (by decide)) (fun _ => ?_)
      refine jr_aload_n d_Ve_act_70 rfl ?_
      refine jr_aload_n d_Ve_act_71 rfl ?_
      refine jr_iload_n d_Ve_act_72 rfl ?_
      refine jr_iload_n d_Ve_act_73 rfl ?_
      refine jr_iload_n d_Ve_act_74 rfl ?_
      refine jr_callV (As := [.int (nI o), .int (x), .int (en (topO bf h))]) d_Ve_act_75 k_Ve_act_166 (jl_sn (by decide) hV) rfl rfl rfl (Nat.le_of_ble_eq_true rfl) (by decide) (by decide) (ve_tr hl (jl_sn (by decide) hc) (WoAt.sx hw (by decide)) hok (SgC.sx hsg hmt (Or.inl (by decide))) (jl_sn (by decide) hV) (jl_sn (by decide) hB) ho hf5) ?_
      show jl_W l G m_Ve_act (0, 0) 78 [some (.ref 9), some (.int (nI o)), some (.int (x)), some (.int (en (topO bf h))), some (.int (nI 0))] [.int (en (tres pr fi ft sg bf o x (topO bf h))), .ref 9] (σ.set (11) (.inl (0, 12, .inl (fun j => en ((low gv h (tks sg o x)) j))))) (.inl none) (σ.set 11 (.inl (0, 12, .inl fun j => en ((actR pr fi ft sg bf o x gv h) j))))
      refine jr_callV (As := [.int (en (tres pr fi ft sg bf o x (topO bf h)))]) d_Ve_act_78 k_Ve_act_138 (jl_sn (by decide) hV) rfl rfl rfl (Nat.le_of_ble_eq_true rfl) (by decide) (by decide) (ve_put (h := h - tks sg o x) hl (jl_sn (by decide) hV) (jl_ss hG) rfl (by omega)) ?_
      show jl_W l G m_Ve_act (0, 0) 81 [some (.ref 9), some (.int (nI o)), some (.int (x)), some (.int (en (topO bf h))), some (.int (nI 0))] [] ((σ.set (11) (.inl (0, 12, .inl (fun j => en ((low gv h (tks sg o x)) j))))).set (11) (.inl (0, 12, .inl (fun j => en ((psh (low gv h (tks sg o x)) (h - tks sg o x) (tres pr fi ft sg bf o x (topO bf h))) j))))) (.inl none) (σ.set 11 (.inl (0, 12, .inl fun j => en ((actR pr fi ft sg bf o x gv h) j))))
      refine jr_iinc ((nI (0 + 1))) d_Ve_act_81 (by decide) rfl (jl_inc _) ?_
      show jl_W l G m_Ve_act (0, 0) 84 [some (.ref 9), some (.int (nI o)), some (.int (x)), some (.int (en (topO bf h))), some (.int (nI (0 + 1)))] [] ((σ.set (11) (.inl (0, 12, .inl (fun j => en ((low gv h (tks sg o x)) j))))).set (11) (.inl (0, 12, .inl (fun j => en ((psh (low gv h (tks sg o x)) (h - tks sg o x) (tres pr fi ft sg bf o x (topO bf h))) j))))) (.inl none) (σ.set 11 (.inl (0, 12, .inl fun j => en ((actR pr fi ft sg bf o x gv h) j))))
      refine jr_goto 60 d_Ve_act_84 (by decide) ?_
      show jl_W l G m_Ve_act (0, 0) 60 [some (.ref 9), some (.int (nI o)), some (.int (x)), some (.int (en (topO bf h))), some (.int (nI 1))] [] ((σ.set (11) (.inl (0, 12, .inl (fun j => en ((low gv h (tks sg o x)) j))))).set (11) (.inl (0, 12, .inl (fun j => en ((psh (low gv h (tks sg o x)) (h - tks sg o x) (tres pr fi ft sg bf o x (topO bf h))) j))))) (.inl none) (σ.set 11 (.inl (0, 12, .inl fun j => en ((actR pr fi ft sg bf o x gv h) j))))
      refine jr_iload d_Ve_act_60 rfl ?_
      refine jr_gets (ci := 0) (G.2.2.2.2.1) d_Ve_act_62 rfl (List.mem_cons_of_mem _ (List.mem_cons_of_mem _ List.mem_cons_self)) ?_
      refine jr_iload_n d_Ve_act_65 rfl ?_
      refine jr_ptldQ (v := 1) d_Ve_act_66 (by omega) (hp) ?_
      refine jr_icmp_ge 87 d_Ve_act_67 (by decide) (fun _ => ?_) (fun z => absurd (by decide) z)
      exact jr_vretE d_Ve_act_87 rfl (rfl) (by rw [List.set_set, actR_p hp]) (by decide) (by decide)
    · exact absurd (by omega) (p2 (o := o) (by omega))
  · refine jr_iconst ((-1)) d_Ve_act_10 (by decide) ?_
    refine jr_goto 31 d_Ve_act_11 (by decide) ?_
    refine jr_istore_n d_Ve_act_31 (by decide) ?_
    show jl_W l G m_Ve_act (0, 0) 32 [some (.ref 9), some (.int (nI o)), some (.int (x)), some (.int (-1)), none] [] (σ) (.inl none) (σ.set 11 (.inl (0, 12, .inl fun j => en ((actR pr fi ft sg bf o x gv h) j))))
    have htp : topO bf h = none := by unfold topO; rw [if_pos (by omega)]
    rw [show (-1 : Int32) = en (topO bf h) by rw [htp]; rfl]
    show jl_W l G m_Ve_act (0, 0) 32 [some (.ref 9), some (.int (nI o)), some (.int (x)), some (.int (en (topO bf h))), none] [] (σ) (.inl none) (σ.set 11 (.inl (0, 12, .inl fun j => en ((actR pr fi ft sg bf o x gv h) j))))
    refine jr_aload_n d_Ve_act_32 rfl ?_
    refine jr_aload_n d_Ve_act_33 rfl ?_
    refine jr_getf d_Ve_act_34 f_Ve_act_32 hV rfl ?_
    refine jr_iload_n d_Ve_act_37 rfl ?_
    refine jr_iload_n d_Ve_act_38 rfl ?_
    refine jr_callV (As := [.int (nI o), .int (x)]) d_Ve_act_39 k_Ve_act_160 hc rfl rfl rfl (Nat.le_of_ble_eq_true rfl) (by decide) (by decide) (ck_takes hl hc hw hok hsg ho) ?_
    show jl_W l G m_Ve_act (0, 0) 42 [some (.ref 9), some (.int (nI o)), some (.int (x)), some (.int (en (topO bf h))), none] [.int (nI (tks sg o x)), .ref 9] (σ) (.inl none) (σ.set 11 (.inl (0, 12, .inl fun j => en ((actR pr fi ft sg bf o x gv h) j))))
    refine jr_callV (As := [.int (nI (tks sg o x))]) d_Ve_act_42 k_Ve_act_131 hV rfl rfl rfl (Nat.le_of_ble_eq_true rfl) (by decide) (by decide) (ve_lower hl hV hG hg6 hf1.1 hh5) ?_
    show jl_W l G m_Ve_act (0, 0) 45 [some (.ref 9), some (.int (nI o)), some (.int (x)), some (.int (en (topO bf h))), none] [] (σ.set (11) (.inl (0, 12, .inl (fun j => en ((low gv h (tks sg o x)) j))))) (.inl none) (σ.set 11 (.inl (0, 12, .inl fun j => en ((actR pr fi ft sg bf o x gv h) j))))
    refine jr_iload_n d_Ve_act_45 rfl ?_
    refine jr_iconst ((nI (2))) d_Ve_act_46 (by decide) ?_
    refine jr_icmp_neN 57 d_Ve_act_47 (by decide) (by omega) (by omega) (fun c3 => ?_) (fun c3 => ?_)
    · refine jr_iconst ((nI (0))) d_Ve_act_57 (by decide) ?_
      refine jr_istore d_Ve_act_58 (by decide) ?_
      show jl_W l G m_Ve_act (0, 0) 60 [some (.ref 9), some (.int (nI o)), some (.int (x)), some (.int (en (topO bf h))), some (.int (nI 0))] [] (σ.set (11) (.inl (0, 12, .inl (fun j => en ((low gv h (tks sg o x)) j))))) (.inl none) (σ.set 11 (.inl (0, 12, .inl fun j => en ((actR pr fi ft sg bf o x gv h) j))))
      refine jr_iload d_Ve_act_60 rfl ?_
      refine jr_gets (ci := 0) (G.2.2.2.2.1) d_Ve_act_62 rfl (List.mem_cons_of_mem _ (List.mem_cons_of_mem _ List.mem_cons_self)) ?_
      refine jr_iload_n d_Ve_act_65 rfl ?_
      refine jr_ptldQ (v := 1) d_Ve_act_66 (by omega) (hp) ?_
      refine jr_icmp_ge 87 d_Ve_act_67 (by decide) (fun z => absurd z (by decide)) (fun _ => ?_)
      refine jr_aload_n d_Ve_act_70 rfl ?_
      refine jr_aload_n d_Ve_act_71 rfl ?_
      refine jr_iload_n d_Ve_act_72 rfl ?_
      refine jr_iload_n d_Ve_act_73 rfl ?_
      refine jr_iload_n d_Ve_act_74 rfl ?_
      refine jr_callV (As := [.int (nI o), .int (x), .int (en (topO bf h))]) d_Ve_act_75 k_Ve_act_166 (jl_sn (by decide) hV) rfl rfl rfl (Nat.le_of_ble_eq_true rfl) (by decide) (by decide) (ve_tr hl (jl_sn (by decide) hc) (WoAt.sx hw (by decide)) hok (SgC.sx hsg hmt (Or.inl (by decide))) (jl_sn (by decide) hV) (jl_sn (by decide) hB) ho hf5) ?_
      show jl_W l G m_Ve_act (0, 0) 78 [some (.ref 9), some (.int (nI o)), some (.int (x)), some (.int (en (topO bf h))), some (.int (nI 0))] [.int (en (tres pr fi ft sg bf o x (topO bf h))), .ref 9] (σ.set (11) (.inl (0, 12, .inl (fun j => en ((low gv h (tks sg o x)) j))))) (.inl none) (σ.set 11 (.inl (0, 12, .inl fun j => en ((actR pr fi ft sg bf o x gv h) j))))
      refine jr_callV (As := [.int (en (tres pr fi ft sg bf o x (topO bf h)))]) d_Ve_act_78 k_Ve_act_138 (jl_sn (by decide) hV) rfl rfl rfl (Nat.le_of_ble_eq_true rfl) (by decide) (by decide) (ve_put (h := h - tks sg o x) hl (jl_sn (by decide) hV) (jl_ss hG) rfl (by omega)) ?_
      show jl_W l G m_Ve_act (0, 0) 81 [some (.ref 9), some (.int (nI o)), some (.int (x)), some (.int (en (topO bf h))), some (.int (nI 0))] [] ((σ.set (11) (.inl (0, 12, .inl (fun j => en ((low gv h (tks sg o x)) j))))).set (11) (.inl (0, 12, .inl (fun j => en ((psh (low gv h (tks sg o x)) (h - tks sg o x) (tres pr fi ft sg bf o x (topO bf h))) j))))) (.inl none) (σ.set 11 (.inl (0, 12, .inl fun j => en ((actR pr fi ft sg bf o x gv h) j))))
      refine jr_iinc ((nI (0 + 1))) d_Ve_act_81 (by decide) rfl (jl_inc _) ?_
      show jl_W l G m_Ve_act (0, 0) 84 [some (.ref 9), some (.int (nI o)), some (.int (x)), some (.int (en (topO bf h))), some (.int (nI (0 + 1)))] [] ((σ.set (11) (.inl (0, 12, .inl (fun j => en ((low gv h (tks sg o x)) j))))).set (11) (.inl (0, 12, .inl (fun j => en ((psh (low gv h (tks sg o x)) (h - tks sg o x) (tres pr fi ft sg bf o x (topO bf h))) j))))) (.inl none) (σ.set 11 (.inl (0, 12, .inl fun j => en ((actR pr fi ft sg bf o x gv h) j))))
      refine jr_goto 60 d_Ve_act_84 (by decide) ?_
      show jl_W l G m_Ve_act (0, 0) 60 [some (.ref 9), some (.int (nI o)), some (.int (x)), some (.int (en (topO bf h))), some (.int (nI 1))] [] ((σ.set (11) (.inl (0, 12, .inl (fun j => en ((low gv h (tks sg o x)) j))))).set (11) (.inl (0, 12, .inl (fun j => en ((psh (low gv h (tks sg o x)) (h - tks sg o x) (tres pr fi ft sg bf o x (topO bf h))) j))))) (.inl none) (σ.set 11 (.inl (0, 12, .inl fun j => en ((actR pr fi ft sg bf o x gv h) j))))
      refine jr_iload d_Ve_act_60 rfl ?_
      refine jr_gets (ci := 0) (G.2.2.2.2.1) d_Ve_act_62 rfl (List.mem_cons_of_mem _ (List.mem_cons_of_mem _ List.mem_cons_self)) ?_
      refine jr_iload_n d_Ve_act_65 rfl ?_
      refine jr_ptldQ (v := 1) d_Ve_act_66 (by omega) (hp) ?_
      refine jr_icmp_ge 87 d_Ve_act_67 (by decide) (fun _ => ?_) (fun z => absurd (by decide) z)
      exact jr_vretE d_Ve_act_87 rfl (rfl) (by rw [List.set_set, actR_p hp]) (by decide) (by decide)
    · exact absurd (by omega) (p2 (o := o) (by omega))
theorem ve_act_2 (hl : l.stackTraces = false) {o h : Nat} {x : Int32} (hc : CkAt σ) (hw : WoAt σ tb pr ow fi ft mt) (hok : WoOk tb pr ow fi) (hsg : SgC σ tb pr mt sg) (hmt : MtOk mt) (hV : VeAt σ wr wz) (hB : σ[10]? = some (.inl (0, 12, .inl fun j => en (bf j)))) (hG : σ[11]? = some (.inl (0, 12, .inl fun j => en (gv j)))) (ho : o < 26) (hf5 : f5o tb ow fi sg o x = false) (hb6 : bf 6 = some h) (hg6 : gv 6 = some h) (hh5 : h ≤ 5) (hf1 : tks sg o x ≤ h ∧ h - tks sg o x + pts o ≤ 5) (hp : pts o = 2) : jl_m l G m_Ve_act [.ref 9, .int (nI o), .int (x)] σ (.inl none) (σ.set 11 (.inl (0, 12, .inl fun j => en ((actR pr fi ft sg bf o x gv h) j)))) := by
  obtain ⟨hW, h2, h3, h4, h5, h6, h7⟩ := id hw
  refine jl_of (as := [.ref 9, .int (nI o), .int (x)]) rfl (by decide) hl (jl_cc rfl (jl_cc rfl (jl_cc rfl jl_ca))) (Nat.le_of_ble_eq_true rfl) ?_
  show jl_W l G m_Ve_act (0, 0) 0 [some (.ref 9), some (.int (nI o)), some (.int (x)), none, none] [] (σ) (.inl none) (σ.set 11 (.inl (0, 12, .inl fun j => en ((actR pr fi ft sg bf o x gv h) j))))
  refine jr_aload_n d_Ve_act_0 rfl ?_
  refine jr_getf d_Ve_act_1 f_Ve_act_9 hV rfl ?_
  refine jr_bipush ((nI (6))) d_Ve_act_4 (by decide) ?_
  refine jr_ialdQ (v := (nI (h))) d_Ve_act_6 hB (by omega) (by omega) (congrArg en hb6) ?_
  refine jr_if_neN 14 d_Ve_act_7 (by decide) (by omega) (fun c1 => ?_) (fun c1 => ?_)
  · refine jr_aload_n d_Ve_act_14 rfl ?_
    refine jr_getf d_Ve_act_15 f_Ve_act_9 hV rfl ?_
    refine jr_bipush ((nI (7))) d_Ve_act_18 (by decide) ?_
    refine jr_aload_n d_Ve_act_20 rfl ?_
    refine jr_getf d_Ve_act_21 f_Ve_act_9 hV rfl ?_
    refine jr_bipush ((nI (6))) d_Ve_act_24 (by decide) ?_
    refine jr_ialdQ (v := (nI (h))) d_Ve_act_26 hB (by omega) (by omega) (congrArg en hb6) ?_
    refine jr_iaddN d_Ve_act_27 ?_
    refine jr_iconst ((nI (1))) d_Ve_act_28 (by decide) ?_
    refine jr_isubN d_Ve_act_29 (by omega) ?_
    refine jr_ialdQ (v := (en (topO bf h))) d_Ve_act_30 hB (by omega) (by omega) (congrArg en (show bf (((7) + (h)) - (1)) = topO bf h by unfold topO; rw [if_neg (by omega)]; congr 1; omega)) ?_
    refine jr_istore_n d_Ve_act_31 (by decide) ?_
    show jl_W l G m_Ve_act (0, 0) 32 [some (.ref 9), some (.int (nI o)), some (.int (x)), some (.int (en (topO bf h))), none] [] (σ) (.inl none) (σ.set 11 (.inl (0, 12, .inl fun j => en ((actR pr fi ft sg bf o x gv h) j))))
    refine jr_aload_n d_Ve_act_32 rfl ?_
    refine jr_aload_n d_Ve_act_33 rfl ?_
    refine jr_getf d_Ve_act_34 f_Ve_act_32 hV rfl ?_
    refine jr_iload_n d_Ve_act_37 rfl ?_
    refine jr_iload_n d_Ve_act_38 rfl ?_
    refine jr_callV (As := [.int (nI o), .int (x)]) d_Ve_act_39 k_Ve_act_160 hc rfl rfl rfl (Nat.le_of_ble_eq_true rfl) (by decide) (by decide) (ck_takes hl hc hw hok hsg ho) ?_
    show jl_W l G m_Ve_act (0, 0) 42 [some (.ref 9), some (.int (nI o)), some (.int (x)), some (.int (en (topO bf h))), none] [.int (nI (tks sg o x)), .ref 9] (σ) (.inl none) (σ.set 11 (.inl (0, 12, .inl fun j => en ((actR pr fi ft sg bf o x gv h) j))))
    refine jr_callV (As := [.int (nI (tks sg o x))]) d_Ve_act_42 k_Ve_act_131 hV rfl rfl rfl (Nat.le_of_ble_eq_true rfl) (by decide) (by decide) (ve_lower hl hV hG hg6 hf1.1 hh5) ?_
    show jl_W l G m_Ve_act (0, 0) 45 [some (.ref 9), some (.int (nI o)), some (.int (x)), some (.int (en (topO bf h))), none] [] (σ.set (11) (.inl (0, 12, .inl (fun j => en ((low gv h (tks sg o x)) j))))) (.inl none) (σ.set 11 (.inl (0, 12, .inl fun j => en ((actR pr fi ft sg bf o x gv h) j))))
    refine jr_iload_n d_Ve_act_45 rfl ?_
    refine jr_iconst ((nI (2))) d_Ve_act_46 (by decide) ?_
    refine jr_icmp_neN 57 d_Ve_act_47 (by decide) (by omega) (by omega) (fun c2 => ?_) (fun c2 => ?_)
    · refine jr_iconst ((nI (0))) d_Ve_act_57 (by decide) ?_
      refine jr_istore d_Ve_act_58 (by decide) ?_
      show jl_W l G m_Ve_act (0, 0) 60 [some (.ref 9), some (.int (nI o)), some (.int (x)), some (.int (en (topO bf h))), some (.int (nI 0))] [] (σ.set (11) (.inl (0, 12, .inl (fun j => en ((low gv h (tks sg o x)) j))))) (.inl none) (σ.set 11 (.inl (0, 12, .inl fun j => en ((actR pr fi ft sg bf o x gv h) j))))
      refine jr_iload d_Ve_act_60 rfl ?_
      refine jr_gets (ci := 0) (G.2.2.2.2.1) d_Ve_act_62 rfl (List.mem_cons_of_mem _ (List.mem_cons_of_mem _ List.mem_cons_self)) ?_
      refine jr_iload_n d_Ve_act_65 rfl ?_
      refine jr_ptldQ (v := 2) d_Ve_act_66 (by omega) (hp) ?_
      refine jr_icmp_ge 87 d_Ve_act_67 (by decide) (fun z => absurd z (by decide)) (fun _ => ?_)
      refine jr_aload_n d_Ve_act_70 rfl ?_
      refine jr_aload_n d_Ve_act_71 rfl ?_
      refine jr_iload_n d_Ve_act_72 rfl ?_
      refine jr_iload_n d_Ve_act_73 rfl ?_
      refine jr_iload_n d_Ve_act_74 rfl ?_
      refine jr_callV (As := [.int (nI o), .int (x), .int (en (topO bf h))]) d_Ve_act_75 k_Ve_act_166 (jl_sn (by decide) hV) rfl rfl rfl (Nat.le_of_ble_eq_true rfl) (by decide) (by decide) (ve_tr hl (jl_sn (by decide) hc) (WoAt.sx hw (by decide)) hok (SgC.sx hsg hmt (Or.inl (by decide))) (jl_sn (by decide) hV) (jl_sn (by decide) hB) ho hf5) ?_
      show jl_W l G m_Ve_act (0, 0) 78 [some (.ref 9), some (.int (nI o)), some (.int (x)), some (.int (en (topO bf h))), some (.int (nI 0))] [.int (en (tres pr fi ft sg bf o x (topO bf h))), .ref 9] (σ.set (11) (.inl (0, 12, .inl (fun j => en ((low gv h (tks sg o x)) j))))) (.inl none) (σ.set 11 (.inl (0, 12, .inl fun j => en ((actR pr fi ft sg bf o x gv h) j))))
      refine jr_callV (As := [.int (en (tres pr fi ft sg bf o x (topO bf h)))]) d_Ve_act_78 k_Ve_act_138 (jl_sn (by decide) hV) rfl rfl rfl (Nat.le_of_ble_eq_true rfl) (by decide) (by decide) (ve_put (h := h - tks sg o x) hl (jl_sn (by decide) hV) (jl_ss hG) rfl (by omega)) ?_
      show jl_W l G m_Ve_act (0, 0) 81 [some (.ref 9), some (.int (nI o)), some (.int (x)), some (.int (en (topO bf h))), some (.int (nI 0))] [] ((σ.set (11) (.inl (0, 12, .inl (fun j => en ((low gv h (tks sg o x)) j))))).set (11) (.inl (0, 12, .inl (fun j => en ((psh (low gv h (tks sg o x)) (h - tks sg o x) (tres pr fi ft sg bf o x (topO bf h))) j))))) (.inl none) (σ.set 11 (.inl (0, 12, .inl fun j => en ((actR pr fi ft sg bf o x gv h) j))))
      refine jr_iinc ((nI (0 + 1))) d_Ve_act_81 (by decide) rfl (jl_inc _) ?_
      show jl_W l G m_Ve_act (0, 0) 84 [some (.ref 9), some (.int (nI o)), some (.int (x)), some (.int (en (topO bf h))), some (.int (nI (0 + 1)))] [] ((σ.set (11) (.inl (0, 12, .inl (fun j => en ((low gv h (tks sg o x)) j))))).set (11) (.inl (0, 12, .inl (fun j => en ((psh (low gv h (tks sg o x)) (h - tks sg o x) (tres pr fi ft sg bf o x (topO bf h))) j))))) (.inl none) (σ.set 11 (.inl (0, 12, .inl fun j => en ((actR pr fi ft sg bf o x gv h) j))))
      refine jr_goto 60 d_Ve_act_84 (by decide) ?_
      show jl_W l G m_Ve_act (0, 0) 60 [some (.ref 9), some (.int (nI o)), some (.int (x)), some (.int (en (topO bf h))), some (.int (nI 1))] [] ((σ.set (11) (.inl (0, 12, .inl (fun j => en ((low gv h (tks sg o x)) j))))).set (11) (.inl (0, 12, .inl (fun j => en ((psh (low gv h (tks sg o x)) (h - tks sg o x) (tres pr fi ft sg bf o x (topO bf h))) j))))) (.inl none) (σ.set 11 (.inl (0, 12, .inl fun j => en ((actR pr fi ft sg bf o x gv h) j))))
      refine jr_iload d_Ve_act_60 rfl ?_
      refine jr_gets (ci := 0) (G.2.2.2.2.1) d_Ve_act_62 rfl (List.mem_cons_of_mem _ (List.mem_cons_of_mem _ List.mem_cons_self)) ?_
      refine jr_iload_n d_Ve_act_65 rfl ?_
      refine jr_ptldQ (v := 2) d_Ve_act_66 (by omega) (hp) ?_
      refine jr_icmp_ge 87 d_Ve_act_67 (by decide) (fun z => absurd z (by decide)) (fun _ => ?_)
      refine jr_aload_n d_Ve_act_70 rfl ?_
      refine jr_aload_n d_Ve_act_71 rfl ?_
      refine jr_iload_n d_Ve_act_72 rfl ?_
      refine jr_iload_n d_Ve_act_73 rfl ?_
      refine jr_iload_n d_Ve_act_74 rfl ?_
      refine jr_callV (As := [.int (nI o), .int (x), .int (en (topO bf h))]) d_Ve_act_75 k_Ve_act_166 (jl_sn (by decide) (jl_sn (by decide) hV)) rfl rfl rfl (Nat.le_of_ble_eq_true rfl) (by decide) (by decide) (ve_tr hl (jl_sn (by decide) (jl_sn (by decide) hc)) (WoAt.sx (WoAt.sx hw (by decide)) (by decide)) hok (SgC.sx (SgC.sx hsg hmt (Or.inl (by decide))) hmt (Or.inl (by decide))) (jl_sn (by decide) (jl_sn (by decide) hV)) (jl_sn (by decide) (jl_sn (by decide) hB)) ho hf5) ?_
      show jl_W l G m_Ve_act (0, 0) 78 [some (.ref 9), some (.int (nI o)), some (.int (x)), some (.int (en (topO bf h))), some (.int (nI 1))] [.int (en (tres pr fi ft sg bf o x (topO bf h))), .ref 9] ((σ.set (11) (.inl (0, 12, .inl (fun j => en ((low gv h (tks sg o x)) j))))).set (11) (.inl (0, 12, .inl (fun j => en ((psh (low gv h (tks sg o x)) (h - tks sg o x) (tres pr fi ft sg bf o x (topO bf h))) j))))) (.inl none) (σ.set 11 (.inl (0, 12, .inl fun j => en ((actR pr fi ft sg bf o x gv h) j))))
      refine jr_callV (As := [.int (en (tres pr fi ft sg bf o x (topO bf h)))]) d_Ve_act_78 k_Ve_act_138 (jl_sn (by decide) (jl_sn (by decide) hV)) rfl rfl rfl (Nat.le_of_ble_eq_true rfl) (by decide) (by decide) (ve_put (h := h - tks sg o x + 1) hl (jl_sn (by decide) (jl_sn (by decide) hV)) (jl_ss (jl_ss hG)) rfl (by omega)) ?_
      show jl_W l G m_Ve_act (0, 0) 81 [some (.ref 9), some (.int (nI o)), some (.int (x)), some (.int (en (topO bf h))), some (.int (nI 1))] [] (((σ.set (11) (.inl (0, 12, .inl (fun j => en ((low gv h (tks sg o x)) j))))).set (11) (.inl (0, 12, .inl (fun j => en ((psh (low gv h (tks sg o x)) (h - tks sg o x) (tres pr fi ft sg bf o x (topO bf h))) j))))).set (11) (.inl (0, 12, .inl (fun j => en ((psh (psh (low gv h (tks sg o x)) (h - tks sg o x) (tres pr fi ft sg bf o x (topO bf h))) (h - tks sg o x + 1) (tres pr fi ft sg bf o x (topO bf h))) j))))) (.inl none) (σ.set 11 (.inl (0, 12, .inl fun j => en ((actR pr fi ft sg bf o x gv h) j))))
      refine jr_iinc ((nI (1 + 1))) d_Ve_act_81 (by decide) rfl (jl_inc _) ?_
      show jl_W l G m_Ve_act (0, 0) 84 [some (.ref 9), some (.int (nI o)), some (.int (x)), some (.int (en (topO bf h))), some (.int (nI (1 + 1)))] [] (((σ.set (11) (.inl (0, 12, .inl (fun j => en ((low gv h (tks sg o x)) j))))).set (11) (.inl (0, 12, .inl (fun j => en ((psh (low gv h (tks sg o x)) (h - tks sg o x) (tres pr fi ft sg bf o x (topO bf h))) j))))).set (11) (.inl (0, 12, .inl (fun j => en ((psh (psh (low gv h (tks sg o x)) (h - tks sg o x) (tres pr fi ft sg bf o x (topO bf h))) (h - tks sg o x + 1) (tres pr fi ft sg bf o x (topO bf h))) j))))) (.inl none) (σ.set 11 (.inl (0, 12, .inl fun j => en ((actR pr fi ft sg bf o x gv h) j))))
      refine jr_goto 60 d_Ve_act_84 (by decide) ?_
      show jl_W l G m_Ve_act (0, 0) 60 [some (.ref 9), some (.int (nI o)), some (.int (x)), some (.int (en (topO bf h))), some (.int (nI 2))] [] (((σ.set (11) (.inl (0, 12, .inl (fun j => en ((low gv h (tks sg o x)) j))))).set (11) (.inl (0, 12, .inl (fun j => en ((psh (low gv h (tks sg o x)) (h - tks sg o x) (tres pr fi ft sg bf o x (topO bf h))) j))))).set (11) (.inl (0, 12, .inl (fun j => en ((psh (psh (low gv h (tks sg o x)) (h - tks sg o x) (tres pr fi ft sg bf o x (topO bf h))) (h - tks sg o x + 1) (tres pr fi ft sg bf o x (topO bf h))) j))))) (.inl none) (σ.set 11 (.inl (0, 12, .inl fun j => en ((actR pr fi ft sg bf o x gv h) j))))
      refine jr_iload d_Ve_act_60 rfl ?_
      refine jr_gets (ci := 0) (G.2.2.2.2.1) d_Ve_act_62 rfl (List.mem_cons_of_mem _ (List.mem_cons_of_mem _ List.mem_cons_self)) ?_
      refine jr_iload_n d_Ve_act_65 rfl ?_
      refine jr_ptldQ (v := 2) d_Ve_act_66 (by omega) (hp) ?_
      refine jr_icmp_ge 87 d_Ve_act_67 (by decide) (fun _ => ?_) (fun z => absurd (by decide) z)
      exact jr_vretE d_Ve_act_87 rfl (rfl) (by rw [List.set_set, List.set_set, actR_pp hp]) (by decide) (by decide)
    · exact absurd (by omega) (p2 (o := o) (by omega))
  · refine jr_iconst ((-1)) d_Ve_act_10 (by decide) ?_
    refine jr_goto 31 d_Ve_act_11 (by decide) ?_
    refine jr_istore_n d_Ve_act_31 (by decide) ?_
    show jl_W l G m_Ve_act (0, 0) 32 [some (.ref 9), some (.int (nI o)), some (.int (x)), some (.int (-1)), none] [] (σ) (.inl none) (σ.set 11 (.inl (0, 12, .inl fun j => en ((actR pr fi ft sg bf o x gv h) j))))
    have htp : topO bf h = none := by unfold topO; rw [if_pos (by omega)]
    rw [show (-1 : Int32) = en (topO bf h) by rw [htp]; rfl]
    show jl_W l G m_Ve_act (0, 0) 32 [some (.ref 9), some (.int (nI o)), some (.int (x)), some (.int (en (topO bf h))), none] [] (σ) (.inl none) (σ.set 11 (.inl (0, 12, .inl fun j => en ((actR pr fi ft sg bf o x gv h) j))))
    refine jr_aload_n d_Ve_act_32 rfl ?_
    refine jr_aload_n d_Ve_act_33 rfl ?_
    refine jr_getf d_Ve_act_34 f_Ve_act_32 hV rfl ?_
    refine jr_iload_n d_Ve_act_37 rfl ?_
    refine jr_iload_n d_Ve_act_38 rfl ?_
    refine jr_callV (As := [.int (nI o), .int (x)]) d_Ve_act_39 k_Ve_act_160 hc rfl rfl rfl (Nat.le_of_ble_eq_true rfl) (by decide) (by decide) (ck_takes hl hc hw hok hsg ho) ?_
    show jl_W l G m_Ve_act (0, 0) 42 [some (.ref 9), some (.int (nI o)), some (.int (x)), some (.int (en (topO bf h))), none] [.int (nI (tks sg o x)), .ref 9] (σ) (.inl none) (σ.set 11 (.inl (0, 12, .inl fun j => en ((actR pr fi ft sg bf o x gv h) j))))
    refine jr_callV (As := [.int (nI (tks sg o x))]) d_Ve_act_42 k_Ve_act_131 hV rfl rfl rfl (Nat.le_of_ble_eq_true rfl) (by decide) (by decide) (ve_lower hl hV hG hg6 hf1.1 hh5) ?_
    show jl_W l G m_Ve_act (0, 0) 45 [some (.ref 9), some (.int (nI o)), some (.int (x)), some (.int (en (topO bf h))), none] [] (σ.set (11) (.inl (0, 12, .inl (fun j => en ((low gv h (tks sg o x)) j))))) (.inl none) (σ.set 11 (.inl (0, 12, .inl fun j => en ((actR pr fi ft sg bf o x gv h) j))))
    refine jr_iload_n d_Ve_act_45 rfl ?_
    refine jr_iconst ((nI (2))) d_Ve_act_46 (by decide) ?_
    refine jr_icmp_neN 57 d_Ve_act_47 (by decide) (by omega) (by omega) (fun c3 => ?_) (fun c3 => ?_)
    · refine jr_iconst ((nI (0))) d_Ve_act_57 (by decide) ?_
      refine jr_istore d_Ve_act_58 (by decide) ?_
      show jl_W l G m_Ve_act (0, 0) 60 [some (.ref 9), some (.int (nI o)), some (.int (x)), some (.int (en (topO bf h))), some (.int (nI 0))] [] (σ.set (11) (.inl (0, 12, .inl (fun j => en ((low gv h (tks sg o x)) j))))) (.inl none) (σ.set 11 (.inl (0, 12, .inl fun j => en ((actR pr fi ft sg bf o x gv h) j))))
      refine jr_iload d_Ve_act_60 rfl ?_
      refine jr_gets (ci := 0) (G.2.2.2.2.1) d_Ve_act_62 rfl (List.mem_cons_of_mem _ (List.mem_cons_of_mem _ List.mem_cons_self)) ?_
      refine jr_iload_n d_Ve_act_65 rfl ?_
      refine jr_ptldQ (v := 2) d_Ve_act_66 (by omega) (hp) ?_
      refine jr_icmp_ge 87 d_Ve_act_67 (by decide) (fun z => absurd z (by decide)) (fun _ => ?_)
      refine jr_aload_n d_Ve_act_70 rfl ?_
      refine jr_aload_n d_Ve_act_71 rfl ?_
      refine jr_iload_n d_Ve_act_72 rfl ?_
      refine jr_iload_n d_Ve_act_73 rfl ?_
      refine jr_iload_n d_Ve_act_74 rfl ?_
      refine jr_callV (As := [.int (nI o), .int (x), .int (en (topO bf h))]) d_Ve_act_75 k_Ve_act_166 (jl_sn (by decide) hV) rfl rfl rfl (Nat.le_of_ble_eq_true rfl) (by decide) (by decide) (ve_tr hl (jl_sn (by decide) hc) (WoAt.sx hw (by decide)) hok (SgC.sx hsg hmt (Or.inl (by decide))) (jl_sn (by decide) hV) (jl_sn (by decide) hB) ho hf5) ?_
      show jl_W l G m_Ve_act (0, 0) 78 [some (.ref 9), some (.int (nI o)), some (.int (x)), some (.int (en (topO bf h))), some (.int (nI 0))] [.int (en (tres pr fi ft sg bf o x (topO bf h))), .ref 9] (σ.set (11) (.inl (0, 12, .inl (fun j => en ((low gv h (tks sg o x)) j))))) (.inl none) (σ.set 11 (.inl (0, 12, .inl fun j => en ((actR pr fi ft sg bf o x gv h) j))))
      refine jr_callV (As := [.int (en (tres pr fi ft sg bf o x (topO bf h)))]) d_Ve_act_78 k_Ve_act_138 (jl_sn (by decide) hV) rfl rfl rfl (Nat.le_of_ble_eq_true rfl) (by decide) (by decide) (ve_put (h := h - tks sg o x) hl (jl_sn (by decide) hV) (jl_ss hG) rfl (by omega)) ?_
      show jl_W l G m_Ve_act (0, 0) 81 [some (.ref 9), some (.int (nI o)), some (.int (x)), some (.int (en (topO bf h))), some (.int (nI 0))] [] ((σ.set (11) (.inl (0, 12, .inl (fun j => en ((low gv h (tks sg o x)) j))))).set (11) (.inl (0, 12, .inl (fun j => en ((psh (low gv h (tks sg o x)) (h - tks sg o x) (tres pr fi ft sg bf o x (topO bf h))) j))))) (.inl none) (σ.set 11 (.inl (0, 12, .inl fun j => en ((actR pr fi ft sg bf o x gv h) j))))
      refine jr_iinc ((nI (0 + 1))) d_Ve_act_81 (by decide) rfl (jl_inc _) ?_
      show jl_W l G m_Ve_act (0, 0) 84 [some (.ref 9), some (.int (nI o)), some (.int (x)), some (.int (en (topO bf h))), some (.int (nI (0 + 1)))] [] ((σ.set (11) (.inl (0, 12, .inl (fun j => en ((low gv h (tks sg o x)) j))))).set (11) (.inl (0, 12, .inl (fun j => en ((psh (low gv h (tks sg o x)) (h - tks sg o x) (tres pr fi ft sg bf o x (topO bf h))) j))))) (.inl none) (σ.set 11 (.inl (0, 12, .inl fun j => en ((actR pr fi ft sg bf o x gv h) j))))
      refine jr_goto 60 d_Ve_act_84 (by decide) ?_
      show jl_W l G m_Ve_act (0, 0) 60 [some (.ref 9), some (.int (nI o)), some (.int (x)), some (.int (en (topO bf h))), some (.int (nI 1))] [] ((σ.set (11) (.inl (0, 12, .inl (fun j => en ((low gv h (tks sg o x)) j))))).set (11) (.inl (0, 12, .inl (fun j => en ((psh (low gv h (tks sg o x)) (h - tks sg o x) (tres pr fi ft sg bf o x (topO bf h))) j))))) (.inl none) (σ.set 11 (.inl (0, 12, .inl fun j => en ((actR pr fi ft sg bf o x gv h) j))))
      refine jr_iload d_Ve_act_60 rfl ?_
      refine jr_gets (ci := 0) (G.2.2.2.2.1) d_Ve_act_62 rfl (List.mem_cons_of_mem _ (List.mem_cons_of_mem _ List.mem_cons_self)) ?_
      refine jr_iload_n d_Ve_act_65 rfl ?_
      refine jr_ptldQ (v := 2) d_Ve_act_66 (by omega) (hp) ?_
      refine jr_icmp_ge 87 d_Ve_act_67 (by decide) (fun z => absurd z (by decide)) (fun _ => ?_)
      refine jr_aload_n d_Ve_act_70 rfl ?_
      refine jr_aload_n d_Ve_act_71 rfl ?_
      refine jr_iload_n d_Ve_act_72 rfl ?_
      refine jr_iload_n d_Ve_act_73 rfl ?_
      refine jr_iload_n d_Ve_act_74 rfl ?_
      refine jr_callV (As := [.int (nI o), .int (x), .int (en (topO bf h))]) d_Ve_act_75 k_Ve_act_166 (jl_sn (by decide) (jl_sn (by decide) hV)) rfl rfl rfl (Nat.le_of_ble_eq_true rfl) (by decide) (by decide) (ve_tr hl (jl_sn (by decide) (jl_sn (by decide) hc)) (WoAt.sx (WoAt.sx hw (by decide)) (by decide)) hok (SgC.sx (SgC.sx hsg hmt (Or.inl (by decide))) hmt (Or.inl (by decide))) (jl_sn (by decide) (jl_sn (by decide) hV)) (jl_sn (by decide) (jl_sn (by decide) hB)) ho hf5) ?_
      show jl_W l G m_Ve_act (0, 0) 78 [some (.ref 9), some (.int (nI o)), some (.int (x)), some (.int (en (topO bf h))), some (.int (nI 1))] [.int (en (tres pr fi ft sg bf o x (topO bf h))), .ref 9] ((σ.set (11) (.inl (0, 12, .inl (fun j => en ((low gv h (tks sg o x)) j))))).set (11) (.inl (0, 12, .inl (fun j => en ((psh (low gv h (tks sg o x)) (h - tks sg o x) (tres pr fi ft sg bf o x (topO bf h))) j))))) (.inl none) (σ.set 11 (.inl (0, 12, .inl fun j => en ((actR pr fi ft sg bf o x gv h) j))))
      refine jr_callV (As := [.int (en (tres pr fi ft sg bf o x (topO bf h)))]) d_Ve_act_78 k_Ve_act_138 (jl_sn (by decide) (jl_sn (by decide) hV)) rfl rfl rfl (Nat.le_of_ble_eq_true rfl) (by decide) (by decide) (ve_put (h := h - tks sg o x + 1) hl (jl_sn (by decide) (jl_sn (by decide) hV)) (jl_ss (jl_ss hG)) rfl (by omega)) ?_
      show jl_W l G m_Ve_act (0, 0) 81 [some (.ref 9), some (.int (nI o)), some (.int (x)), some (.int (en (topO bf h))), some (.int (nI 1))] [] (((σ.set (11) (.inl (0, 12, .inl (fun j => en ((low gv h (tks sg o x)) j))))).set (11) (.inl (0, 12, .inl (fun j => en ((psh (low gv h (tks sg o x)) (h - tks sg o x) (tres pr fi ft sg bf o x (topO bf h))) j))))).set (11) (.inl (0, 12, .inl (fun j => en ((psh (psh (low gv h (tks sg o x)) (h - tks sg o x) (tres pr fi ft sg bf o x (topO bf h))) (h - tks sg o x + 1) (tres pr fi ft sg bf o x (topO bf h))) j))))) (.inl none) (σ.set 11 (.inl (0, 12, .inl fun j => en ((actR pr fi ft sg bf o x gv h) j))))
      refine jr_iinc ((nI (1 + 1))) d_Ve_act_81 (by decide) rfl (jl_inc _) ?_
      show jl_W l G m_Ve_act (0, 0) 84 [some (.ref 9), some (.int (nI o)), some (.int (x)), some (.int (en (topO bf h))), some (.int (nI (1 + 1)))] [] (((σ.set (11) (.inl (0, 12, .inl (fun j => en ((low gv h (tks sg o x)) j))))).set (11) (.inl (0, 12, .inl (fun j => en ((psh (low gv h (tks sg o x)) (h - tks sg o x) (tres pr fi ft sg bf o x (topO bf h))) j))))).set (11) (.inl (0, 12, .inl (fun j => en ((psh (psh (low gv h (tks sg o x)) (h - tks sg o x) (tres pr fi ft sg bf o x (topO bf h))) (h - tks sg o x + 1) (tres pr fi ft sg bf o x (topO bf h))) j))))) (.inl none) (σ.set 11 (.inl (0, 12, .inl fun j => en ((actR pr fi ft sg bf o x gv h) j))))
      refine jr_goto 60 d_Ve_act_84 (by decide) ?_
      show jl_W l G m_Ve_act (0, 0) 60 [some (.ref 9), some (.int (nI o)), some (.int (x)), some (.int (en (topO bf h))), some (.int (nI 2))] [] (((σ.set (11) (.inl (0, 12, .inl (fun j => en ((low gv h (tks sg o x)) j))))).set (11) (.inl (0, 12, .inl (fun j => en ((psh (low gv h (tks sg o x)) (h - tks sg o x) (tres pr fi ft sg bf o x (topO bf h))) j))))).set (11) (.inl (0, 12, .inl (fun j => en ((psh (psh (low gv h (tks sg o x)) (h - tks sg o x) (tres pr fi ft sg bf o x (topO bf h))) (h - tks sg o x + 1) (tres pr fi ft sg bf o x (topO bf h))) j))))) (.inl none) (σ.set 11 (.inl (0, 12, .inl fun j => en ((actR pr fi ft sg bf o x gv h) j))))
      refine jr_iload d_Ve_act_60 rfl ?_
      refine jr_gets (ci := 0) (G.2.2.2.2.1) d_Ve_act_62 rfl (List.mem_cons_of_mem _ (List.mem_cons_of_mem _ List.mem_cons_self)) ?_
      refine jr_iload_n d_Ve_act_65 rfl ?_
      refine jr_ptldQ (v := 2) d_Ve_act_66 (by omega) (hp) ?_
      refine jr_icmp_ge 87 d_Ve_act_67 (by decide) (fun _ => ?_) (fun z => absurd (by decide) z)
      exact jr_vretE d_Ve_act_87 rfl (rfl) (by rw [List.set_set, List.set_set, actR_pp hp]) (by decide) (by decide)
    · exact absurd (by omega) (p2 (o := o) (by omega))
theorem ve_act (hl : l.stackTraces = false) {o h : Nat} {x : Int32} (hc : CkAt σ) (hw : WoAt σ tb pr ow fi ft mt) (hok : WoOk tb pr ow fi) (hsg : SgC σ tb pr mt sg) (hmt : MtOk mt) (hV : VeAt σ wr wz) (hB : σ[10]? = some (.inl (0, 12, .inl fun j => en (bf j)))) (hG : σ[11]? = some (.inl (0, 12, .inl fun j => en (gv j)))) (ho : o < 26) (hf5 : f5o tb ow fi sg o x = false) (hb6 : bf 6 = some h) (hg6 : gv 6 = some h) (hh5 : h ≤ 5) (hf1 : tks sg o x ≤ h ∧ h - tks sg o x + pts o ≤ 5) : jl_m l G m_Ve_act [.ref 9, .int (nI o), .int x] σ (.inl none) (σ.set 11 (.inl (0, 12, .inl fun j => en ((actR pr fi ft sg bf o x gv h) j)))) := by
  have hpl := pts_le o
  have hq : pts o = 0 ∨ pts o = 1 ∨ pts o = 2 := by omega
  rcases hq with hp | hp | hp
  · exact ve_act_0 hl hc hw hok hsg hmt hV hB hG ho hf5 hb6 hg6 hh5 hf1 hp
  · exact ve_act_1 hl hc hw hok hsg hmt hV hB hG ho hf5 hb6 hg6 hh5 hf1 hp
  · exact ve_act_2 hl hc hw hok hsg hmt hV hB hG ho hf5 hb6 hg6 hh5 hf1 hp
end JVa
