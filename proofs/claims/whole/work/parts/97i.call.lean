/-! the class Machine: callMethod (wip/gen/p97i.py) -/
section JMi
variable {l : Launch} {G : jl_G} {σ : jl_S}
variable {tb : Nat → Bool} {pr : Nat → Option Nat} {ow fi ft : Nat → Nat} {mt : Nat → Option Nat}
variable {a : Nat} {q1 q2 : Option Nat} {rs : Nat} {op : Nat → Nat} {ag : Nat → Int32} {sz : Nat} {fr tt tg kd : Nat → Nat} {nc : Nat} {mp : Nat → Int32} {fh : Nat → Bool}
variable {σ0 : jl_S} {N t m p b : Nat} {R : Rw} {V : Nat → Int32} {fs : List Fm} {H : Hp} {su dt dq aw x : Int32}
variable {sg : Int32 → Option Sg} {D : Nat → MDt} {MP : Nat → Nat → Int32} {FH : Nat → Nat → Bool} {uw : Nat → Option Nat} {ps : Nat → Nat} {ty : Rw} {va : Nat → Int32} {e : Nat} {tp : Int32} {F : List Fm}
/-- the row of a METHOD that i places were given to -/
def cwi (R : Rw) (b i : Nat) : Rw := fun j => if j = 6 then some 0 else if j < 6 ∧ j < i then R (7 + b + j) else none
def cwj (V : Nat → Int32) (b i : Nat) : Nat → Int32 := fun j => if j < 6 ∧ j < i then V (7 + b + j) else -1
theorem cwi_s {i : Nat} (hi : i < 6) : va_up (cwi R b i) i (R (7 + b + i)) = cwi R b (i + 1) := by
  funext j
  unfold cwi
  by_cases e : j = i
  · rw [e, va_up_self, if_neg (by omega), if_pos (by omega)]
  · rw [va_up_ne _ _ e]
    by_cases h6 : j = 6
    · rw [if_pos h6, if_pos h6]
    · rw [if_neg h6, if_neg h6]
      by_cases h : j < 6 ∧ j < i
      · rw [if_pos h, if_pos (by omega)]
      · rw [if_neg h, if_neg (by omega)]
theorem cwj_s {i : Nat} (hi : i < 6) : va_up (cwj V b i) i (V (7 + b + i)) = cwj V b (i + 1) := by
  funext j
  unfold cwj
  by_cases e : j = i
  · rw [e, va_up_self, if_pos (by omega)]
  · rw [va_up_ne _ _ e]
    by_cases h : j < 6 ∧ j < i
    · rw [if_pos h, if_pos (by omega)]
    · rw [if_neg h, if_neg (by omega)]
theorem cwi_e {n : Nat} : cwi R b (n + 1) = cwR R b n := by
  funext j
  unfold cwi cwR
  by_cases h6 : j = 6
  · rw [if_pos h6, if_pos h6]
  · rw [if_neg h6, if_neg h6]
    by_cases h : j < 6 ∧ j ≤ n
    · rw [if_pos h, if_pos (by omega)]
    · rw [if_neg h, if_neg (by omega)]
theorem cwj_e {n : Nat} : cwj V b (n + 1) = cwW V b n := by
  funext j
  unfold cwj cwW
  by_cases h : j < 6 ∧ j ≤ n
  · rw [if_pos h, if_pos (by omega)]
  · rw [if_neg h, if_neg (by omega)]
theorem wr_lo {α : Type} {f : Nat → α} {c n j : Nat} {g : Nat → α} (h : j < c) : wr f c n g j = f j := by unfold wr; rw [if_neg (by omega)]
theorem FX.opn (h : FsA mt uw ps ty va F) (he : F.length = e) (hob : ∀ j, ob 16 (ty j)) (hm : mt m = some a) : FX mt (va_up uw e (some a)) (va_up ps e 0) (va_up (wr ty (e * 12) 6 (fun _ => none)) (e * 12 + 6) (some 0)) (wr va (e * 12) 6 (fun _ => -1)) 7 e m 0 (cwi R b 0) (cwj V b 0) F := by
  refine ⟨⟨⟨a, hm, va_up_self _ _ _⟩, va_up_self _ _ _, fun j hj => ?_, fun j hj hn => ?_⟩, FsA.low (t := e) (fun j hj => ⟨va_up_ne _ _ (by omega), va_up_ne _ _ (by omega)⟩) (fun j hj => ⟨(va_up_ne _ _ (by omega)).trans (wr_lo (by omega)), wr_lo (by omega)⟩) h (by omega), he, obU_up (ob_wr hob (fun _ => fun _ q => by cases q)) (ob_s (by decide))⟩
  · show va_up (wr ty (e * 12) 6 (fun _ => none)) (e * 12 + 6) (some 0) (e * 12 + j) = cwi R b 0 j
    unfold cwi
    by_cases h6 : j = 6
    · rw [h6, va_up_self, if_pos rfl]
    · rw [va_up_ne _ _ (by omega), if_neg h6, if_neg (by omega)]
      unfold wr
      rw [if_pos (by omega)]
  · show wr va (e * 12) 6 (fun _ => -1) (e * 12 + j) = cwj V b 0 j
    unfold cwj wr
    rw [if_pos (by omega), if_neg (by omega)]
theorem d_Ma_open_0 : decode m_Ma_open.2.1 0 = .ok (.aload_n 0, 1) := by decide +kernel
theorem d_Ma_open_1 : decode m_Ma_open.2.1 1 = .ok (.dup, 1) := by decide +kernel
theorem d_Ma_open_2 : decode m_Ma_open.2.1 2 = .ok (.getfield 34, 3) := by decide +kernel
theorem d_Ma_open_5 : decode m_Ma_open.2.1 5 = .ok (.iconst 1, 1) := by decide +kernel
theorem d_Ma_open_6 : decode m_Ma_open.2.1 6 = .ok (.iadd, 1) := by decide +kernel
theorem p_Ma_open_34 : jl_fp m_Ma_open 34 1 7 = true := by decide +kernel
theorem d_Ma_open_7 : decode m_Ma_open.2.1 7 = .ok (.putfield 34, 3) := by decide +kernel
theorem d_Ma_open_10 : decode m_Ma_open.2.1 10 = .ok (.aload_n 0, 1) := by decide +kernel
theorem f_Ma_open_20 : jl_fd m_Ma_open 20 1 3 = true := by decide +kernel
theorem d_Ma_open_11 : decode m_Ma_open.2.1 11 = .ok (.getfield 20, 3) := by decide +kernel
theorem d_Ma_open_14 : decode m_Ma_open.2.1 14 = .ok (.aload_n 0, 1) := by decide +kernel
theorem d_Ma_open_15 : decode m_Ma_open.2.1 15 = .ok (.getfield 34, 3) := by decide +kernel
theorem d_Ma_open_18 : decode m_Ma_open.2.1 18 = .ok (.aload_n 1, 1) := by decide +kernel
theorem d_Ma_open_19 : decode m_Ma_open.2.1 19 = .ok (.aastore, 1) := by decide +kernel
theorem d_Ma_open_20 : decode m_Ma_open.2.1 20 = .ok (.aload_n 0, 1) := by decide +kernel
theorem f_Ma_open_24 : jl_fd m_Ma_open 24 1 4 = true := by decide +kernel
theorem d_Ma_open_21 : decode m_Ma_open.2.1 21 = .ok (.getfield 24, 3) := by decide +kernel
theorem d_Ma_open_24 : decode m_Ma_open.2.1 24 = .ok (.aload_n 0, 1) := by decide +kernel
theorem d_Ma_open_25 : decode m_Ma_open.2.1 25 = .ok (.getfield 34, 3) := by decide +kernel
theorem d_Ma_open_28 : decode m_Ma_open.2.1 28 = .ok (.iconst 0, 1) := by decide +kernel
theorem d_Ma_open_29 : decode m_Ma_open.2.1 29 = .ok (.iastore, 1) := by decide +kernel
theorem d_Ma_open_30 : decode m_Ma_open.2.1 30 = .ok (.iconst 0, 1) := by decide +kernel
theorem d_Ma_open_31 : decode m_Ma_open.2.1 31 = .ok (.istore_n 2, 1) := by decide +kernel
theorem ma_open (hl : l.stackTraces = false) {P : jl_O → jl_S → Prop}  (hX : MaAt σ tp su dt dq aw) (u1 : σ[18]? = some (.inl (3, 12, .inr (.inr (.inr (.inr uw)))))) (u2 : σ[19]? = some (.inl (0, 12, .inl fun j => nI (ps j)))) (t1 : σ[20]? = some (.inl (0, 144, .inl fun j => en (ty j)))) (t2 : σ[21]? = some (.inl (0, 144, .inl va))) (hm : MeAt σ a q1 q2 rs op ag sz fr tt tg kd nc mp fh) (htp : tp + nI 1 = nI e) (he : e < 12) (ha : 54 ≤ a) (hT : ∀ σ', MaAt σ' (nI e) su dt dq aw → σ'[18]? = some (.inl (3, 12, .inr (.inr (.inr (.inr (va_up uw e (some a))))))) → σ'[19]? = some (.inl (0, 12, .inl fun j => nI (va_up ps e 0 j))) → σ'[20]? = some (.inl (0, 144, .inl fun j => en ((va_up (wr ty (e * 12) 6 (fun _ => none)) (e * 12 + 6) (some 0)) j))) → σ'[21]? = some (.inl (0, 144, .inl (wr va (e * 12) 6 (fun _ => -1)))) → σ'.length = σ.length → (∀ i, i ≠ 13 → i ≠ 18 → i ≠ 19 → i ≠ 20 → i ≠ 21 → σ'[i]? = σ[i]?) → P (.inl none) σ') : jl_mE l G m_Ma_open [.ref 13, .ref a] σ P := by
  obtain ⟨hM, g1, g2, g3, g4, g5, g6, g7, g8⟩ := id hm
  refine jl_ofE (as := [.ref 13, .ref a]) rfl (by decide) hl (jl_cc rfl (jl_cc rfl jl_ca)) (Nat.le_of_ble_eq_true rfl) ?_
  show jl_E l G m_Ma_open (0, 0) 0 [some (.ref 13), some (.ref a), none] [] (σ) P
  refine er_aload_n d_Ma_open_0 rfl ?_
  refine er_dup d_Ma_open_1 rfl ?_
  refine er_getf d_Ma_open_2 f_Ma_open_34 hX rfl ?_
  refine er_iconst ((nI (1))) d_Ma_open_5 (by decide) ?_
  refine er_iadd d_Ma_open_6 ?_
  rw [show (tp) + (nI (1)) = nI e from htp]
  show jl_E l G m_Ma_open (0, 0) 7 [some (.ref 13), some (.ref a), none] [.int (nI e), .ref 13] (σ) P
  refine er_putf d_Ma_open_7 p_Ma_open_34 hX (Nat.le_of_ble_eq_true rfl) jl_fit_int ?_
  show jl_E l G m_Ma_open (0, 0) 10 [some (.ref 13), some (.ref a), none] [] (σ.set (13) (.inr (1, [.ref 1, .ref 8, .ref 14, .ref 18, .ref 19, .ref 20, .ref 21, .int (nI e), .int (su), .int (dt), .int (dq), .int (aw)]))) P
  refine er_aload_n d_Ma_open_10 rfl ?_
  refine er_getf d_Ma_open_11 f_Ma_open_20 (jl_ss hX) rfl ?_
  refine er_aload_n d_Ma_open_14 rfl ?_
  refine er_getf d_Ma_open_15 f_Ma_open_34 (jl_ss hX) rfl ?_
  refine er_aload_n d_Ma_open_18 rfl ?_
  refine er_aastN d_Ma_open_19 (jl_sn (by decide) u1) (jl_sn (by omega) hM) (by omega) (by omega) ?_
  show jl_E l G m_Ma_open (0, 0) 20 [some (.ref 13), some (.ref a), none] [] ((σ.set (13) (.inr (1, [.ref 1, .ref 8, .ref 14, .ref 18, .ref 19, .ref 20, .ref 21, .int (nI e), .int (su), .int (dt), .int (dq), .int (aw)]))).set (18) (.inl (3, 12, .inr (.inr (.inr (.inr (va_up (uw) (e) (some (a))))))))) P
  refine er_aload_n d_Ma_open_20 rfl ?_
  refine er_getf d_Ma_open_21 f_Ma_open_24 (jl_sn (by decide) (jl_ss hX)) rfl ?_
  refine er_aload_n d_Ma_open_24 rfl ?_
  refine er_getf d_Ma_open_25 f_Ma_open_34 (jl_sn (by decide) (jl_ss hX)) rfl ?_
  refine er_iconst ((nI (0))) d_Ma_open_28 (by decide) ?_
  refine er_iastN d_Ma_open_29 (jl_sn (by decide) (jl_sn (by decide) u2)) (by omega) (by omega) ?_
  rw [show upd (fun j => nI (ps j)) (e) ((nI (0))) = (fun j => nI ((va_up ps (e) (0)) j)) from nI_up ps (e) (0)]
  show jl_E l G m_Ma_open (0, 0) 30 [some (.ref 13), some (.ref a), none] [] (((σ.set (13) (.inr (1, [.ref 1, .ref 8, .ref 14, .ref 18, .ref 19, .ref 20, .ref 21, .int (nI e), .int (su), .int (dt), .int (dq), .int (aw)]))).set (18) (.inl (3, 12, .inr (.inr (.inr (.inr (va_up (uw) (e) (some (a))))))))).set (19) (.inl (0, 12, .inl (fun j => nI ((va_up ps (e) (0)) j))))) P
  refine er_iconst ((nI (0))) d_Ma_open_30 (by decide) ?_
  refine er_istore_n d_Ma_open_31 (by decide) ?_
  show jl_E l G m_Ma_open (0, 0) 32 [some (.ref 13), some (.ref a), some (.int (nI 0))] [] (((σ.set (13) (.inr (1, [.ref 1, .ref 8, .ref 14, .ref 18, .ref 19, .ref 20, .ref 21, .int (nI e), .int (su), .int (dt), .int (dq), .int (aw)]))).set (18) (.inl (3, 12, .inr (.inr (.inr (.inr (va_up (uw) (e) (some (a))))))))).set (19) (.inl (0, 12, .inl (fun j => nI ((va_up ps (e) (0)) j))))) P
  refine ma_open_l (t := e) hl he (fun ty1 va1 σ1 w1 w2 hX1 t11 t21 hL1 hf1 => ?_) 7 0 _ ty va (by omega) (by omega) (jl_sn (by decide) (jl_sn (by decide) (jl_ss hX))) (jl_sn (by decide) (jl_sn (by decide) (jl_sn (by decide) t1))) (jl_sn (by decide) (jl_sn (by decide) (jl_sn (by decide) t2))) rfl (fun _ _ _ => rfl) wrt.z wrt.z
  have e1 := w1.e
  have e2 := w2.e
  subst e1 e2
  refine hT σ1 hX1 ((hf1 18 (by decide) (by decide)).trans (jl_sn (by decide) (jl_ss (jl_sn (by decide) u1)))) ((hf1 19 (by decide) (by decide)).trans (jl_ss (jl_sn (by decide) (jl_sn (by decide) u2)))) t11 t21 (hL1.trans (by simp only [List.length_set])) (fun i h13 h18 h19 h20 h21 => (hf1 i h20 h21).trans ?_)
  rw [List.getElem?_set_ne (by omega), List.getElem?_set_ne (by omega), List.getElem?_set_ne (by omega)]
variable {c m2 k n a2 : Nat}
theorem d_Ma_callMethod_137 : decode m_Ma_callMethod.2.1 137 = .ok (.iload 5, 2) := by decide +kernel
theorem d_Ma_callMethod_139 : decode m_Ma_callMethod.2.1 139 = .ok (.iload_n 2, 1) := by decide +kernel
theorem d_Ma_callMethod_140 : decode m_Ma_callMethod.2.1 140 = .ok (.if_icmp .gt 33, 3) := by decide +kernel
theorem d_Ma_callMethod_173 : decode m_Ma_callMethod.2.1 173 = .ok (.return_, 1) := by decide +kernel
theorem d_Ma_callMethod_143 : decode m_Ma_callMethod.2.1 143 = .ok (.aload_n 0, 1) := by decide +kernel
theorem d_Ma_callMethod_144 : decode m_Ma_callMethod.2.1 144 = .ok (.iload 5, 2) := by decide +kernel
theorem d_Ma_callMethod_146 : decode m_Ma_callMethod.2.1 146 = .ok (.aload_n 0, 1) := by decide +kernel
theorem f_Ma_callMethod_28 : jl_fd m_Ma_callMethod 28 1 5 = true := by decide +kernel
theorem d_Ma_callMethod_147 : decode m_Ma_callMethod.2.1 147 = .ok (.getfield 28, 3) := by decide +kernel
theorem d_Ma_callMethod_150 : decode m_Ma_callMethod.2.1 150 = .ok (.iload_n 3, 1) := by decide +kernel
theorem d_Ma_callMethod_151 : decode m_Ma_callMethod.2.1 151 = .ok (.iload 5, 2) := by decide +kernel
theorem d_Ma_callMethod_153 : decode m_Ma_callMethod.2.1 153 = .ok (.iadd, 1) := by decide +kernel
theorem d_Ma_callMethod_154 : decode m_Ma_callMethod.2.1 154 = .ok (.iaload, 1) := by decide +kernel
theorem d_Ma_callMethod_155 : decode m_Ma_callMethod.2.1 155 = .ok (.aload_n 0, 1) := by decide +kernel
theorem f_Ma_callMethod_31 : jl_fd m_Ma_callMethod 31 1 6 = true := by decide +kernel
theorem d_Ma_callMethod_156 : decode m_Ma_callMethod.2.1 156 = .ok (.getfield 31, 3) := by decide +kernel
theorem d_Ma_callMethod_159 : decode m_Ma_callMethod.2.1 159 = .ok (.iload_n 3, 1) := by decide +kernel
theorem d_Ma_callMethod_160 : decode m_Ma_callMethod.2.1 160 = .ok (.iload 5, 2) := by decide +kernel
theorem d_Ma_callMethod_162 : decode m_Ma_callMethod.2.1 162 = .ok (.iadd, 1) := by decide +kernel
theorem d_Ma_callMethod_163 : decode m_Ma_callMethod.2.1 163 = .ok (.iaload, 1) := by decide +kernel
theorem k_Ma_callMethod_69 : jl_cv m_Ma_callMethod m_Ma_setLocal 69 3 = true := by decide +kernel
theorem d_Ma_callMethod_164 : decode m_Ma_callMethod.2.1 164 = .ok (.invokevirtual 69, 3) := by decide +kernel
theorem d_Ma_callMethod_167 : decode m_Ma_callMethod.2.1 167 = .ok (.iinc 5 1, 3) := by decide +kernel
theorem d_Ma_callMethod_170 : decode m_Ma_callMethod.2.1 170 = .ok (.goto (-33), 3) := by decide +kernel
theorem ma_call_l (hl : l.stackTraces = false) {P : jl_O → jl_S → Prop}   (ht : t + 1 < 12) (hc : c ≤ 2) (hbc : b + 1 + c ≤ 5) (hto : ∀ j, ob 16 (H.ty j)) (hT : ∀ σ', KB σ0 mt σ' 7 (t + 1) m2 0 (cwR R b c) (cwW V b c) F H su dt dq aw → P (.inl none) σ') : ∀ (nn : Nat) (i : Nat) (σ : jl_S) (ty : Rw) (va : Nat → Int32), c + 1 - i < nn → i ≤ c + 1 → MaAt σ (nI (t + 1)) su dt dq aw → σ[18]? = some (.inl (3, 12, .inr (.inr (.inr (.inr uw))))) → σ[19]? = some (.inl (0, 12, .inl fun j => nI (ps j))) → σ[20]? = some (.inl (0, 144, .inl fun j => en (ty j))) → σ[21]? = some (.inl (0, 144, .inl va)) → StAt σ H.sz H.ty H.va H.n → FrK σ0 σ → FX mt uw ps ty va 7 (t + 1) m2 0 (cwi R b i) (cwj V b i) F → (∀ i, i ≤ c → ty (t * 12 + 7 + b + i) = R (7 + b + i) ∧ va (t * 12 + 7 + b + i) = V (7 + b + i)) → jl_E l G m_Ma_callMethod (0, 0) 137 [some (.ref 13), some (.int (nI n)), some (.int (nI c)), some (.int (nI (t * 12 + 7 + b))), some (.ref a2), some (.int (nI i))] [] σ P := by
  intro nn
  induction nn with
  | zero => intro i σ ty va hnn; exact absurd hnn (Nat.not_lt_zero _)
  | succ nn ihn =>
    intro i σ ty va hnn hi hX u1 u2 t1 t2 hS hF hx hA
    obtain ⟨s0, s1, s2, s3⟩ := id hS
    refine er_iload d_Ma_callMethod_137 rfl ?_
    refine er_iload_n d_Ma_callMethod_139 rfl ?_
    refine er_icmp_gtN 173 d_Ma_callMethod_140 (by decide) (by omega) (by omega) (fun c1 => ?_) (fun c1 => ?_)
    · exact er_vret d_Ma_callMethod_173 rfl (hT _ ⟨_, _, _, _, hX, u1, u2, t1, t2, ⟨s0, s1, s2, s3⟩, (by have z := hx; rw [show i = c + 1 by omega, cwi_e, cwj_e] at z; exact z), hto, hF⟩) (by decide) (by decide)
    · refine er_aload_n d_Ma_callMethod_143 rfl ?_
      refine er_iload d_Ma_callMethod_144 rfl ?_
      refine er_aload_n d_Ma_callMethod_146 rfl ?_
      refine er_getf d_Ma_callMethod_147 f_Ma_callMethod_28 hX rfl ?_
      refine er_iload_n d_Ma_callMethod_150 rfl ?_
      refine er_iload d_Ma_callMethod_151 rfl ?_
      refine er_iaddN d_Ma_callMethod_153 ?_
      refine er_ialdQ (v := (en (R (7 + b + i)))) d_Ma_callMethod_154 t1 (by omega) (by omega) (congrArg en (hA i (by omega)).1) ?_
      refine er_aload_n d_Ma_callMethod_155 rfl ?_
      refine er_getf d_Ma_callMethod_156 f_Ma_callMethod_31 hX rfl ?_
      refine er_iload_n d_Ma_callMethod_159 rfl ?_
      refine er_iload d_Ma_callMethod_160 rfl ?_
      refine er_iaddN d_Ma_callMethod_162 ?_
      refine er_ialdQ (v := (V (7 + b + i))) d_Ma_callMethod_163 t2 (by omega) (by omega) ((hA i (by omega)).2) ?_
      refine er_callV (As := [.int (nI i), .int (en (R (7 + b + i))), .int (V (7 + b + i))]) d_Ma_callMethod_164 k_Ma_callMethod_69 hX rfl rfl rfl (Nat.le_of_ble_eq_true rfl) (by decide) (by decide) (ma_local (t := t + 1) (i := i) (y := R (7 + b + i)) (v := V (7 + b + i)) hl hX t1 t2 (by omega) (by omega)) ?_
      show jl_E l G m_Ma_callMethod (0, 0) 167 [some (.ref 13), some (.int (nI n)), some (.int (nI c)), some (.int (nI (t * 12 + 7 + b))), some (.ref a2), some (.int (nI i))] [] ((σ.set (20) (.inl (0, 144, .inl (fun j => en ((va_up ty ((t + 1) * 12 + i) (R (7 + b + i))) j))))).set (21) (.inl (0, 144, .inl (upd va ((t + 1) * 12 + i) (V (7 + b + i)))))) P
      refine er_iinc ((nI (i + 1))) d_Ma_callMethod_167 (by decide) rfl (jl_inc _) ?_
      show jl_E l G m_Ma_callMethod (0, 0) 170 [some (.ref 13), some (.int (nI n)), some (.int (nI c)), some (.int (nI (t * 12 + 7 + b))), some (.ref a2), some (.int (nI (i + 1)))] [] ((σ.set (20) (.inl (0, 144, .inl (fun j => en ((va_up ty ((t + 1) * 12 + i) (R (7 + b + i))) j))))).set (21) (.inl (0, 144, .inl (upd va ((t + 1) * 12 + i) (V (7 + b + i)))))) P
      refine er_goto 137 d_Ma_callMethod_170 (by decide) ?_
      exact ihn (i + 1) _ _ _ (by omega) (by omega) (jl_sn (by decide) (jl_sn (by decide) hX)) (jl_sn (by decide) (jl_sn (by decide) u1)) (jl_sn (by decide) (jl_sn (by decide) u2)) (jl_sn (by decide) (jl_ss t1)) (jl_ss (jl_sn (by decide) t2)) ⟨(jl_sn (by decide) (jl_sn (by decide) s0)), (jl_sn (by decide) (jl_sn (by decide) s1)), (jl_sn (by decide) (jl_sn (by decide) s2)), (jl_sn (by decide) (jl_sn (by decide) s3))⟩ ((hF.set (by omega)).set (by omega)) (by have z := hx.loc (i := i) (y := R (7 + b + i)) (v := V (7 + b + i)) (by omega) ((hA i (by omega)).1 ▸ hx.2.2.2 _); rw [cwi_s (by omega), cwj_s (by omega)] at z; exact z) (fun j hj => ⟨(va_up_ne _ _ (by omega)).trans (hA j hj).1, (if_neg (by omega)).trans (hA j hj).2⟩)
theorem d_Ma_callMethod_0 : decode m_Ma_callMethod.2.1 0 = .ok (.aload_n 0, 1) := by decide +kernel
theorem f_Ma_callMethod_54 : jl_fd m_Ma_callMethod 54 1 1 = true := by decide +kernel
theorem d_Ma_callMethod_1 : decode m_Ma_callMethod.2.1 1 = .ok (.getfield 54, 3) := by decide +kernel
theorem d_Ma_callMethod_4 : decode m_Ma_callMethod.2.1 4 = .ok (.bipush 14, 2) := by decide +kernel
theorem d_Ma_callMethod_6 : decode m_Ma_callMethod.2.1 6 = .ok (.iload_n 1, 1) := by decide +kernel
theorem k_Ma_callMethod_124 : jl_cv m_Ma_callMethod m_Ck_takes 124 2 = true := by decide +kernel
theorem d_Ma_callMethod_7 : decode m_Ma_callMethod.2.1 7 = .ok (.invokevirtual 124, 3) := by decide +kernel
theorem d_Ma_callMethod_10 : decode m_Ma_callMethod.2.1 10 = .ok (.iconst 1, 1) := by decide +kernel
theorem d_Ma_callMethod_11 : decode m_Ma_callMethod.2.1 11 = .ok (.isub, 1) := by decide +kernel
theorem d_Ma_callMethod_12 : decode m_Ma_callMethod.2.1 12 = .ok (.istore_n 2, 1) := by decide +kernel
theorem d_Ma_callMethod_13 : decode m_Ma_callMethod.2.1 13 = .ok (.aload_n 0, 1) := by decide +kernel
theorem f_Ma_callMethod_34 : jl_fd m_Ma_callMethod 34 1 7 = true := by decide +kernel
theorem d_Ma_callMethod_14 : decode m_Ma_callMethod.2.1 14 = .ok (.getfield 34, 3) := by decide +kernel
theorem d_Ma_callMethod_17 : decode m_Ma_callMethod.2.1 17 = .ok (.bipush 12, 2) := by decide +kernel
theorem d_Ma_callMethod_19 : decode m_Ma_callMethod.2.1 19 = .ok (.imul, 1) := by decide +kernel
theorem d_Ma_callMethod_20 : decode m_Ma_callMethod.2.1 20 = .ok (.bipush 7, 2) := by decide +kernel
theorem d_Ma_callMethod_22 : decode m_Ma_callMethod.2.1 22 = .ok (.iadd, 1) := by decide +kernel
theorem d_Ma_callMethod_23 : decode m_Ma_callMethod.2.1 23 = .ok (.aload_n 0, 1) := by decide +kernel
theorem d_Ma_callMethod_24 : decode m_Ma_callMethod.2.1 24 = .ok (.getfield 28, 3) := by decide +kernel
theorem d_Ma_callMethod_27 : decode m_Ma_callMethod.2.1 27 = .ok (.aload_n 0, 1) := by decide +kernel
theorem d_Ma_callMethod_28 : decode m_Ma_callMethod.2.1 28 = .ok (.getfield 34, 3) := by decide +kernel
theorem d_Ma_callMethod_31 : decode m_Ma_callMethod.2.1 31 = .ok (.bipush 12, 2) := by decide +kernel
theorem d_Ma_callMethod_33 : decode m_Ma_callMethod.2.1 33 = .ok (.imul, 1) := by decide +kernel
theorem d_Ma_callMethod_34 : decode m_Ma_callMethod.2.1 34 = .ok (.bipush 6, 2) := by decide +kernel
theorem d_Ma_callMethod_36 : decode m_Ma_callMethod.2.1 36 = .ok (.iadd, 1) := by decide +kernel
theorem d_Ma_callMethod_37 : decode m_Ma_callMethod.2.1 37 = .ok (.iaload, 1) := by decide +kernel
theorem d_Ma_callMethod_38 : decode m_Ma_callMethod.2.1 38 = .ok (.iadd, 1) := by decide +kernel
theorem d_Ma_callMethod_39 : decode m_Ma_callMethod.2.1 39 = .ok (.iconst 1, 1) := by decide +kernel
theorem d_Ma_callMethod_40 : decode m_Ma_callMethod.2.1 40 = .ok (.isub, 1) := by decide +kernel
theorem d_Ma_callMethod_41 : decode m_Ma_callMethod.2.1 41 = .ok (.iload_n 2, 1) := by decide +kernel
theorem d_Ma_callMethod_42 : decode m_Ma_callMethod.2.1 42 = .ok (.isub, 1) := by decide +kernel
theorem d_Ma_callMethod_43 : decode m_Ma_callMethod.2.1 43 = .ok (.istore_n 3, 1) := by decide +kernel
theorem d_Ma_callMethod_44 : decode m_Ma_callMethod.2.1 44 = .ok (.aload_n 0, 1) := by decide +kernel
theorem d_Ma_callMethod_45 : decode m_Ma_callMethod.2.1 45 = .ok (.getfield 28, 3) := by decide +kernel
theorem d_Ma_callMethod_48 : decode m_Ma_callMethod.2.1 48 = .ok (.aload_n 0, 1) := by decide +kernel
theorem d_Ma_callMethod_49 : decode m_Ma_callMethod.2.1 49 = .ok (.getfield 34, 3) := by decide +kernel
theorem d_Ma_callMethod_52 : decode m_Ma_callMethod.2.1 52 = .ok (.bipush 12, 2) := by decide +kernel
theorem d_Ma_callMethod_54 : decode m_Ma_callMethod.2.1 54 = .ok (.imul, 1) := by decide +kernel
theorem d_Ma_callMethod_55 : decode m_Ma_callMethod.2.1 55 = .ok (.bipush 6, 2) := by decide +kernel
theorem d_Ma_callMethod_57 : decode m_Ma_callMethod.2.1 57 = .ok (.iadd, 1) := by decide +kernel
theorem d_Ma_callMethod_58 : decode m_Ma_callMethod.2.1 58 = .ok (.dup2, 1) := by decide +kernel
theorem d_Ma_callMethod_59 : decode m_Ma_callMethod.2.1 59 = .ok (.iaload, 1) := by decide +kernel
theorem d_Ma_callMethod_60 : decode m_Ma_callMethod.2.1 60 = .ok (.iconst 1, 1) := by decide +kernel
theorem d_Ma_callMethod_61 : decode m_Ma_callMethod.2.1 61 = .ok (.iload_n 2, 1) := by decide +kernel
theorem d_Ma_callMethod_62 : decode m_Ma_callMethod.2.1 62 = .ok (.iadd, 1) := by decide +kernel
theorem d_Ma_callMethod_63 : decode m_Ma_callMethod.2.1 63 = .ok (.isub, 1) := by decide +kernel
theorem d_Ma_callMethod_64 : decode m_Ma_callMethod.2.1 64 = .ok (.iastore, 1) := by decide +kernel
theorem d_Ma_callMethod_65 : decode m_Ma_callMethod.2.1 65 = .ok (.aload_n 0, 1) := by decide +kernel
theorem d_Ma_callMethod_66 : decode m_Ma_callMethod.2.1 66 = .ok (.getfield 28, 3) := by decide +kernel
theorem d_Ma_callMethod_69 : decode m_Ma_callMethod.2.1 69 = .ok (.iload_n 3, 1) := by decide +kernel
theorem d_Ma_callMethod_70 : decode m_Ma_callMethod.2.1 70 = .ok (.iaload, 1) := by decide +kernel
theorem d_Ma_callMethod_71 : decode m_Ma_callMethod.2.1 71 = .ok (.iconst 2, 1) := by decide +kernel
theorem d_Ma_callMethod_72 : decode m_Ma_callMethod.2.1 72 = .ok (.if_icmp .ne 11, 3) := by decide +kernel
theorem d_Ma_callMethod_75 : decode m_Ma_callMethod.2.1 75 = .ok (.aload_n 0, 1) := by decide +kernel
theorem d_Ma_callMethod_76 : decode m_Ma_callMethod.2.1 76 = .ok (.iconst 2, 1) := by decide +kernel
theorem d_Ma_callMethod_77 : decode m_Ma_callMethod.2.1 77 = .ok (.iconst (-1), 1) := by decide +kernel
theorem d_Ma_callMethod_78 : decode m_Ma_callMethod.2.1 78 = .ok (.iconst (-1), 1) := by decide +kernel
theorem k_Ma_callMethod_118 : jl_cv m_Ma_callMethod m_Ma_raise 118 3 = true := by decide +kernel
theorem d_Ma_callMethod_79 : decode m_Ma_callMethod.2.1 79 = .ok (.invokevirtual 118, 3) := by decide +kernel
theorem d_Ma_callMethod_82 : decode m_Ma_callMethod.2.1 82 = .ok (.return_, 1) := by decide +kernel
theorem ma_call_n (hl : l.stackTraces = false) {P : jl_O → jl_S → Prop}  (hk : KB σ0 mt σ (7 + (b + 1 + c)) t m p (R) (V) (fs) (H) su dt dq aw) (hwx : WX σ0 tb pr ow fi ft mt sg D MP FH) (hmt : MtOk mt) (hok : WoOk tb pr ow fi) (ht : t < 12) (hh : R 6 = some (b + 1 + c)) (hb : b + 1 + c ≤ 5) (hc2 : c ≤ 2) (hn : n < 2 ^ 31) (hts : tks sg 14 (nI n) = 1 + c) (hD : ∀ m, mt m ≠ none → MdOk (D m)) (hp : p < 24) (hpf : ∀ k ∈ fs, k.p < 24) (hy : R (7 + b) = some 2) (hG : ∀ f' fs' σ', rse pr D (none) (-1) (⟨m, p, R, V⟩ :: fs) = some (f' :: fs') → KB σ0 mt σ' (7 + hgt f'.R) fs'.length f'.m f'.p f'.R f'.V fs' H su dt dq aw → P (.inl none) σ') (hE : rse pr D (none) (-1) (⟨m, p, R, V⟩ :: fs) = none → ∀ σ', KZ σ0 σ' H (nI 2) (nI 0) dq aw → P (.inl none) σ') : jl_mE l G m_Ma_callMethod [.ref 13, .int (nI n)] σ P := by
  obtain ⟨uw, ps, ty, va, hX, u1, u2, t1, t2, hS, hx, hto, hF⟩ := id hk
  obtain ⟨s0, s1, s2, s3⟩ := id hS
  obtain ⟨⟨⟨a, hma, hua⟩, hps, hty, hva⟩, hfs, hln, hob⟩ := id hx
  have hma : mt m = some a := hma
  have hps : ps t = p := hps
  have hty : ∀ j, j < _ → ty (t * 12 + j) = R j := hty
  have hva : ∀ j, j < _ → j ≠ 6 → va (t * 12 + j) = V j := hva
  have hRo := hx.rob
  have hw := (hwx.fr hF hmt).1
  obtain ⟨hW, h2, h3, h4, h5w, h6w, h7⟩ := id hw
  have hc8 := (hwx.fr hF hmt).2.1
  have hsg := (hwx.fr hF hmt).2.2.1
  have hc := hc8
  have hh6 : ty (t * 12 + 6) = some (b + 1 + c) := (hty 6 (by omega)).trans hh
  have hT0 : ty (t * 12 + 7 + b) = R (7 + b) := by rw [show t * 12 + 7 + b = t * 12 + (7 + b) by omega]; exact hty _ (by omega)
  refine jl_ofE (as := [.ref 13, .int (nI n)]) rfl (by decide) hl (jl_cc rfl (jl_cc rfl jl_ca)) (Nat.le_of_ble_eq_true rfl) ?_
  show jl_E l G m_Ma_callMethod (0, 0) 0 [some (.ref 13), some (.int (nI n)), none, none, none, none] [] (σ) P
  refine er_aload_n d_Ma_callMethod_0 rfl ?_
  refine er_getf d_Ma_callMethod_1 f_Ma_callMethod_54 hX rfl ?_
  refine er_bipush ((nI (14))) d_Ma_callMethod_4 (by decide) ?_
  refine er_iload_n d_Ma_callMethod_6 rfl ?_
  refine er_callV (As := [.int (nI 14), .int (nI n)]) d_Ma_callMethod_7 k_Ma_callMethod_124 hc rfl rfl rfl (Nat.le_of_ble_eq_true rfl) (by decide) (by decide) ((by have z := ck_takes (G := G) (x := nI n) hl hc hw hok hsg (show 14 < 26 by decide); rw [hts] at z; exact z)) ?_
  show jl_E l G m_Ma_callMethod (0, 0) 10 [some (.ref 13), some (.int (nI n)), none, none, none, none] [.int (nI (1 + c))] (σ) P
  refine er_iconst ((nI (1))) d_Ma_callMethod_10 (by decide) ?_
  refine er_isubN d_Ma_callMethod_11 (by omega) ?_
  rw [show (1 + c) - (1) = c by omega]
  show jl_E l G m_Ma_callMethod (0, 0) 12 [some (.ref 13), some (.int (nI n)), none, none, none, none] [.int (nI c)] (σ) P
  refine er_istore_n d_Ma_callMethod_12 (by decide) ?_
  show jl_E l G m_Ma_callMethod (0, 0) 13 [some (.ref 13), some (.int (nI n)), some (.int (nI c)), none, none, none] [] (σ) P
  refine er_aload_n d_Ma_callMethod_13 rfl ?_
  refine er_getf d_Ma_callMethod_14 f_Ma_callMethod_34 hX rfl ?_
  refine er_bipush ((nI (12))) d_Ma_callMethod_17 (by decide) ?_
  refine er_imulN d_Ma_callMethod_19 ?_
  refine er_bipush ((nI (7))) d_Ma_callMethod_20 (by decide) ?_
  refine er_iaddN d_Ma_callMethod_22 ?_
  refine er_aload_n d_Ma_callMethod_23 rfl ?_
  refine er_getf d_Ma_callMethod_24 f_Ma_callMethod_28 hX rfl ?_
  refine er_aload_n d_Ma_callMethod_27 rfl ?_
  refine er_getf d_Ma_callMethod_28 f_Ma_callMethod_34 hX rfl ?_
  refine er_bipush ((nI (12))) d_Ma_callMethod_31 (by decide) ?_
  refine er_imulN d_Ma_callMethod_33 ?_
  refine er_bipush ((nI (6))) d_Ma_callMethod_34 (by decide) ?_
  refine er_iaddN d_Ma_callMethod_36 ?_
  refine er_ialdQ (v := (nI (b + 1 + c))) d_Ma_callMethod_37 t1 (by omega) (by omega) (congrArg en hh6) ?_
  refine er_iaddN d_Ma_callMethod_38 ?_
  refine er_iconst ((nI (1))) d_Ma_callMethod_39 (by decide) ?_
  refine er_isubN d_Ma_callMethod_40 (by omega) ?_
  refine er_iload_n d_Ma_callMethod_41 rfl ?_
  refine er_isubN d_Ma_callMethod_42 (by omega) ?_
  rw [show (((((t) * (12)) + (7)) + (b + 1 + c)) - (1)) - (c) = t * 12 + 7 + b by omega]
  show jl_E l G m_Ma_callMethod (0, 0) 43 [some (.ref 13), some (.int (nI n)), some (.int (nI c)), none, none, none] [.int (nI (t * 12 + 7 + b))] (σ) P
  refine er_istore_n d_Ma_callMethod_43 (by decide) ?_
  show jl_E l G m_Ma_callMethod (0, 0) 44 [some (.ref 13), some (.int (nI n)), some (.int (nI c)), some (.int (nI (t * 12 + 7 + b))), none, none] [] (σ) P
  refine er_aload_n d_Ma_callMethod_44 rfl ?_
  refine er_getf d_Ma_callMethod_45 f_Ma_callMethod_28 hX rfl ?_
  refine er_aload_n d_Ma_callMethod_48 rfl ?_
  refine er_getf d_Ma_callMethod_49 f_Ma_callMethod_34 hX rfl ?_
  refine er_bipush ((nI (12))) d_Ma_callMethod_52 (by decide) ?_
  refine er_imulN d_Ma_callMethod_54 ?_
  refine er_bipush ((nI (6))) d_Ma_callMethod_55 (by decide) ?_
  refine er_iaddN d_Ma_callMethod_57 ?_
  refine er_dup2 d_Ma_callMethod_58 rfl rfl ?_
  refine er_ialdQ (v := (nI (b + 1 + c))) d_Ma_callMethod_59 t1 (by omega) (by omega) (congrArg en hh6) ?_
  refine er_iconst ((nI (1))) d_Ma_callMethod_60 (by decide) ?_
  refine er_iload_n d_Ma_callMethod_61 rfl ?_
  refine er_iaddN d_Ma_callMethod_62 ?_
  refine er_isubN d_Ma_callMethod_63 (by omega) ?_
  rw [show (b + 1 + c) - ((1) + (c)) = b by omega]
  show jl_E l G m_Ma_callMethod (0, 0) 64 [some (.ref 13), some (.int (nI n)), some (.int (nI c)), some (.int (nI (t * 12 + 7 + b))), none, none] [.int (nI b), .int (nI (((t) * (12)) + (6))), .ref 20] (σ) P
  refine er_iastN d_Ma_callMethod_64 t1 (by omega) (by omega) ?_
  rw [show upd (fun j => en (ty j)) (((t) * (12)) + (6)) ((nI (b))) = (fun j => en ((va_up ty (((t) * (12)) + (6)) ((some (b)))) j)) from en_up ty (((t) * (12)) + (6)) ((some (b)))]
  show jl_E l G m_Ma_callMethod (0, 0) 65 [some (.ref 13), some (.int (nI n)), some (.int (nI c)), some (.int (nI (t * 12 + 7 + b))), none, none] [] (σ.set (20) (.inl (0, 144, .inl (fun j => en ((va_up ty (((t) * (12)) + (6)) ((some (b)))) j))))) P
  refine er_aload_n d_Ma_callMethod_65 rfl ?_
  refine er_getf d_Ma_callMethod_66 f_Ma_callMethod_28 (jl_sn (by decide) hX) rfl ?_
  refine er_iload_n d_Ma_callMethod_69 rfl ?_
  refine er_ialdQ (v := (nI (2))) d_Ma_callMethod_70 (jl_ss t1) (by omega) (by omega) ((congrArg en ((va_up_ne _ _ (by omega)).trans (hT0))).trans (congrArg en hy)) ?_
  refine er_iconst ((nI (2))) d_Ma_callMethod_71 (by decide) ?_
  refine er_icmp_ne 83 d_Ma_callMethod_72 (by decide) (fun z => absurd rfl z) (fun _ => ?_)
  refine er_aload_n d_Ma_callMethod_75 rfl ?_
  refine er_iconst ((nI (2))) d_Ma_callMethod_76 (by decide) ?_
  refine er_iconst ((-1)) d_Ma_callMethod_77 (by decide) ?_
  refine er_iconst ((-1)) d_Ma_callMethod_78 (by decide) ?_
  refine er_callVE (As := [.int (nI 2), .int (-1), .int (-1)]) d_Ma_callMethod_79 k_Ma_callMethod_118 (jl_sn (by decide) hX) rfl rfl rfl (Nat.le_of_ble_eq_true rfl) (by decide) (by decide) (ma_raise (y := none) (v := -1) (n := 2) (R := R) (V := V) hl ⟨_, _, _, _, (jl_sn (by decide) hX), (jl_sn (by decide) u1), (jl_sn (by decide) u2), (jl_ss t1), (jl_sn (by decide) t2), ⟨(jl_sn (by decide) s0), (jl_sn (by decide) s1), (jl_sn (by decide) s2), (jl_sn (by decide) s3)⟩, ((hx.six (y := some b) (ob_s (by omega))).lo (by omega) (fun j hj => ⟨va_up_ne _ _ (by omega), rfl⟩)), hto, (hF.set (by omega))⟩ hwx hmt hok hD (fun _ q => by cases q) (by decide) ht hp hpf (fun f1 fs1 σ e1 h1 => ⟨_, rfl, ?_⟩) (fun e1 σ h1 => ⟨_, rfl, ?_⟩))
  · skip
    show jl_E l G m_Ma_callMethod (0, 0) 82 [some (.ref 13), some (.int (nI n)), some (.int (nI c)), some (.int (nI (t * 12 + 7 + b))), none, none] [] (σ) P
    exact er_vret d_Ma_callMethod_82 rfl (hG f1 fs1 _ e1 h1) (by decide) (by decide)
  · skip
    show jl_E l G m_Ma_callMethod (0, 0) 82 [some (.ref 13), some (.int (nI n)), some (.int (nI c)), some (.int (nI (t * 12 + 7 + b))), none, none] [] (σ) P
    exact er_vret d_Ma_callMethod_82 rfl (hE e1 _ h1) (by decide) (by decide)
theorem FrA.cut {f : Fm} {N N2 : Nat} (h : FrA mt uw ps ty va N t f) (hN : N2 ≤ N) : FrA mt uw ps ty va N2 t f := ⟨h.1, h.2.1, fun j hj => h.2.2.1 j (by omega), fun j hj => h.2.2.2 j (by omega)⟩
theorem d_Ma_callMethod_83 : decode m_Ma_callMethod.2.1 83 = .ok (.aload_n 0, 1) := by decide +kernel
theorem f_Ma_callMethod_50 : jl_fd m_Ma_callMethod 50 1 0 = true := by decide +kernel
theorem d_Ma_callMethod_84 : decode m_Ma_callMethod.2.1 84 = .ok (.getfield 50, 3) := by decide +kernel
theorem d_Ma_callMethod_87 : decode m_Ma_callMethod.2.1 87 = .ok (.aload_n 0, 1) := by decide +kernel
theorem d_Ma_callMethod_88 : decode m_Ma_callMethod.2.1 88 = .ok (.getfield 28, 3) := by decide +kernel
theorem d_Ma_callMethod_91 : decode m_Ma_callMethod.2.1 91 = .ok (.iload_n 3, 1) := by decide +kernel
theorem d_Ma_callMethod_92 : decode m_Ma_callMethod.2.1 92 = .ok (.iaload, 1) := by decide +kernel
theorem d_Ma_callMethod_93 : decode m_Ma_callMethod.2.1 93 = .ok (.bipush 10, 2) := by decide +kernel
theorem d_Ma_callMethod_95 : decode m_Ma_callMethod.2.1 95 = .ok (.isub, 1) := by decide +kernel
theorem d_Ma_callMethod_96 : decode m_Ma_callMethod.2.1 96 = .ok (.iload_n 1, 1) := by decide +kernel
theorem d_Ma_callMethod_97 : decode m_Ma_callMethod.2.1 97 = .ok (.iconst 4, 1) := by decide +kernel
theorem d_Ma_callMethod_98 : decode m_Ma_callMethod.2.1 98 = .ok (.irem, 1) := by decide +kernel
theorem k_Ma_callMethod_127 : jl_cv m_Ma_callMethod m_Wo_found 127 2 = true := by decide +kernel
theorem d_Ma_callMethod_99 : decode m_Ma_callMethod.2.1 99 = .ok (.invokevirtual 127, 3) := by decide +kernel
theorem d_Ma_callMethod_102 : decode m_Ma_callMethod.2.1 102 = .ok (.astore 4, 2) := by decide +kernel
theorem d_Ma_callMethod_104 : decode m_Ma_callMethod.2.1 104 = .ok (.aload 4, 2) := by decide +kernel
theorem d_Ma_callMethod_106 : decode m_Ma_callMethod.2.1 106 = .ok (.ifnull 14, 3) := by decide +kernel
theorem d_Ma_callMethod_109 : decode m_Ma_callMethod.2.1 109 = .ok (.aload_n 0, 1) := by decide +kernel
theorem d_Ma_callMethod_110 : decode m_Ma_callMethod.2.1 110 = .ok (.getfield 34, 3) := by decide +kernel
theorem d_Ma_callMethod_113 : decode m_Ma_callMethod.2.1 113 = .ok (.iconst 1, 1) := by decide +kernel
theorem d_Ma_callMethod_114 : decode m_Ma_callMethod.2.1 114 = .ok (.iadd, 1) := by decide +kernel
theorem d_Ma_callMethod_115 : decode m_Ma_callMethod.2.1 115 = .ok (.bipush 12, 2) := by decide +kernel
theorem d_Ma_callMethod_117 : decode m_Ma_callMethod.2.1 117 = .ok (.if_icmp .lt 11, 3) := by decide +kernel
theorem d_Ma_callMethod_128 : decode m_Ma_callMethod.2.1 128 = .ok (.aload_n 0, 1) := by decide +kernel
theorem d_Ma_callMethod_129 : decode m_Ma_callMethod.2.1 129 = .ok (.aload 4, 2) := by decide +kernel
theorem k_Ma_callMethod_61 : jl_cv m_Ma_callMethod m_Ma_open 61 1 = true := by decide +kernel
theorem d_Ma_callMethod_131 : decode m_Ma_callMethod.2.1 131 = .ok (.invokevirtual 61, 3) := by decide +kernel
theorem d_Ma_callMethod_134 : decode m_Ma_callMethod.2.1 134 = .ok (.iconst 0, 1) := by decide +kernel
theorem d_Ma_callMethod_135 : decode m_Ma_callMethod.2.1 135 = .ok (.istore 5, 2) := by decide +kernel
theorem d_Ma_callMethod_120 : decode m_Ma_callMethod.2.1 120 = .ok (.aload_n 0, 1) := by decide +kernel
theorem d_Ma_callMethod_121 : decode m_Ma_callMethod.2.1 121 = .ok (.bipush 6, 2) := by decide +kernel
theorem d_Ma_callMethod_123 : decode m_Ma_callMethod.2.1 123 = .ok (.iconst 0, 1) := by decide +kernel
theorem k_Ma_callMethod_87 : jl_cv m_Ma_callMethod m_Ma_end 87 2 = true := by decide +kernel
theorem d_Ma_callMethod_124 : decode m_Ma_callMethod.2.1 124 = .ok (.invokevirtual 87, 3) := by decide +kernel
theorem d_Ma_callMethod_127 : decode m_Ma_callMethod.2.1 127 = .ok (.return_, 1) := by decide +kernel
theorem ma_call_o (hl : l.stackTraces = false) {P : jl_O → jl_S → Prop}  (hk : KB σ0 mt σ (7 + (b + 1 + c)) t m p (R) (V) (fs) (H) su dt dq aw) (hwx : WX σ0 tb pr ow fi ft mt sg D MP FH) (hmt : MtOk mt) (hok : WoOk tb pr ow fi) (ht : t < 12) (hh : R 6 = some (b + 1 + c)) (hb : b + 1 + c ≤ 5) (hc2 : c ≤ 2) (hn : n < 2 ^ 31) (hts : tks sg 14 (nI n) = 1 + c) (hD : ∀ m, mt m ≠ none → MdOk (D m)) (hp : p < 24) (hpf : ∀ k ∈ fs, k.p < 24) (hk6 : k < 6) (hy : R (7 + b) = some (10 + k)) (hm2 : mt m2 = some a2) (hfd : found tb pr mt (nI k) (nI ((n) % (4))) = some a2) (hT : t + 1 < 12 → ∀ σ', KB σ0 mt σ' 7 (t + 1) m2 0 (cwR R b c) (cwW V b c) (⟨m, p, va_up R 6 (some b), V⟩ :: fs) H su dt dq aw → P (.inl none) σ') (hF6 : 11 ≤ t → ∀ σ', KZ σ0 σ' H (nI 6) (nI 0) dq aw → P (.inl none) σ') : jl_mE l G m_Ma_callMethod [.ref 13, .int (nI n)] σ P := by
  obtain ⟨uw, ps, ty, va, hX, u1, u2, t1, t2, hS, hx, hto, hF⟩ := id hk
  obtain ⟨s0, s1, s2, s3⟩ := id hS
  obtain ⟨⟨⟨a, hma, hua⟩, hps, hty, hva⟩, hfs, hln, hob⟩ := id hx
  have hma : mt m = some a := hma
  have hps : ps t = p := hps
  have hty : ∀ j, j < _ → ty (t * 12 + j) = R j := hty
  have hva : ∀ j, j < _ → j ≠ 6 → va (t * 12 + j) = V j := hva
  have hRo := hx.rob
  have hw := (hwx.fr hF hmt).1
  obtain ⟨hW, h2, h3, h4, h5w, h6w, h7⟩ := id hw
  have hc8 := (hwx.fr hF hmt).2.1
  have hsg := (hwx.fr hF hmt).2.2.1
  have hc := hc8
  have hh6 : ty (t * 12 + 6) = some (b + 1 + c) := (hty 6 (by omega)).trans hh
  have hT0 : ty (t * 12 + 7 + b) = R (7 + b) := by rw [show t * 12 + 7 + b = t * 12 + (7 + b) by omega]; exact hty _ (by omega)
  have hm2c := (hwx.fr hF hmt).2.2.2 m2 a2 hm2
  have ha2 := (hmt m2 a2 hm2).1
  have hgb : 7 + hgt (va_up R 6 (some b)) ≤ 7 + (b + 1 + c) := by unfold hgt; rw [va_up_self]; show 7 + b ≤ _; omega
  have hg5b : hgt (va_up R 6 (some b)) ≤ 5 := by unfold hgt; rw [va_up_self]; show b ≤ 5; omega
  refine jl_ofE (as := [.ref 13, .int (nI n)]) rfl (by decide) hl (jl_cc rfl (jl_cc rfl jl_ca)) (Nat.le_of_ble_eq_true rfl) ?_
  show jl_E l G m_Ma_callMethod (0, 0) 0 [some (.ref 13), some (.int (nI n)), none, none, none, none] [] (σ) P
  refine er_aload_n d_Ma_callMethod_0 rfl ?_
  refine er_getf d_Ma_callMethod_1 f_Ma_callMethod_54 hX rfl ?_
  refine er_bipush ((nI (14))) d_Ma_callMethod_4 (by decide) ?_
  refine er_iload_n d_Ma_callMethod_6 rfl ?_
  refine er_callV (As := [.int (nI 14), .int (nI n)]) d_Ma_callMethod_7 k_Ma_callMethod_124 hc rfl rfl rfl (Nat.le_of_ble_eq_true rfl) (by decide) (by decide) ((by have z := ck_takes (G := G) (x := nI n) hl hc hw hok hsg (show 14 < 26 by decide); rw [hts] at z; exact z)) ?_
  show jl_E l G m_Ma_callMethod (0, 0) 10 [some (.ref 13), some (.int (nI n)), none, none, none, none] [.int (nI (1 + c))] (σ) P
  refine er_iconst ((nI (1))) d_Ma_callMethod_10 (by decide) ?_
  refine er_isubN d_Ma_callMethod_11 (by omega) ?_
  rw [show (1 + c) - (1) = c by omega]
  show jl_E l G m_Ma_callMethod (0, 0) 12 [some (.ref 13), some (.int (nI n)), none, none, none, none] [.int (nI c)] (σ) P
  refine er_istore_n d_Ma_callMethod_12 (by decide) ?_
  show jl_E l G m_Ma_callMethod (0, 0) 13 [some (.ref 13), some (.int (nI n)), some (.int (nI c)), none, none, none] [] (σ) P
  refine er_aload_n d_Ma_callMethod_13 rfl ?_
  refine er_getf d_Ma_callMethod_14 f_Ma_callMethod_34 hX rfl ?_
  refine er_bipush ((nI (12))) d_Ma_callMethod_17 (by decide) ?_
  refine er_imulN d_Ma_callMethod_19 ?_
  refine er_bipush ((nI (7))) d_Ma_callMethod_20 (by decide) ?_
  refine er_iaddN d_Ma_callMethod_22 ?_
  refine er_aload_n d_Ma_callMethod_23 rfl ?_
  refine er_getf d_Ma_callMethod_24 f_Ma_callMethod_28 hX rfl ?_
  refine er_aload_n d_Ma_callMethod_27 rfl ?_
  refine er_getf d_Ma_callMethod_28 f_Ma_callMethod_34 hX rfl ?_
  refine er_bipush ((nI (12))) d_Ma_callMethod_31 (by decide) ?_
  refine er_imulN d_Ma_callMethod_33 ?_
  refine er_bipush ((nI (6))) d_Ma_callMethod_34 (by decide) ?_
  refine er_iaddN d_Ma_callMethod_36 ?_
  refine er_ialdQ (v := (nI (b + 1 + c))) d_Ma_callMethod_37 t1 (by omega) (by omega) (congrArg en hh6) ?_
  refine er_iaddN d_Ma_callMethod_38 ?_
  refine er_iconst ((nI (1))) d_Ma_callMethod_39 (by decide) ?_
  refine er_isubN d_Ma_callMethod_40 (by omega) ?_
  refine er_iload_n d_Ma_callMethod_41 rfl ?_
  refine er_isubN d_Ma_callMethod_42 (by omega) ?_
  rw [show (((((t) * (12)) + (7)) + (b + 1 + c)) - (1)) - (c) = t * 12 + 7 + b by omega]
  show jl_E l G m_Ma_callMethod (0, 0) 43 [some (.ref 13), some (.int (nI n)), some (.int (nI c)), none, none, none] [.int (nI (t * 12 + 7 + b))] (σ) P
  refine er_istore_n d_Ma_callMethod_43 (by decide) ?_
  show jl_E l G m_Ma_callMethod (0, 0) 44 [some (.ref 13), some (.int (nI n)), some (.int (nI c)), some (.int (nI (t * 12 + 7 + b))), none, none] [] (σ) P
  refine er_aload_n d_Ma_callMethod_44 rfl ?_
  refine er_getf d_Ma_callMethod_45 f_Ma_callMethod_28 hX rfl ?_
  refine er_aload_n d_Ma_callMethod_48 rfl ?_
  refine er_getf d_Ma_callMethod_49 f_Ma_callMethod_34 hX rfl ?_
  refine er_bipush ((nI (12))) d_Ma_callMethod_52 (by decide) ?_
  refine er_imulN d_Ma_callMethod_54 ?_
  refine er_bipush ((nI (6))) d_Ma_callMethod_55 (by decide) ?_
  refine er_iaddN d_Ma_callMethod_57 ?_
  refine er_dup2 d_Ma_callMethod_58 rfl rfl ?_
  refine er_ialdQ (v := (nI (b + 1 + c))) d_Ma_callMethod_59 t1 (by omega) (by omega) (congrArg en hh6) ?_
  refine er_iconst ((nI (1))) d_Ma_callMethod_60 (by decide) ?_
  refine er_iload_n d_Ma_callMethod_61 rfl ?_
  refine er_iaddN d_Ma_callMethod_62 ?_
  refine er_isubN d_Ma_callMethod_63 (by omega) ?_
  rw [show (b + 1 + c) - ((1) + (c)) = b by omega]
  show jl_E l G m_Ma_callMethod (0, 0) 64 [some (.ref 13), some (.int (nI n)), some (.int (nI c)), some (.int (nI (t * 12 + 7 + b))), none, none] [.int (nI b), .int (nI (((t) * (12)) + (6))), .ref 20] (σ) P
  refine er_iastN d_Ma_callMethod_64 t1 (by omega) (by omega) ?_
  rw [show upd (fun j => en (ty j)) (((t) * (12)) + (6)) ((nI (b))) = (fun j => en ((va_up ty (((t) * (12)) + (6)) ((some (b)))) j)) from en_up ty (((t) * (12)) + (6)) ((some (b)))]
  show jl_E l G m_Ma_callMethod (0, 0) 65 [some (.ref 13), some (.int (nI n)), some (.int (nI c)), some (.int (nI (t * 12 + 7 + b))), none, none] [] (σ.set (20) (.inl (0, 144, .inl (fun j => en ((va_up ty (((t) * (12)) + (6)) ((some (b)))) j))))) P
  refine er_aload_n d_Ma_callMethod_65 rfl ?_
  refine er_getf d_Ma_callMethod_66 f_Ma_callMethod_28 (jl_sn (by decide) hX) rfl ?_
  refine er_iload_n d_Ma_callMethod_69 rfl ?_
  refine er_ialdQ (v := (nI (10 + k))) d_Ma_callMethod_70 (jl_ss t1) (by omega) (by omega) ((congrArg en ((va_up_ne _ _ (by omega)).trans (hT0))).trans (congrArg en hy)) ?_
  refine er_iconst ((nI (2))) d_Ma_callMethod_71 (by decide) ?_
  refine er_icmp_ne 83 d_Ma_callMethod_72 (by decide) (fun _ => ?_) (fun z => absurd z (ne10 hk6 (by decide)))
  refine er_aload_n d_Ma_callMethod_83 rfl ?_
  refine er_getf d_Ma_callMethod_84 f_Ma_callMethod_50 (jl_sn (by decide) hX) rfl ?_
  refine er_aload_n d_Ma_callMethod_87 rfl ?_
  refine er_getf d_Ma_callMethod_88 f_Ma_callMethod_28 (jl_sn (by decide) hX) rfl ?_
  refine er_iload_n d_Ma_callMethod_91 rfl ?_
  refine er_ialdQ (v := (nI (10 + k))) d_Ma_callMethod_92 (jl_ss t1) (by omega) (by omega) ((congrArg en ((va_up_ne _ _ (by omega)).trans (hT0))).trans (congrArg en hy)) ?_
  refine er_bipush ((nI (10))) d_Ma_callMethod_93 (by decide) ?_
  refine er_isubN d_Ma_callMethod_95 (by omega) ?_
  rw [show (10 + k) - (10) = k by omega]
  show jl_E l G m_Ma_callMethod (0, 0) 96 [some (.ref 13), some (.int (nI n)), some (.int (nI c)), some (.int (nI (t * 12 + 7 + b))), none, none] [.int (nI k), .ref 1] (σ.set (20) (.inl (0, 144, .inl (fun j => en ((va_up ty (((t) * (12)) + (6)) ((some (b)))) j))))) P
  refine er_iload_n d_Ma_callMethod_96 rfl ?_
  refine er_iconst ((nI (4))) d_Ma_callMethod_97 (by decide) ?_
  refine er_iremN d_Ma_callMethod_98 (by omega) (by omega) (by omega) ?_
  refine er_callV (As := [.int (nI k), .int (nI ((n) % (4)))]) d_Ma_callMethod_99 k_Ma_callMethod_127 (jl_sn (by decide) hW) rfl rfl rfl (Nat.le_of_ble_eq_true rfl) (by decide) (by decide) (wo_foundE hl (hwx.fr (hF.set (by omega)) hmt).1 hok.1 hfd) ?_
  show jl_E l G m_Ma_callMethod (0, 0) 102 [some (.ref 13), some (.int (nI n)), some (.int (nI c)), some (.int (nI (t * 12 + 7 + b))), none, none] [.ref a2] (σ.set (20) (.inl (0, 144, .inl (fun j => en ((va_up ty (((t) * (12)) + (6)) ((some (b)))) j))))) P
  refine er_astore d_Ma_callMethod_102 (by decide) ?_
  show jl_E l G m_Ma_callMethod (0, 0) 104 [some (.ref 13), some (.int (nI n)), some (.int (nI c)), some (.int (nI (t * 12 + 7 + b))), some (.ref a2), none] [] (σ.set (20) (.inl (0, 144, .inl (fun j => en ((va_up ty (((t) * (12)) + (6)) ((some (b)))) j))))) P
  refine er_aload d_Ma_callMethod_104 rfl ?_
  refine er_ifnull d_Ma_callMethod_106 ?_
  refine er_aload_n d_Ma_callMethod_109 rfl ?_
  refine er_getf d_Ma_callMethod_110 f_Ma_callMethod_34 (jl_sn (by decide) hX) rfl ?_
  refine er_iconst ((nI (1))) d_Ma_callMethod_113 (by decide) ?_
  refine er_iaddN d_Ma_callMethod_114 ?_
  refine er_bipush ((nI (12))) d_Ma_callMethod_115 (by decide) ?_
  refine er_icmp_ltN 128 d_Ma_callMethod_117 (by decide) (by omega) (by omega) (fun c1 => ?_) (fun c1 => ?_)
  · refine er_aload_n d_Ma_callMethod_128 rfl ?_
    refine er_aload d_Ma_callMethod_129 rfl ?_
    refine er_callVE (As := [.ref a2]) d_Ma_callMethod_131 k_Ma_callMethod_61 (jl_sn (by decide) hX) rfl rfl rfl (Nat.le_of_ble_eq_true rfl) (by decide) (by decide) (ma_open (e := t + 1) (tp := nI t) (a := a2) hl (jl_sn (by decide) hX) (jl_sn (by decide) u1) (jl_sn (by decide) u2) (jl_ss t1) (jl_sn (by decide) t2) ((hwx.fr (hF.set (by omega)) hmt).2.2.2 m2 a2 hm2) (nI_add ..) (by omega) ha2 (fun σ hX1 u11 u21 t11 t21 hL1 hf1 => ⟨_, rfl, ?_⟩))
    have hF1 : FrK σ0 σ := ⟨hL1.trans (hF.set (by omega)).1, fun i hi => (hf1 i (by omega) (by omega) (by omega) (by omega) (by omega)).trans ((hF.set (by omega)).2 i hi)⟩
    have hS1 : StAt σ H.sz H.ty H.va H.n := ⟨(hf1 14 (by decide) (by decide) (by decide) (by decide) (by decide)).trans (jl_sn (by decide) s0), (hf1 15 (by decide) (by decide) (by decide) (by decide) (by decide)).trans (jl_sn (by decide) s1), (hf1 16 (by decide) (by decide) (by decide) (by decide) (by decide)).trans (jl_sn (by decide) s2), (hf1 17 (by decide) (by decide) (by decide) (by decide) (by decide)).trans (jl_sn (by decide) s3)⟩
    have hx1 := FX.opn (R := R) (V := V) (b := b) (e := t + 1) (m := m2) (F := ⟨m, p, va_up R 6 (some b), V⟩ :: fs) ⟨(by rw [hln]; exact (hx.six (y := some b) (ob_s (by omega))).1.cut hgb), hg5b, (hx.six (y := some b) (ob_s (by omega))).2.1⟩ (by rw [List.length_cons, hln]) (obU_up hob (ob_s (by omega))) hm2
    have hA1 : ∀ i, i ≤ c → va_up (wr (va_up ty (t * 12 + 6) (some b)) ((t + 1) * 12) 6 (fun _ => none)) ((t + 1) * 12 + 6) (some 0) (t * 12 + 7 + b + i) = R (7 + b + i) ∧ wr va ((t + 1) * 12) 6 (fun _ => -1) (t * 12 + 7 + b + i) = V (7 + b + i) := fun i hi => ⟨by rw [va_up_ne _ _ (by omega), wr_lo (by omega), va_up_ne _ _ (by omega), show t * 12 + 7 + b + i = t * 12 + (7 + b + i) by omega]; exact hty _ (by omega), by rw [wr_lo (by omega), show t * 12 + 7 + b + i = t * 12 + (7 + b + i) by omega]; exact hva _ (by omega) (by omega)⟩
    show jl_E l G m_Ma_callMethod (0, 0) 134 [some (.ref 13), some (.int (nI n)), some (.int (nI c)), some (.int (nI (t * 12 + 7 + b))), some (.ref a2), none] [] (σ) P
    refine er_iconst ((nI (0))) d_Ma_callMethod_134 (by decide) ?_
    refine er_istore d_Ma_callMethod_135 (by decide) ?_
    show jl_E l G m_Ma_callMethod (0, 0) 137 [some (.ref 13), some (.int (nI n)), some (.int (nI c)), some (.int (nI (t * 12 + 7 + b))), some (.ref a2), some (.int (nI 0))] [] (σ) P
    exact ma_call_l (m2 := m2) (c := c) hl (by omega) hc2 (by omega) hto (hT (by omega)) (c + 2) 0 σ _ _ (by omega) (by omega) hX1 u11 u21 t11 t21 hS1 hF1 hx1 hA1
  · refine er_aload_n d_Ma_callMethod_120 rfl ?_
    refine er_bipush ((nI (6))) d_Ma_callMethod_121 (by decide) ?_
    refine er_iconst ((nI (0))) d_Ma_callMethod_123 (by decide) ?_
    refine er_callV (As := [.int (nI 6), .int (nI 0)]) d_Ma_callMethod_124 k_Ma_callMethod_87 (jl_sn (by decide) hX) rfl rfl rfl (Nat.le_of_ble_eq_true rfl) (by decide) (by decide) (ma_end hl (jl_sn (by decide) hX)) ?_
    show jl_E l G m_Ma_callMethod (0, 0) 127 [some (.ref 13), some (.int (nI n)), some (.int (nI c)), some (.int (nI (t * 12 + 7 + b))), some (.ref a2), none] [] ((σ.set (20) (.inl (0, 144, .inl (fun j => en ((va_up ty (((t) * (12)) + (6)) ((some (b)))) j))))).set (13) (.inr (1, [.ref 1, .ref 8, .ref 14, .ref 18, .ref 19, .ref 20, .ref 21, .int (nI t), .int (nI 6), .int (nI 0), .int (dq), .int (aw)]))) P
    exact er_vret d_Ma_callMethod_127 rfl (hF6 (by omega) _ ⟨_, _, _, _, _, (jl_ss (jl_sn (by decide) hX)), (jl_sn (by decide) (jl_sn (by decide) u1)), (jl_sn (by decide) (jl_sn (by decide) u2)), (jl_sn (by decide) (jl_ss t1)), (jl_sn (by decide) (jl_sn (by decide) t2)), ⟨(jl_sn (by decide) (jl_sn (by decide) s0)), (jl_sn (by decide) (jl_sn (by decide) s1)), (jl_sn (by decide) (jl_sn (by decide) s2)), (jl_sn (by decide) (jl_sn (by decide) s3))⟩, obU_up hob (ob_s (by omega)), hto, ((hF.set (by omega)).set (by omega))⟩) (by decide) (by decide)
end JMi
