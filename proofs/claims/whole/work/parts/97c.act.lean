/-! the class Machine: actOnStack and below it (wip/gen/p97c.py) -/
section JMc
variable {l : Launch} {G : jl_G} {σ : jl_S}
variable {tb : Nat → Bool} {pr : Nat → Option Nat} {ow fi ft : Nat → Nat} {mt : Nat → Option Nat}
variable {σ0 : jl_S} {N t m p b : Nat} {R : Rw} {V : Nat → Int32} {fs : List Fm} {H : Hp} {su dt dq aw x : Int32}
variable {sg : Int32 → Option Sg} {D : Nat → MDt} {MP : Nat → Nat → Int32} {FH : Nat → Nat → Bool}
theorem ma_takeA (hl : l.stackTraces = false) {ty : Nat → Option Nat} {va : Nat → Int32} {h : Nat} (hX : MaAt σ (nI t) su dt dq aw) (t1 : σ[20]? = some (.inl (0, 144, .inl fun j => en (ty j)))) (t2 : σ[21]? = some (.inl (0, 144, .inl va))) (ht : t < 12) (hh : ty (t * 12 + 6) = some (h + 1)) (h5 : h + 1 ≤ 5) : jl_m l G m_Ma_take [.ref 13] σ (.inl (some (.int (nI (t * 12 + 7 + h))))) (σ.set 20 (.inl (0, 144, .inl fun j => en (va_up ty (t * 12 + 6) (some h) j)))) := ma_take (h := h + 1) hl hX t1 t2 ht hh (by omega) h5
theorem d_Ma_actOnStack_0 : decode m_Ma_actOnStack.2.1 0 = .ok (.iload_n 1, 1) := by decide +kernel
theorem d_Ma_actOnStack_1 : decode m_Ma_actOnStack.2.1 1 = .ok (.tableswitch 252 0 24 #[115, 123, 157, 240, 240, 240, 240, 252, 252, 252, 181, 252, 252, 252, 252, 252, 252, 252, 252, 246, 246, 246, 246, 189, 196], 115) := by decide +kernel
theorem d_Ma_actOnStack_116 : decode m_Ma_actOnStack.2.1 116 = .ok (.aload_n 0, 1) := by decide +kernel
theorem d_Ma_actOnStack_117 : decode m_Ma_actOnStack.2.1 117 = .ok (.iconst 0, 1) := by decide +kernel
theorem d_Ma_actOnStack_118 : decode m_Ma_actOnStack.2.1 118 = .ok (.iload_n 2, 1) := by decide +kernel
theorem k_Ma_actOnStack_133 : jl_cv m_Ma_actOnStack m_Ma_put 133 2 = true := by decide +kernel
theorem d_Ma_actOnStack_119 : decode m_Ma_actOnStack.2.1 119 = .ok (.invokevirtual 133, 3) := by decide +kernel
theorem d_Ma_actOnStack_122 : decode m_Ma_actOnStack.2.1 122 = .ok (.iconst 0, 1) := by decide +kernel
theorem d_Ma_actOnStack_123 : decode m_Ma_actOnStack.2.1 123 = .ok (.ireturn, 1) := by decide +kernel
theorem ma_act_0 (hl : l.stackTraces = false) {P : jl_O → jl_S → Prop}  (hk : KB σ0 mt σ (7 + b) t m p (R) (V) (fs) (H) su dt dq aw) (ht : t < 12) (hh : R 6 = some (b)) (hb : b ≤ 5) (hp : b < 5) (hT : ∀ σ', KB σ0 mt σ' (8 + b) t m p (psh R b (some 0)) (va_up V (7 + b) x) (fs) (H) su dt dq aw → P (.inl (some (.int (nI 0)))) σ') : jl_mE l G m_Ma_actOnStack [.ref 13, .int (nI 0), .int (x)] σ P := by
  obtain ⟨uw, ps, ty, va, hX, u1, u2, t1, t2, hS, hx, hto, hF⟩ := id hk
  obtain ⟨s0, s1, s2, s3⟩ := id hS
  obtain ⟨⟨⟨a, hma, hua⟩, hps, hty, hva⟩, hfs, hln, hob⟩ := id hx
  have hma : mt m = some a := hma
  have hps : ps t = p := hps
  have hty : ∀ j, j < _ → ty (t * 12 + j) = R j := hty
  have hva : ∀ j, j < _ → j ≠ 6 → va (t * 12 + j) = V j := hva
  have hRo := hx.rob
  have hh6 : ty (t * 12 + 6) = some (b) := (hty 6 (by omega)).trans hh
  refine jl_ofE (as := [.ref 13, .int (nI 0), .int (x)]) rfl (by decide) hl (jl_cc rfl (jl_cc rfl (jl_cc rfl jl_ca))) (Nat.le_of_ble_eq_true rfl) ?_
  show jl_E l G m_Ma_actOnStack (0, 0) 0 [some (.ref 13), some (.int (nI 0)), some (.int (x)), none, none] [] (σ) P
  refine er_iload_n d_Ma_actOnStack_0 rfl ?_
  refine er_tableIn (off := 115) 116 d_Ma_actOnStack_1 (by decide +kernel) (by decide +kernel) (by decide +kernel) (by decide) ?_
  refine er_aload_n d_Ma_actOnStack_116 rfl ?_
  refine er_iconst ((nI (0))) d_Ma_actOnStack_117 (by decide) ?_
  refine er_iload_n d_Ma_actOnStack_118 rfl ?_
  refine er_callV (As := [.int (nI 0), .int (x)]) d_Ma_actOnStack_119 k_Ma_actOnStack_133 hX rfl rfl rfl (Nat.le_of_ble_eq_true rfl) (by decide) (by decide) (ma_put (h := b) (y := (some (0))) (v := (x)) hl hX t1 t2 ht hh6 (by omega)) ?_
  show jl_E l G m_Ma_actOnStack (0, 0) 122 [some (.ref 13), some (.int (nI 0)), some (.int (x)), none, none] [] (((σ.set (20) (.inl (0, 144, .inl (fun j => en ((va_up ty (t * 12 + 7 + b) (some (0))) j))))).set (21) (.inl (0, 144, .inl (upd va (t * 12 + 7 + b) (x))))).set (20) (.inl (0, 144, .inl (fun j => en ((va_up (va_up ty (t * 12 + 7 + b) (some (0))) (t * 12 + 6) (some (b + 1))) j))))) P
  refine er_iconst ((nI (0))) d_Ma_actOnStack_122 (by decide) ?_
  exact er_iret d_Ma_actOnStack_123 rfl (hT _ ⟨_, _, _, _, (jl_sn (by decide) (jl_sn (by decide) (jl_sn (by decide) hX))), (jl_sn (by decide) (jl_sn (by decide) (jl_sn (by decide) u1))), (jl_sn (by decide) (jl_sn (by decide) (jl_sn (by decide) u2))), (jl_ss (jl_sn (by decide) (jl_ss t1))), (jl_sn (by decide) (jl_ss (jl_sn (by decide) t2))), ⟨(jl_sn (by decide) (jl_sn (by decide) (jl_sn (by decide) s0))), (jl_sn (by decide) (jl_sn (by decide) (jl_sn (by decide) s1))), (jl_sn (by decide) (jl_sn (by decide) (jl_sn (by decide) s2))), (jl_sn (by decide) (jl_sn (by decide) (jl_sn (by decide) s3)))⟩, ((((hx).put (i := b) (y := (some (0))) (v := (x)) (by omega) (by omega) (ob_s (by omega)))).cc (by first | rfl | simp only [psh_six, six_six]) (by first | rfl | simp only [psh_six, six_six])), hto, (((hF.set (by omega)).set (by omega)).set (by omega))⟩) (by decide) (by decide)
theorem d_Ma_actOnStack_124 : decode m_Ma_actOnStack.2.1 124 = .ok (.aload_n 0, 1) := by decide +kernel
theorem d_Ma_actOnStack_125 : decode m_Ma_actOnStack.2.1 125 = .ok (.aload_n 0, 1) := by decide +kernel
theorem f_Ma_actOnStack_28 : jl_fd m_Ma_actOnStack 28 1 5 = true := by decide +kernel
theorem d_Ma_actOnStack_126 : decode m_Ma_actOnStack.2.1 126 = .ok (.getfield 28, 3) := by decide +kernel
theorem d_Ma_actOnStack_129 : decode m_Ma_actOnStack.2.1 129 = .ok (.aload_n 0, 1) := by decide +kernel
theorem f_Ma_actOnStack_34 : jl_fd m_Ma_actOnStack 34 1 7 = true := by decide +kernel
theorem d_Ma_actOnStack_130 : decode m_Ma_actOnStack.2.1 130 = .ok (.getfield 34, 3) := by decide +kernel
theorem d_Ma_actOnStack_133 : decode m_Ma_actOnStack.2.1 133 = .ok (.bipush 12, 2) := by decide +kernel
theorem d_Ma_actOnStack_135 : decode m_Ma_actOnStack.2.1 135 = .ok (.imul, 1) := by decide +kernel
theorem d_Ma_actOnStack_136 : decode m_Ma_actOnStack.2.1 136 = .ok (.iload_n 2, 1) := by decide +kernel
theorem d_Ma_actOnStack_137 : decode m_Ma_actOnStack.2.1 137 = .ok (.iadd, 1) := by decide +kernel
theorem d_Ma_actOnStack_138 : decode m_Ma_actOnStack.2.1 138 = .ok (.iaload, 1) := by decide +kernel
theorem d_Ma_actOnStack_139 : decode m_Ma_actOnStack.2.1 139 = .ok (.aload_n 0, 1) := by decide +kernel
theorem f_Ma_actOnStack_31 : jl_fd m_Ma_actOnStack 31 1 6 = true := by decide +kernel
theorem d_Ma_actOnStack_140 : decode m_Ma_actOnStack.2.1 140 = .ok (.getfield 31, 3) := by decide +kernel
theorem d_Ma_actOnStack_143 : decode m_Ma_actOnStack.2.1 143 = .ok (.aload_n 0, 1) := by decide +kernel
theorem d_Ma_actOnStack_144 : decode m_Ma_actOnStack.2.1 144 = .ok (.getfield 34, 3) := by decide +kernel
theorem d_Ma_actOnStack_147 : decode m_Ma_actOnStack.2.1 147 = .ok (.bipush 12, 2) := by decide +kernel
theorem d_Ma_actOnStack_149 : decode m_Ma_actOnStack.2.1 149 = .ok (.imul, 1) := by decide +kernel
theorem d_Ma_actOnStack_150 : decode m_Ma_actOnStack.2.1 150 = .ok (.iload_n 2, 1) := by decide +kernel
theorem d_Ma_actOnStack_151 : decode m_Ma_actOnStack.2.1 151 = .ok (.iadd, 1) := by decide +kernel
theorem d_Ma_actOnStack_152 : decode m_Ma_actOnStack.2.1 152 = .ok (.iaload, 1) := by decide +kernel
theorem d_Ma_actOnStack_153 : decode m_Ma_actOnStack.2.1 153 = .ok (.invokevirtual 133, 3) := by decide +kernel
theorem d_Ma_actOnStack_156 : decode m_Ma_actOnStack.2.1 156 = .ok (.iconst 0, 1) := by decide +kernel
theorem d_Ma_actOnStack_157 : decode m_Ma_actOnStack.2.1 157 = .ok (.ireturn, 1) := by decide +kernel
theorem ma_act_1 (hl : l.stackTraces = false) {P : jl_O → jl_S → Prop} {n : Nat} (hk : KB σ0 mt σ (7 + b) t m p (R) (V) (fs) (H) su dt dq aw) (ht : t < 12) (hh : R 6 = some (b)) (hb : b ≤ 5) (hp : b < 5) (hn : n < 6) (hT : ∀ σ', KB σ0 mt σ' (8 + b) t m p (psh R b (R n)) (va_up V (7 + b) (V n)) (fs) (H) su dt dq aw → P (.inl (some (.int (nI 0)))) σ') : jl_mE l G m_Ma_actOnStack [.ref 13, .int (nI 1), .int (nI n)] σ P := by
  obtain ⟨uw, ps, ty, va, hX, u1, u2, t1, t2, hS, hx, hto, hF⟩ := id hk
  obtain ⟨s0, s1, s2, s3⟩ := id hS
  obtain ⟨⟨⟨a, hma, hua⟩, hps, hty, hva⟩, hfs, hln, hob⟩ := id hx
  have hma : mt m = some a := hma
  have hps : ps t = p := hps
  have hty : ∀ j, j < _ → ty (t * 12 + j) = R j := hty
  have hva : ∀ j, j < _ → j ≠ 6 → va (t * 12 + j) = V j := hva
  have hRo := hx.rob
  have hh6 : ty (t * 12 + 6) = some (b) := (hty 6 (by omega)).trans hh
  refine jl_ofE (as := [.ref 13, .int (nI 1), .int (nI n)]) rfl (by decide) hl (jl_cc rfl (jl_cc rfl (jl_cc rfl jl_ca))) (Nat.le_of_ble_eq_true rfl) ?_
  show jl_E l G m_Ma_actOnStack (0, 0) 0 [some (.ref 13), some (.int (nI 1)), some (.int (nI n)), none, none] [] (σ) P
  refine er_iload_n d_Ma_actOnStack_0 rfl ?_
  refine er_tableIn (off := 123) 124 d_Ma_actOnStack_1 (by decide +kernel) (by decide +kernel) (by decide +kernel) (by decide) ?_
  refine er_aload_n d_Ma_actOnStack_124 rfl ?_
  refine er_aload_n d_Ma_actOnStack_125 rfl ?_
  refine er_getf d_Ma_actOnStack_126 f_Ma_actOnStack_28 hX rfl ?_
  refine er_aload_n d_Ma_actOnStack_129 rfl ?_
  refine er_getf d_Ma_actOnStack_130 f_Ma_actOnStack_34 hX rfl ?_
  refine er_bipush ((nI (12))) d_Ma_actOnStack_133 (by decide) ?_
  refine er_imulN d_Ma_actOnStack_135 ?_
  refine er_iload_n d_Ma_actOnStack_136 rfl ?_
  refine er_iaddN d_Ma_actOnStack_137 ?_
  refine er_ialdQ (v := (en (R n))) d_Ma_actOnStack_138 t1 (by omega) (by omega) (congrArg en (hty n (by omega))) ?_
  refine er_aload_n d_Ma_actOnStack_139 rfl ?_
  refine er_getf d_Ma_actOnStack_140 f_Ma_actOnStack_31 hX rfl ?_
  refine er_aload_n d_Ma_actOnStack_143 rfl ?_
  refine er_getf d_Ma_actOnStack_144 f_Ma_actOnStack_34 hX rfl ?_
  refine er_bipush ((nI (12))) d_Ma_actOnStack_147 (by decide) ?_
  refine er_imulN d_Ma_actOnStack_149 ?_
  refine er_iload_n d_Ma_actOnStack_150 rfl ?_
  refine er_iaddN d_Ma_actOnStack_151 ?_
  refine er_ialdQ (v := (V n)) d_Ma_actOnStack_152 t2 (by omega) (by omega) (hva n (by omega) (by omega)) ?_
  refine er_callV (As := [.int (en (R n)), .int (V n)]) d_Ma_actOnStack_153 k_Ma_actOnStack_133 hX rfl rfl rfl (Nat.le_of_ble_eq_true rfl) (by decide) (by decide) (ma_put (h := b) (y := (R n)) (v := (V n)) hl hX t1 t2 ht hh6 (by omega)) ?_
  show jl_E l G m_Ma_actOnStack (0, 0) 156 [some (.ref 13), some (.int (nI 1)), some (.int (nI n)), none, none] [] (((σ.set (20) (.inl (0, 144, .inl (fun j => en ((va_up ty (t * 12 + 7 + b) (R n)) j))))).set (21) (.inl (0, 144, .inl (upd va (t * 12 + 7 + b) (V n))))).set (20) (.inl (0, 144, .inl (fun j => en ((va_up (va_up ty (t * 12 + 7 + b) (R n)) (t * 12 + 6) (some (b + 1))) j))))) P
  refine er_iconst ((nI (0))) d_Ma_actOnStack_156 (by decide) ?_
  exact er_iret d_Ma_actOnStack_157 rfl (hT _ ⟨_, _, _, _, (jl_sn (by decide) (jl_sn (by decide) (jl_sn (by decide) hX))), (jl_sn (by decide) (jl_sn (by decide) (jl_sn (by decide) u1))), (jl_sn (by decide) (jl_sn (by decide) (jl_sn (by decide) u2))), (jl_ss (jl_sn (by decide) (jl_ss t1))), (jl_sn (by decide) (jl_ss (jl_sn (by decide) t2))), ⟨(jl_sn (by decide) (jl_sn (by decide) (jl_sn (by decide) s0))), (jl_sn (by decide) (jl_sn (by decide) (jl_sn (by decide) s1))), (jl_sn (by decide) (jl_sn (by decide) (jl_sn (by decide) s2))), (jl_sn (by decide) (jl_sn (by decide) (jl_sn (by decide) s3)))⟩, ((((hx).put (i := b) (y := (R n)) (v := (V n)) (by omega) (by omega) (hRo _ (by omega)))).cc (by first | rfl | simp only [psh_six, six_six]) (by first | rfl | simp only [psh_six, six_six])), hto, (((hF.set (by omega)).set (by omega)).set (by omega))⟩) (by decide) (by decide)
theorem d_Ma_actOnStack_158 : decode m_Ma_actOnStack.2.1 158 = .ok (.aload_n 0, 1) := by decide +kernel
theorem k_Ma_actOnStack_121 : jl_cv m_Ma_actOnStack m_Ma_take 121 0 = true := by decide +kernel
theorem d_Ma_actOnStack_159 : decode m_Ma_actOnStack.2.1 159 = .ok (.invokevirtual 121, 3) := by decide +kernel
theorem d_Ma_actOnStack_162 : decode m_Ma_actOnStack.2.1 162 = .ok (.istore_n 3, 1) := by decide +kernel
theorem d_Ma_actOnStack_163 : decode m_Ma_actOnStack.2.1 163 = .ok (.aload_n 0, 1) := by decide +kernel
theorem d_Ma_actOnStack_164 : decode m_Ma_actOnStack.2.1 164 = .ok (.iload_n 2, 1) := by decide +kernel
theorem d_Ma_actOnStack_165 : decode m_Ma_actOnStack.2.1 165 = .ok (.aload_n 0, 1) := by decide +kernel
theorem d_Ma_actOnStack_166 : decode m_Ma_actOnStack.2.1 166 = .ok (.getfield 28, 3) := by decide +kernel
theorem d_Ma_actOnStack_169 : decode m_Ma_actOnStack.2.1 169 = .ok (.iload_n 3, 1) := by decide +kernel
theorem d_Ma_actOnStack_170 : decode m_Ma_actOnStack.2.1 170 = .ok (.iaload, 1) := by decide +kernel
theorem d_Ma_actOnStack_171 : decode m_Ma_actOnStack.2.1 171 = .ok (.aload_n 0, 1) := by decide +kernel
theorem d_Ma_actOnStack_172 : decode m_Ma_actOnStack.2.1 172 = .ok (.getfield 31, 3) := by decide +kernel
theorem d_Ma_actOnStack_175 : decode m_Ma_actOnStack.2.1 175 = .ok (.iload_n 3, 1) := by decide +kernel
theorem d_Ma_actOnStack_176 : decode m_Ma_actOnStack.2.1 176 = .ok (.iaload, 1) := by decide +kernel
theorem k_Ma_actOnStack_69 : jl_cv m_Ma_actOnStack m_Ma_setLocal 69 3 = true := by decide +kernel
theorem d_Ma_actOnStack_177 : decode m_Ma_actOnStack.2.1 177 = .ok (.invokevirtual 69, 3) := by decide +kernel
theorem d_Ma_actOnStack_180 : decode m_Ma_actOnStack.2.1 180 = .ok (.iconst 0, 1) := by decide +kernel
theorem d_Ma_actOnStack_181 : decode m_Ma_actOnStack.2.1 181 = .ok (.ireturn, 1) := by decide +kernel
theorem ma_act_2 (hl : l.stackTraces = false) {P : jl_O → jl_S → Prop} {n : Nat} (hk : KB σ0 mt σ (7 + (b + 1)) t m p (R) (V) (fs) (H) su dt dq aw) (ht : t < 12) (hh : R 6 = some (b + 1)) (hb : b + 1 ≤ 5) (hn : n < 6) (hT : ∀ σ', KB σ0 mt σ' (7 + b) t m p (va_up (va_up R 6 (some b)) n (R (7 + b))) (va_up V n (V (7 + b))) (fs) (H) su dt dq aw → P (.inl (some (.int (nI 0)))) σ') : jl_mE l G m_Ma_actOnStack [.ref 13, .int (nI 2), .int (nI n)] σ P := by
  obtain ⟨uw, ps, ty, va, hX, u1, u2, t1, t2, hS, hx, hto, hF⟩ := id hk
  obtain ⟨s0, s1, s2, s3⟩ := id hS
  obtain ⟨⟨⟨a, hma, hua⟩, hps, hty, hva⟩, hfs, hln, hob⟩ := id hx
  have hma : mt m = some a := hma
  have hps : ps t = p := hps
  have hty : ∀ j, j < _ → ty (t * 12 + j) = R j := hty
  have hva : ∀ j, j < _ → j ≠ 6 → va (t * 12 + j) = V j := hva
  have hRo := hx.rob
  have hh6 : ty (t * 12 + 6) = some (b + 1) := (hty 6 (by omega)).trans hh
  have hT0 : ty (t * 12 + 7 + b) = R (7 + b) := by rw [show t * 12 + 7 + b = t * 12 + (7 + b) by omega]; exact hty _ (by omega)
  have hV0 : va (t * 12 + 7 + b) = V (7 + b) := by rw [show t * 12 + 7 + b = t * 12 + (7 + b) by omega]; exact hva _ (by omega) (by omega)
  refine jl_ofE (as := [.ref 13, .int (nI 2), .int (nI n)]) rfl (by decide) hl (jl_cc rfl (jl_cc rfl (jl_cc rfl jl_ca))) (Nat.le_of_ble_eq_true rfl) ?_
  show jl_E l G m_Ma_actOnStack (0, 0) 0 [some (.ref 13), some (.int (nI 2)), some (.int (nI n)), none, none] [] (σ) P
  refine er_iload_n d_Ma_actOnStack_0 rfl ?_
  refine er_tableIn (off := 157) 158 d_Ma_actOnStack_1 (by decide +kernel) (by decide +kernel) (by decide +kernel) (by decide) ?_
  refine er_aload_n d_Ma_actOnStack_158 rfl ?_
  refine er_callV (As := []) d_Ma_actOnStack_159 k_Ma_actOnStack_121 hX rfl rfl rfl (Nat.le_of_ble_eq_true rfl) (by decide) (by decide) (ma_takeA (h := b) hl hX t1 t2 ht hh6 (by omega)) ?_
  show jl_E l G m_Ma_actOnStack (0, 0) 162 [some (.ref 13), some (.int (nI 2)), some (.int (nI n)), none, none] [.int (nI (t * 12 + 7 + b))] (σ.set (20) (.inl (0, 144, .inl (fun j => en ((va_up ty (t * 12 + 6) (some (b))) j))))) P
  refine er_istore_n d_Ma_actOnStack_162 (by decide) ?_
  show jl_E l G m_Ma_actOnStack (0, 0) 163 [some (.ref 13), some (.int (nI 2)), some (.int (nI n)), some (.int (nI (t * 12 + 7 + b))), none] [] (σ.set (20) (.inl (0, 144, .inl (fun j => en ((va_up ty (t * 12 + 6) (some (b))) j))))) P
  refine er_aload_n d_Ma_actOnStack_163 rfl ?_
  refine er_iload_n d_Ma_actOnStack_164 rfl ?_
  refine er_aload_n d_Ma_actOnStack_165 rfl ?_
  refine er_getf d_Ma_actOnStack_166 f_Ma_actOnStack_28 (jl_sn (by decide) hX) rfl ?_
  refine er_iload_n d_Ma_actOnStack_169 rfl ?_
  refine er_ialdQ (v := (en (R (7 + b)))) d_Ma_actOnStack_170 (jl_ss t1) (by omega) (by omega) (congrArg en ((va_up_ne _ _ (by omega)).trans (hT0))) ?_
  refine er_aload_n d_Ma_actOnStack_171 rfl ?_
  refine er_getf d_Ma_actOnStack_172 f_Ma_actOnStack_31 (jl_sn (by decide) hX) rfl ?_
  refine er_iload_n d_Ma_actOnStack_175 rfl ?_
  refine er_ialdQ (v := (V (7 + b))) d_Ma_actOnStack_176 (jl_sn (by decide) t2) (by omega) (by omega) (hV0) ?_
  refine er_callV (As := [.int (nI n), .int (en (R (7 + b))), .int (V (7 + b))]) d_Ma_actOnStack_177 k_Ma_actOnStack_69 (jl_sn (by decide) hX) rfl rfl rfl (Nat.le_of_ble_eq_true rfl) (by decide) (by decide) (ma_local (i := n) (y := (R (7 + b))) (v := (V (7 + b))) hl (jl_sn (by decide) hX) (jl_ss t1) (jl_sn (by decide) t2) ht (by omega)) ?_
  show jl_E l G m_Ma_actOnStack (0, 0) 180 [some (.ref 13), some (.int (nI 2)), some (.int (nI n)), some (.int (nI (t * 12 + 7 + b))), none] [] (((σ.set (20) (.inl (0, 144, .inl (fun j => en ((va_up ty (t * 12 + 6) (some (b))) j))))).set (20) (.inl (0, 144, .inl (fun j => en ((va_up (va_up ty (t * 12 + 6) (some (b))) (t * 12 + n) (R (7 + b))) j))))).set (21) (.inl (0, 144, .inl (upd va (t * 12 + n) (V (7 + b)))))) P
  refine er_iconst ((nI (0))) d_Ma_actOnStack_180 (by decide) ?_
  exact er_iret d_Ma_actOnStack_181 rfl (hT _ ⟨_, _, _, _, (jl_sn (by decide) (jl_sn (by decide) (jl_sn (by decide) hX))), (jl_sn (by decide) (jl_sn (by decide) (jl_sn (by decide) u1))), (jl_sn (by decide) (jl_sn (by decide) (jl_sn (by decide) u2))), (jl_sn (by decide) (jl_ss (jl_ss t1))), (jl_ss (jl_sn (by decide) (jl_sn (by decide) t2))), ⟨(jl_sn (by decide) (jl_sn (by decide) (jl_sn (by decide) s0))), (jl_sn (by decide) (jl_sn (by decide) (jl_sn (by decide) s1))), (jl_sn (by decide) (jl_sn (by decide) (jl_sn (by decide) s2))), (jl_sn (by decide) (jl_sn (by decide) (jl_sn (by decide) s3)))⟩, (((((hx).six (y := some (b)) (ob_s (by omega)))).loc (i := n) (y := (R (7 + b))) (v := (V (7 + b))) (by omega) (hRo _ (by omega)))).le (by omega), hto, (((hF.set (by omega)).set (by omega)).set (by omega))⟩) (by decide) (by decide)
theorem d_Ma_actOnStack_182 : decode m_Ma_actOnStack.2.1 182 = .ok (.aload_n 0, 1) := by decide +kernel
theorem d_Ma_actOnStack_183 : decode m_Ma_actOnStack.2.1 183 = .ok (.iconst 2, 1) := by decide +kernel
theorem d_Ma_actOnStack_184 : decode m_Ma_actOnStack.2.1 184 = .ok (.iconst (-1), 1) := by decide +kernel
theorem d_Ma_actOnStack_185 : decode m_Ma_actOnStack.2.1 185 = .ok (.invokevirtual 133, 3) := by decide +kernel
theorem d_Ma_actOnStack_188 : decode m_Ma_actOnStack.2.1 188 = .ok (.iconst 0, 1) := by decide +kernel
theorem d_Ma_actOnStack_189 : decode m_Ma_actOnStack.2.1 189 = .ok (.ireturn, 1) := by decide +kernel
theorem ma_act_10 (hl : l.stackTraces = false) {P : jl_O → jl_S → Prop}  (hk : KB σ0 mt σ (7 + b) t m p (R) (V) (fs) (H) su dt dq aw) (ht : t < 12) (hh : R 6 = some (b)) (hb : b ≤ 5) (hp : b < 5) (hT : ∀ σ', KB σ0 mt σ' (8 + b) t m p (psh R b (some 2)) (va_up V (7 + b) (-1)) (fs) (H) su dt dq aw → P (.inl (some (.int (nI 0)))) σ') : jl_mE l G m_Ma_actOnStack [.ref 13, .int (nI 10), .int (x)] σ P := by
  obtain ⟨uw, ps, ty, va, hX, u1, u2, t1, t2, hS, hx, hto, hF⟩ := id hk
  obtain ⟨s0, s1, s2, s3⟩ := id hS
  obtain ⟨⟨⟨a, hma, hua⟩, hps, hty, hva⟩, hfs, hln, hob⟩ := id hx
  have hma : mt m = some a := hma
  have hps : ps t = p := hps
  have hty : ∀ j, j < _ → ty (t * 12 + j) = R j := hty
  have hva : ∀ j, j < _ → j ≠ 6 → va (t * 12 + j) = V j := hva
  have hRo := hx.rob
  have hh6 : ty (t * 12 + 6) = some (b) := (hty 6 (by omega)).trans hh
  refine jl_ofE (as := [.ref 13, .int (nI 10), .int (x)]) rfl (by decide) hl (jl_cc rfl (jl_cc rfl (jl_cc rfl jl_ca))) (Nat.le_of_ble_eq_true rfl) ?_
  show jl_E l G m_Ma_actOnStack (0, 0) 0 [some (.ref 13), some (.int (nI 10)), some (.int (x)), none, none] [] (σ) P
  refine er_iload_n d_Ma_actOnStack_0 rfl ?_
  refine er_tableIn (off := 181) 182 d_Ma_actOnStack_1 (by decide +kernel) (by decide +kernel) (by decide +kernel) (by decide) ?_
  refine er_aload_n d_Ma_actOnStack_182 rfl ?_
  refine er_iconst ((nI (2))) d_Ma_actOnStack_183 (by decide) ?_
  refine er_iconst ((-1)) d_Ma_actOnStack_184 (by decide) ?_
  refine er_callV (As := [.int (nI 2), .int (-1)]) d_Ma_actOnStack_185 k_Ma_actOnStack_133 hX rfl rfl rfl (Nat.le_of_ble_eq_true rfl) (by decide) (by decide) (ma_put (h := b) (y := (some (2))) (v := (-1)) hl hX t1 t2 ht hh6 (by omega)) ?_
  show jl_E l G m_Ma_actOnStack (0, 0) 188 [some (.ref 13), some (.int (nI 10)), some (.int (x)), none, none] [] (((σ.set (20) (.inl (0, 144, .inl (fun j => en ((va_up ty (t * 12 + 7 + b) (some (2))) j))))).set (21) (.inl (0, 144, .inl (upd va (t * 12 + 7 + b) (-1))))).set (20) (.inl (0, 144, .inl (fun j => en ((va_up (va_up ty (t * 12 + 7 + b) (some (2))) (t * 12 + 6) (some (b + 1))) j))))) P
  refine er_iconst ((nI (0))) d_Ma_actOnStack_188 (by decide) ?_
  exact er_iret d_Ma_actOnStack_189 rfl (hT _ ⟨_, _, _, _, (jl_sn (by decide) (jl_sn (by decide) (jl_sn (by decide) hX))), (jl_sn (by decide) (jl_sn (by decide) (jl_sn (by decide) u1))), (jl_sn (by decide) (jl_sn (by decide) (jl_sn (by decide) u2))), (jl_ss (jl_sn (by decide) (jl_ss t1))), (jl_sn (by decide) (jl_ss (jl_sn (by decide) t2))), ⟨(jl_sn (by decide) (jl_sn (by decide) (jl_sn (by decide) s0))), (jl_sn (by decide) (jl_sn (by decide) (jl_sn (by decide) s1))), (jl_sn (by decide) (jl_sn (by decide) (jl_sn (by decide) s2))), (jl_sn (by decide) (jl_sn (by decide) (jl_sn (by decide) s3)))⟩, ((((hx).put (i := b) (y := (some (2))) (v := (-1)) (by omega) (by omega) (ob_s (by omega)))).cc (by first | rfl | simp only [psh_six, six_six]) (by first | rfl | simp only [psh_six, six_six])), hto, (((hF.set (by omega)).set (by omega)).set (by omega))⟩) (by decide) (by decide)
theorem d_Ma_actOnStack_190 : decode m_Ma_actOnStack.2.1 190 = .ok (.aload_n 0, 1) := by decide +kernel
theorem d_Ma_actOnStack_191 : decode m_Ma_actOnStack.2.1 191 = .ok (.invokevirtual 121, 3) := by decide +kernel
theorem d_Ma_actOnStack_194 : decode m_Ma_actOnStack.2.1 194 = .ok (.pop, 1) := by decide +kernel
theorem d_Ma_actOnStack_195 : decode m_Ma_actOnStack.2.1 195 = .ok (.iconst 0, 1) := by decide +kernel
theorem d_Ma_actOnStack_196 : decode m_Ma_actOnStack.2.1 196 = .ok (.ireturn, 1) := by decide +kernel
theorem ma_act_23 (hl : l.stackTraces = false) {P : jl_O → jl_S → Prop}  (hk : KB σ0 mt σ (7 + (b + 1)) t m p (R) (V) (fs) (H) su dt dq aw) (ht : t < 12) (hh : R 6 = some (b + 1)) (hb : b + 1 ≤ 5)  (hT : ∀ σ', KB σ0 mt σ' (7 + b) t m p (va_up R 6 (some b)) (V) (fs) (H) su dt dq aw → P (.inl (some (.int (nI 0)))) σ') : jl_mE l G m_Ma_actOnStack [.ref 13, .int (nI 23), .int (x)] σ P := by
  obtain ⟨uw, ps, ty, va, hX, u1, u2, t1, t2, hS, hx, hto, hF⟩ := id hk
  obtain ⟨s0, s1, s2, s3⟩ := id hS
  obtain ⟨⟨⟨a, hma, hua⟩, hps, hty, hva⟩, hfs, hln, hob⟩ := id hx
  have hma : mt m = some a := hma
  have hps : ps t = p := hps
  have hty : ∀ j, j < _ → ty (t * 12 + j) = R j := hty
  have hva : ∀ j, j < _ → j ≠ 6 → va (t * 12 + j) = V j := hva
  have hRo := hx.rob
  have hh6 : ty (t * 12 + 6) = some (b + 1) := (hty 6 (by omega)).trans hh
  have hT0 : ty (t * 12 + 7 + b) = R (7 + b) := by rw [show t * 12 + 7 + b = t * 12 + (7 + b) by omega]; exact hty _ (by omega)
  have hV0 : va (t * 12 + 7 + b) = V (7 + b) := by rw [show t * 12 + 7 + b = t * 12 + (7 + b) by omega]; exact hva _ (by omega) (by omega)
  refine jl_ofE (as := [.ref 13, .int (nI 23), .int (x)]) rfl (by decide) hl (jl_cc rfl (jl_cc rfl (jl_cc rfl jl_ca))) (Nat.le_of_ble_eq_true rfl) ?_
  show jl_E l G m_Ma_actOnStack (0, 0) 0 [some (.ref 13), some (.int (nI 23)), some (.int (x)), none, none] [] (σ) P
  refine er_iload_n d_Ma_actOnStack_0 rfl ?_
  refine er_tableIn (off := 189) 190 d_Ma_actOnStack_1 (by decide +kernel) (by decide +kernel) (by decide +kernel) (by decide) ?_
  refine er_aload_n d_Ma_actOnStack_190 rfl ?_
  refine er_callV (As := []) d_Ma_actOnStack_191 k_Ma_actOnStack_121 hX rfl rfl rfl (Nat.le_of_ble_eq_true rfl) (by decide) (by decide) (ma_takeA (h := b) hl hX t1 t2 ht hh6 (by omega)) ?_
  show jl_E l G m_Ma_actOnStack (0, 0) 194 [some (.ref 13), some (.int (nI 23)), some (.int (x)), none, none] [.int (nI (t * 12 + 7 + b))] (σ.set (20) (.inl (0, 144, .inl (fun j => en ((va_up ty (t * 12 + 6) (some (b))) j))))) P
  refine er_pop d_Ma_actOnStack_194 rfl ?_
  refine er_iconst ((nI (0))) d_Ma_actOnStack_195 (by decide) ?_
  exact er_iret d_Ma_actOnStack_196 rfl (hT _ ⟨_, _, _, _, (jl_sn (by decide) hX), (jl_sn (by decide) u1), (jl_sn (by decide) u2), (jl_ss t1), (jl_sn (by decide) t2), ⟨(jl_sn (by decide) s0), (jl_sn (by decide) s1), (jl_sn (by decide) s2), (jl_sn (by decide) s3)⟩, (((hx).six (y := some (b)) (ob_s (by omega)))).le (by omega), hto, (hF.set (by omega))⟩) (by decide) (by decide)
theorem d_Ma_actOnStack_197 : decode m_Ma_actOnStack.2.1 197 = .ok (.aload_n 0, 1) := by decide +kernel
theorem d_Ma_actOnStack_198 : decode m_Ma_actOnStack.2.1 198 = .ok (.invokevirtual 121, 3) := by decide +kernel
theorem d_Ma_actOnStack_201 : decode m_Ma_actOnStack.2.1 201 = .ok (.istore 4, 2) := by decide +kernel
theorem d_Ma_actOnStack_203 : decode m_Ma_actOnStack.2.1 203 = .ok (.aload_n 0, 1) := by decide +kernel
theorem d_Ma_actOnStack_204 : decode m_Ma_actOnStack.2.1 204 = .ok (.aload_n 0, 1) := by decide +kernel
theorem d_Ma_actOnStack_205 : decode m_Ma_actOnStack.2.1 205 = .ok (.getfield 28, 3) := by decide +kernel
theorem d_Ma_actOnStack_208 : decode m_Ma_actOnStack.2.1 208 = .ok (.iload 4, 2) := by decide +kernel
theorem d_Ma_actOnStack_210 : decode m_Ma_actOnStack.2.1 210 = .ok (.iaload, 1) := by decide +kernel
theorem d_Ma_actOnStack_211 : decode m_Ma_actOnStack.2.1 211 = .ok (.aload_n 0, 1) := by decide +kernel
theorem d_Ma_actOnStack_212 : decode m_Ma_actOnStack.2.1 212 = .ok (.getfield 31, 3) := by decide +kernel
theorem d_Ma_actOnStack_215 : decode m_Ma_actOnStack.2.1 215 = .ok (.iload 4, 2) := by decide +kernel
theorem d_Ma_actOnStack_217 : decode m_Ma_actOnStack.2.1 217 = .ok (.iaload, 1) := by decide +kernel
theorem d_Ma_actOnStack_218 : decode m_Ma_actOnStack.2.1 218 = .ok (.invokevirtual 133, 3) := by decide +kernel
theorem d_Ma_actOnStack_221 : decode m_Ma_actOnStack.2.1 221 = .ok (.aload_n 0, 1) := by decide +kernel
theorem d_Ma_actOnStack_222 : decode m_Ma_actOnStack.2.1 222 = .ok (.aload_n 0, 1) := by decide +kernel
theorem d_Ma_actOnStack_223 : decode m_Ma_actOnStack.2.1 223 = .ok (.getfield 28, 3) := by decide +kernel
theorem d_Ma_actOnStack_226 : decode m_Ma_actOnStack.2.1 226 = .ok (.iload 4, 2) := by decide +kernel
theorem d_Ma_actOnStack_228 : decode m_Ma_actOnStack.2.1 228 = .ok (.iaload, 1) := by decide +kernel
theorem d_Ma_actOnStack_229 : decode m_Ma_actOnStack.2.1 229 = .ok (.aload_n 0, 1) := by decide +kernel
theorem d_Ma_actOnStack_230 : decode m_Ma_actOnStack.2.1 230 = .ok (.getfield 31, 3) := by decide +kernel
theorem d_Ma_actOnStack_233 : decode m_Ma_actOnStack.2.1 233 = .ok (.iload 4, 2) := by decide +kernel
theorem d_Ma_actOnStack_235 : decode m_Ma_actOnStack.2.1 235 = .ok (.iaload, 1) := by decide +kernel
theorem d_Ma_actOnStack_236 : decode m_Ma_actOnStack.2.1 236 = .ok (.invokevirtual 133, 3) := by decide +kernel
theorem d_Ma_actOnStack_239 : decode m_Ma_actOnStack.2.1 239 = .ok (.iconst 0, 1) := by decide +kernel
theorem d_Ma_actOnStack_240 : decode m_Ma_actOnStack.2.1 240 = .ok (.ireturn, 1) := by decide +kernel
theorem ma_act_24 (hl : l.stackTraces = false) {P : jl_O → jl_S → Prop}  (hk : KB σ0 mt σ (7 + (b + 1)) t m p (R) (V) (fs) (H) su dt dq aw) (ht : t < 12) (hh : R 6 = some (b + 1)) (hb : b + 1 ≤ 5) (hp : b + 1 < 5) (hT : ∀ σ', KB σ0 mt σ' (8 + (b + 1)) t m p (psh R (b + 1) (R (7 + b))) (va_up V (7 + (b + 1)) (V (7 + b))) (fs) (H) su dt dq aw → P (.inl (some (.int (nI 0)))) σ') : jl_mE l G m_Ma_actOnStack [.ref 13, .int (nI 24), .int (x)] σ P := by
  obtain ⟨uw, ps, ty, va, hX, u1, u2, t1, t2, hS, hx, hto, hF⟩ := id hk
  obtain ⟨s0, s1, s2, s3⟩ := id hS
  obtain ⟨⟨⟨a, hma, hua⟩, hps, hty, hva⟩, hfs, hln, hob⟩ := id hx
  have hma : mt m = some a := hma
  have hps : ps t = p := hps
  have hty : ∀ j, j < _ → ty (t * 12 + j) = R j := hty
  have hva : ∀ j, j < _ → j ≠ 6 → va (t * 12 + j) = V j := hva
  have hRo := hx.rob
  have hh6 : ty (t * 12 + 6) = some (b + 1) := (hty 6 (by omega)).trans hh
  have hT0 : ty (t * 12 + 7 + b) = R (7 + b) := by rw [show t * 12 + 7 + b = t * 12 + (7 + b) by omega]; exact hty _ (by omega)
  have hV0 : va (t * 12 + 7 + b) = V (7 + b) := by rw [show t * 12 + 7 + b = t * 12 + (7 + b) by omega]; exact hva _ (by omega) (by omega)
  refine jl_ofE (as := [.ref 13, .int (nI 24), .int (x)]) rfl (by decide) hl (jl_cc rfl (jl_cc rfl (jl_cc rfl jl_ca))) (Nat.le_of_ble_eq_true rfl) ?_
  show jl_E l G m_Ma_actOnStack (0, 0) 0 [some (.ref 13), some (.int (nI 24)), some (.int (x)), none, none] [] (σ) P
  refine er_iload_n d_Ma_actOnStack_0 rfl ?_
  refine er_tableIn (off := 196) 197 d_Ma_actOnStack_1 (by decide +kernel) (by decide +kernel) (by decide +kernel) (by decide) ?_
  refine er_aload_n d_Ma_actOnStack_197 rfl ?_
  refine er_callV (As := []) d_Ma_actOnStack_198 k_Ma_actOnStack_121 hX rfl rfl rfl (Nat.le_of_ble_eq_true rfl) (by decide) (by decide) (ma_takeA (h := b) hl hX t1 t2 ht hh6 (by omega)) ?_
  show jl_E l G m_Ma_actOnStack (0, 0) 201 [some (.ref 13), some (.int (nI 24)), some (.int (x)), none, none] [.int (nI (t * 12 + 7 + b))] (σ.set (20) (.inl (0, 144, .inl (fun j => en ((va_up ty (t * 12 + 6) (some (b))) j))))) P
  refine er_istore d_Ma_actOnStack_201 (by decide) ?_
  show jl_E l G m_Ma_actOnStack (0, 0) 203 [some (.ref 13), some (.int (nI 24)), some (.int (x)), none, some (.int (nI (t * 12 + 7 + b)))] [] (σ.set (20) (.inl (0, 144, .inl (fun j => en ((va_up ty (t * 12 + 6) (some (b))) j))))) P
  refine er_aload_n d_Ma_actOnStack_203 rfl ?_
  refine er_aload_n d_Ma_actOnStack_204 rfl ?_
  refine er_getf d_Ma_actOnStack_205 f_Ma_actOnStack_28 (jl_sn (by decide) hX) rfl ?_
  refine er_iload d_Ma_actOnStack_208 rfl ?_
  refine er_ialdQ (v := (en (R (7 + b)))) d_Ma_actOnStack_210 (jl_ss t1) (by omega) (by omega) (congrArg en ((va_up_ne _ _ (by omega)).trans (hT0))) ?_
  refine er_aload_n d_Ma_actOnStack_211 rfl ?_
  refine er_getf d_Ma_actOnStack_212 f_Ma_actOnStack_31 (jl_sn (by decide) hX) rfl ?_
  refine er_iload d_Ma_actOnStack_215 rfl ?_
  refine er_ialdQ (v := (V (7 + b))) d_Ma_actOnStack_217 (jl_sn (by decide) t2) (by omega) (by omega) (hV0) ?_
  refine er_callV (As := [.int (en (R (7 + b))), .int (V (7 + b))]) d_Ma_actOnStack_218 k_Ma_actOnStack_133 (jl_sn (by decide) hX) rfl rfl rfl (Nat.le_of_ble_eq_true rfl) (by decide) (by decide) (ma_put (h := b) (y := (R (7 + b))) (v := (V (7 + b))) hl (jl_sn (by decide) hX) (jl_ss t1) (jl_sn (by decide) t2) ht (va_up_self _ _ _) (by omega)) ?_
  show jl_E l G m_Ma_actOnStack (0, 0) 221 [some (.ref 13), some (.int (nI 24)), some (.int (x)), none, some (.int (nI (t * 12 + 7 + b)))] [] ((((σ.set (20) (.inl (0, 144, .inl (fun j => en ((va_up ty (t * 12 + 6) (some (b))) j))))).set (20) (.inl (0, 144, .inl (fun j => en ((va_up (va_up ty (t * 12 + 6) (some (b))) (t * 12 + 7 + b) (R (7 + b))) j))))).set (21) (.inl (0, 144, .inl (upd va (t * 12 + 7 + b) (V (7 + b)))))).set (20) (.inl (0, 144, .inl (fun j => en ((va_up (va_up (va_up ty (t * 12 + 6) (some (b))) (t * 12 + 7 + b) (R (7 + b))) (t * 12 + 6) (some (b + 1))) j))))) P
  refine er_aload_n d_Ma_actOnStack_221 rfl ?_
  refine er_aload_n d_Ma_actOnStack_222 rfl ?_
  refine er_getf d_Ma_actOnStack_223 f_Ma_actOnStack_28 (jl_sn (by decide) (jl_sn (by decide) (jl_sn (by decide) (jl_sn (by decide) hX)))) rfl ?_
  refine er_iload d_Ma_actOnStack_226 rfl ?_
  refine er_ialdQ (v := (en (R (7 + b)))) d_Ma_actOnStack_228 (jl_ss (jl_sn (by decide) (jl_ss (jl_ss t1)))) (by omega) (by omega) (congrArg en ((va_up_ne _ _ (by omega)).trans (va_up_self _ _ _))) ?_
  refine er_aload_n d_Ma_actOnStack_229 rfl ?_
  refine er_getf d_Ma_actOnStack_230 f_Ma_actOnStack_31 (jl_sn (by decide) (jl_sn (by decide) (jl_sn (by decide) (jl_sn (by decide) hX)))) rfl ?_
  refine er_iload d_Ma_actOnStack_233 rfl ?_
  refine er_ialdQ (v := (V (7 + b))) d_Ma_actOnStack_235 (jl_sn (by decide) (jl_ss (jl_sn (by decide) (jl_sn (by decide) t2)))) (by omega) (by omega) (if_pos rfl) ?_
  refine er_callV (As := [.int (en (R (7 + b))), .int (V (7 + b))]) d_Ma_actOnStack_236 k_Ma_actOnStack_133 (jl_sn (by decide) (jl_sn (by decide) (jl_sn (by decide) (jl_sn (by decide) hX)))) rfl rfl rfl (Nat.le_of_ble_eq_true rfl) (by decide) (by decide) (ma_put (h := b + 1) (y := (R (7 + b))) (v := (V (7 + b))) hl (jl_sn (by decide) (jl_sn (by decide) (jl_sn (by decide) (jl_sn (by decide) hX)))) (jl_ss (jl_sn (by decide) (jl_ss (jl_ss t1)))) (jl_sn (by decide) (jl_ss (jl_sn (by decide) (jl_sn (by decide) t2)))) ht (va_up_self _ _ _) (by omega)) ?_
  show jl_E l G m_Ma_actOnStack (0, 0) 239 [some (.ref 13), some (.int (nI 24)), some (.int (x)), none, some (.int (nI (t * 12 + 7 + b)))] [] (((((((σ.set (20) (.inl (0, 144, .inl (fun j => en ((va_up ty (t * 12 + 6) (some (b))) j))))).set (20) (.inl (0, 144, .inl (fun j => en ((va_up (va_up ty (t * 12 + 6) (some (b))) (t * 12 + 7 + b) (R (7 + b))) j))))).set (21) (.inl (0, 144, .inl (upd va (t * 12 + 7 + b) (V (7 + b)))))).set (20) (.inl (0, 144, .inl (fun j => en ((va_up (va_up (va_up ty (t * 12 + 6) (some (b))) (t * 12 + 7 + b) (R (7 + b))) (t * 12 + 6) (some (b + 1))) j))))).set (20) (.inl (0, 144, .inl (fun j => en ((va_up (va_up (va_up (va_up ty (t * 12 + 6) (some (b))) (t * 12 + 7 + b) (R (7 + b))) (t * 12 + 6) (some (b + 1))) (t * 12 + 7 + (b + 1)) (R (7 + b))) j))))).set (21) (.inl (0, 144, .inl (upd (upd va (t * 12 + 7 + b) (V (7 + b))) (t * 12 + 7 + (b + 1)) (V (7 + b)))))).set (20) (.inl (0, 144, .inl (fun j => en ((va_up (va_up (va_up (va_up (va_up ty (t * 12 + 6) (some (b))) (t * 12 + 7 + b) (R (7 + b))) (t * 12 + 6) (some (b + 1))) (t * 12 + 7 + (b + 1)) (R (7 + b))) (t * 12 + 6) (some (b + 2))) j))))) P
  refine er_iconst ((nI (0))) d_Ma_actOnStack_239 (by decide) ?_
  exact er_iret d_Ma_actOnStack_240 rfl (hT _ ⟨_, _, _, _, (jl_sn (by decide) (jl_sn (by decide) (jl_sn (by decide) (jl_sn (by decide) (jl_sn (by decide) (jl_sn (by decide) (jl_sn (by decide) hX))))))), (jl_sn (by decide) (jl_sn (by decide) (jl_sn (by decide) (jl_sn (by decide) (jl_sn (by decide) (jl_sn (by decide) (jl_sn (by decide) u1))))))), (jl_sn (by decide) (jl_sn (by decide) (jl_sn (by decide) (jl_sn (by decide) (jl_sn (by decide) (jl_sn (by decide) (jl_sn (by decide) u2))))))), (jl_ss (jl_sn (by decide) (jl_ss (jl_ss (jl_sn (by decide) (jl_ss (jl_ss t1))))))), (jl_sn (by decide) (jl_ss (jl_sn (by decide) (jl_sn (by decide) (jl_ss (jl_sn (by decide) (jl_sn (by decide) t2))))))), ⟨(jl_sn (by decide) (jl_sn (by decide) (jl_sn (by decide) (jl_sn (by decide) (jl_sn (by decide) (jl_sn (by decide) (jl_sn (by decide) s0))))))), (jl_sn (by decide) (jl_sn (by decide) (jl_sn (by decide) (jl_sn (by decide) (jl_sn (by decide) (jl_sn (by decide) (jl_sn (by decide) s1))))))), (jl_sn (by decide) (jl_sn (by decide) (jl_sn (by decide) (jl_sn (by decide) (jl_sn (by decide) (jl_sn (by decide) (jl_sn (by decide) s2))))))), (jl_sn (by decide) (jl_sn (by decide) (jl_sn (by decide) (jl_sn (by decide) (jl_sn (by decide) (jl_sn (by decide) (jl_sn (by decide) s3)))))))⟩, ((((((((hx).six (y := some (b)) (ob_s (by omega)))).put (i := b) (y := (R (7 + b))) (v := (V (7 + b))) (by omega) (by omega) (hRo _ (by omega)))).put (i := b + 1) (y := (R (7 + b))) (v := (V (7 + b))) (by omega) (by omega) (hRo _ (by omega)))).cc (by first | rfl | simp only [psh_six, psh_psh, up_id]) (by first | rfl | simp only [psh_six, psh_psh, up_id])), hto, (((((((hF.set (by omega)).set (by omega)).set (by omega)).set (by omega)).set (by omega)).set (by omega)).set (by omega))⟩) (by decide) (by decide)
theorem d_Ma_reckon_0 : decode m_Ma_reckon.2.1 0 = .ok (.aload_n 0, 1) := by decide +kernel
theorem f_Ma_reckon_31 : jl_fd m_Ma_reckon 31 1 6 = true := by decide +kernel
theorem d_Ma_reckon_1 : decode m_Ma_reckon.2.1 1 = .ok (.getfield 31, 3) := by decide +kernel
theorem d_Ma_reckon_4 : decode m_Ma_reckon.2.1 4 = .ok (.aload_n 0, 1) := by decide +kernel
theorem k_Ma_reckon_121 : jl_cv m_Ma_reckon m_Ma_take 121 0 = true := by decide +kernel
theorem d_Ma_reckon_5 : decode m_Ma_reckon.2.1 5 = .ok (.invokevirtual 121, 3) := by decide +kernel
theorem d_Ma_reckon_8 : decode m_Ma_reckon.2.1 8 = .ok (.iaload, 1) := by decide +kernel
theorem d_Ma_reckon_9 : decode m_Ma_reckon.2.1 9 = .ok (.istore_n 2, 1) := by decide +kernel
theorem d_Ma_reckon_10 : decode m_Ma_reckon.2.1 10 = .ok (.aload_n 0, 1) := by decide +kernel
theorem d_Ma_reckon_11 : decode m_Ma_reckon.2.1 11 = .ok (.getfield 31, 3) := by decide +kernel
theorem d_Ma_reckon_14 : decode m_Ma_reckon.2.1 14 = .ok (.aload_n 0, 1) := by decide +kernel
theorem d_Ma_reckon_15 : decode m_Ma_reckon.2.1 15 = .ok (.invokevirtual 121, 3) := by decide +kernel
theorem d_Ma_reckon_18 : decode m_Ma_reckon.2.1 18 = .ok (.iaload, 1) := by decide +kernel
theorem d_Ma_reckon_19 : decode m_Ma_reckon.2.1 19 = .ok (.istore_n 3, 1) := by decide +kernel
theorem d_Ma_reckon_20 : decode m_Ma_reckon.2.1 20 = .ok (.iload_n 1, 1) := by decide +kernel
theorem d_Ma_reckon_21 : decode m_Ma_reckon.2.1 21 = .ok (.tableswitch 57 3 5 #[27, 37, 47], 27) := by decide +kernel
theorem d_Ma_reckon_48 : decode m_Ma_reckon.2.1 48 = .ok (.aload_n 0, 1) := by decide +kernel
theorem d_Ma_reckon_49 : decode m_Ma_reckon.2.1 49 = .ok (.iconst 0, 1) := by decide +kernel
theorem d_Ma_reckon_50 : decode m_Ma_reckon.2.1 50 = .ok (.iload_n 3, 1) := by decide +kernel
theorem d_Ma_reckon_51 : decode m_Ma_reckon.2.1 51 = .ok (.iload_n 2, 1) := by decide +kernel
theorem d_Ma_reckon_52 : decode m_Ma_reckon.2.1 52 = .ok (.iadd, 1) := by decide +kernel
theorem k_Ma_reckon_133 : jl_cv m_Ma_reckon m_Ma_put 133 2 = true := by decide +kernel
theorem d_Ma_reckon_53 : decode m_Ma_reckon.2.1 53 = .ok (.invokevirtual 133, 3) := by decide +kernel
theorem d_Ma_reckon_56 : decode m_Ma_reckon.2.1 56 = .ok (.iconst 0, 1) := by decide +kernel
theorem d_Ma_reckon_57 : decode m_Ma_reckon.2.1 57 = .ok (.ireturn, 1) := by decide +kernel
theorem ma_rek_3 (hl : l.stackTraces = false) {P : jl_O → jl_S → Prop}  (hk : KB σ0 mt σ (7 + (b + 2)) t m p (R) (V) (fs) (H) su dt dq aw) (ht : t < 12) (hh : R 6 = some (b + 2)) (hb : b + 2 ≤ 5)  (hT : ∀ σ', KB σ0 mt σ' (8 + b) t m p (psh R b (some 0)) (va_up V (7 + b) (V (7 + b) + V (8 + b))) (fs) (H) su dt dq aw → P (.inl (some (.int (nI 0)))) σ') : jl_mE l G m_Ma_reckon [.ref 13, .int (nI 3)] σ P := by
  obtain ⟨uw, ps, ty, va, hX, u1, u2, t1, t2, hS, hx, hto, hF⟩ := id hk
  obtain ⟨s0, s1, s2, s3⟩ := id hS
  obtain ⟨⟨⟨a, hma, hua⟩, hps, hty, hva⟩, hfs, hln, hob⟩ := id hx
  have hma : mt m = some a := hma
  have hps : ps t = p := hps
  have hty : ∀ j, j < _ → ty (t * 12 + j) = R j := hty
  have hva : ∀ j, j < _ → j ≠ 6 → va (t * 12 + j) = V j := hva
  have hRo := hx.rob
  have hh6 : ty (t * 12 + 6) = some (b + 2) := (hty 6 (by omega)).trans hh
  have hT0 : ty (t * 12 + 7 + b) = R (7 + b) := by rw [show t * 12 + 7 + b = t * 12 + (7 + b) by omega]; exact hty _ (by omega)
  have hV0 : va (t * 12 + 7 + b) = V (7 + b) := by rw [show t * 12 + 7 + b = t * 12 + (7 + b) by omega]; exact hva _ (by omega) (by omega)
  have hT1 : ty (t * 12 + 7 + (b + 1)) = R (8 + b) := by rw [show t * 12 + 7 + (b + 1) = t * 12 + (8 + b) by omega]; exact hty _ (by omega)
  have hV1 : va (t * 12 + 7 + (b + 1)) = V (8 + b) := by rw [show t * 12 + 7 + (b + 1) = t * 12 + (8 + b) by omega]; exact hva _ (by omega) (by omega)
  refine jl_ofE (as := [.ref 13, .int (nI 3)]) rfl (by decide) hl (jl_cc rfl (jl_cc rfl jl_ca)) (Nat.le_of_ble_eq_true rfl) ?_
  show jl_E l G m_Ma_reckon (0, 0) 0 [some (.ref 13), some (.int (nI 3)), none, none] [] (σ) P
  refine er_aload_n d_Ma_reckon_0 rfl ?_
  refine er_getf d_Ma_reckon_1 f_Ma_reckon_31 hX rfl ?_
  refine er_aload_n d_Ma_reckon_4 rfl ?_
  refine er_callV (As := []) d_Ma_reckon_5 k_Ma_reckon_121 hX rfl rfl rfl (Nat.le_of_ble_eq_true rfl) (by decide) (by decide) (ma_takeA (h := b + 1) hl hX t1 t2 ht hh6 (by omega)) ?_
  show jl_E l G m_Ma_reckon (0, 0) 8 [some (.ref 13), some (.int (nI 3)), none, none] [.int (nI (t * 12 + 7 + (b + 1))), .ref 21] (σ.set (20) (.inl (0, 144, .inl (fun j => en ((va_up ty (t * 12 + 6) (some (b + 1))) j))))) P
  refine er_ialdQ (v := (V (8 + b))) d_Ma_reckon_8 (jl_sn (by decide) t2) (by omega) (by omega) (hV1) ?_
  refine er_istore_n d_Ma_reckon_9 (by decide) ?_
  show jl_E l G m_Ma_reckon (0, 0) 10 [some (.ref 13), some (.int (nI 3)), some (.int (V (8 + b))), none] [] (σ.set (20) (.inl (0, 144, .inl (fun j => en ((va_up ty (t * 12 + 6) (some (b + 1))) j))))) P
  refine er_aload_n d_Ma_reckon_10 rfl ?_
  refine er_getf d_Ma_reckon_11 f_Ma_reckon_31 (jl_sn (by decide) hX) rfl ?_
  refine er_aload_n d_Ma_reckon_14 rfl ?_
  refine er_callV (As := []) d_Ma_reckon_15 k_Ma_reckon_121 (jl_sn (by decide) hX) rfl rfl rfl (Nat.le_of_ble_eq_true rfl) (by decide) (by decide) (ma_takeA (h := b) hl (jl_sn (by decide) hX) (jl_ss t1) (jl_sn (by decide) t2) ht (va_up_self _ _ _) (by omega)) ?_
  show jl_E l G m_Ma_reckon (0, 0) 18 [some (.ref 13), some (.int (nI 3)), some (.int (V (8 + b))), none] [.int (nI (t * 12 + 7 + b)), .ref 21] ((σ.set (20) (.inl (0, 144, .inl (fun j => en ((va_up ty (t * 12 + 6) (some (b + 1))) j))))).set (20) (.inl (0, 144, .inl (fun j => en ((va_up (va_up ty (t * 12 + 6) (some (b + 1))) (t * 12 + 6) (some (b))) j))))) P
  refine er_ialdQ (v := (V (7 + b))) d_Ma_reckon_18 (jl_sn (by decide) (jl_sn (by decide) t2)) (by omega) (by omega) (hV0) ?_
  refine er_istore_n d_Ma_reckon_19 (by decide) ?_
  show jl_E l G m_Ma_reckon (0, 0) 20 [some (.ref 13), some (.int (nI 3)), some (.int (V (8 + b))), some (.int (V (7 + b)))] [] ((σ.set (20) (.inl (0, 144, .inl (fun j => en ((va_up ty (t * 12 + 6) (some (b + 1))) j))))).set (20) (.inl (0, 144, .inl (fun j => en ((va_up (va_up ty (t * 12 + 6) (some (b + 1))) (t * 12 + 6) (some (b))) j))))) P
  refine er_iload_n d_Ma_reckon_20 rfl ?_
  refine er_tableIn (off := 27) 48 d_Ma_reckon_21 (by decide +kernel) (by decide +kernel) (by decide +kernel) (by decide) ?_
  refine er_aload_n d_Ma_reckon_48 rfl ?_
  refine er_iconst ((nI (0))) d_Ma_reckon_49 (by decide) ?_
  refine er_iload_n d_Ma_reckon_50 rfl ?_
  refine er_iload_n d_Ma_reckon_51 rfl ?_
  refine er_iadd d_Ma_reckon_52 ?_
  refine er_callV (As := [.int (nI 0), .int ((V (7 + b)) + (V (8 + b)))]) d_Ma_reckon_53 k_Ma_reckon_133 (jl_sn (by decide) (jl_sn (by decide) hX)) rfl rfl rfl (Nat.le_of_ble_eq_true rfl) (by decide) (by decide) (ma_put (h := b) (y := (some (0))) (v := ((V (7 + b)) + (V (8 + b)))) hl (jl_sn (by decide) (jl_sn (by decide) hX)) (jl_ss (jl_ss t1)) (jl_sn (by decide) (jl_sn (by decide) t2)) ht (va_up_self _ _ _) (by omega)) ?_
  show jl_E l G m_Ma_reckon (0, 0) 56 [some (.ref 13), some (.int (nI 3)), some (.int (V (8 + b))), some (.int (V (7 + b)))] [] (((((σ.set (20) (.inl (0, 144, .inl (fun j => en ((va_up ty (t * 12 + 6) (some (b + 1))) j))))).set (20) (.inl (0, 144, .inl (fun j => en ((va_up (va_up ty (t * 12 + 6) (some (b + 1))) (t * 12 + 6) (some (b))) j))))).set (20) (.inl (0, 144, .inl (fun j => en ((va_up (va_up (va_up ty (t * 12 + 6) (some (b + 1))) (t * 12 + 6) (some (b))) (t * 12 + 7 + b) (some (0))) j))))).set (21) (.inl (0, 144, .inl (upd va (t * 12 + 7 + b) ((V (7 + b)) + (V (8 + b))))))).set (20) (.inl (0, 144, .inl (fun j => en ((va_up (va_up (va_up (va_up ty (t * 12 + 6) (some (b + 1))) (t * 12 + 6) (some (b))) (t * 12 + 7 + b) (some (0))) (t * 12 + 6) (some (b + 1))) j))))) P
  refine er_iconst ((nI (0))) d_Ma_reckon_56 (by decide) ?_
  exact er_iret d_Ma_reckon_57 rfl (hT _ ⟨_, _, _, _, (jl_sn (by decide) (jl_sn (by decide) (jl_sn (by decide) (jl_sn (by decide) (jl_sn (by decide) hX))))), (jl_sn (by decide) (jl_sn (by decide) (jl_sn (by decide) (jl_sn (by decide) (jl_sn (by decide) u1))))), (jl_sn (by decide) (jl_sn (by decide) (jl_sn (by decide) (jl_sn (by decide) (jl_sn (by decide) u2))))), (jl_ss (jl_sn (by decide) (jl_ss (jl_ss (jl_ss t1))))), (jl_sn (by decide) (jl_ss (jl_sn (by decide) (jl_sn (by decide) (jl_sn (by decide) t2))))), ⟨(jl_sn (by decide) (jl_sn (by decide) (jl_sn (by decide) (jl_sn (by decide) (jl_sn (by decide) s0))))), (jl_sn (by decide) (jl_sn (by decide) (jl_sn (by decide) (jl_sn (by decide) (jl_sn (by decide) s1))))), (jl_sn (by decide) (jl_sn (by decide) (jl_sn (by decide) (jl_sn (by decide) (jl_sn (by decide) s2))))), (jl_sn (by decide) (jl_sn (by decide) (jl_sn (by decide) (jl_sn (by decide) (jl_sn (by decide) s3)))))⟩, ((((((((hx).six (y := some (b + 1)) (ob_s (by omega)))).six (y := some (b)) (ob_s (by omega)))).put (i := b) (y := (some (0))) (v := ((V (7 + b)) + (V (8 + b)))) (by omega) (by omega) (ob_s (by omega)))).cc (by first | rfl | simp only [psh_six, six_six]) (by first | rfl | simp only [psh_six, six_six])), hto, (((((hF.set (by omega)).set (by omega)).set (by omega)).set (by omega)).set (by omega))⟩) (by decide) (by decide)
theorem d_Ma_actOnStack_241 : decode m_Ma_actOnStack.2.1 241 = .ok (.aload_n 0, 1) := by decide +kernel
theorem d_Ma_actOnStack_242 : decode m_Ma_actOnStack.2.1 242 = .ok (.iload_n 1, 1) := by decide +kernel
theorem k_Ma_actOnStack_155 : jl_cv m_Ma_actOnStack m_Ma_reckon 155 1 = true := by decide +kernel
theorem d_Ma_actOnStack_243 : decode m_Ma_actOnStack.2.1 243 = .ok (.invokevirtual 155, 3) := by decide +kernel
theorem d_Ma_actOnStack_246 : decode m_Ma_actOnStack.2.1 246 = .ok (.ireturn, 1) := by decide +kernel
theorem ma_act_3 (hl : l.stackTraces = false) {P : jl_O → jl_S → Prop}  (hk : KB σ0 mt σ (7 + (b + 2)) t m p (R) (V) (fs) (H) su dt dq aw) (ht : t < 12) (hh : R 6 = some (b + 2)) (hb : b + 2 ≤ 5)  (hT : ∀ σ', KB σ0 mt σ' (8 + b) t m p (psh R b (some 0)) (va_up V (7 + b) (V (7 + b) + V (8 + b))) (fs) (H) su dt dq aw → P (.inl (some (.int (nI 0)))) σ') : jl_mE l G m_Ma_actOnStack [.ref 13, .int (nI 3), .int (x)] σ P := by
  obtain ⟨uw, ps, ty, va, hX, u1, u2, t1, t2, hS, hx, hto, hF⟩ := id hk
  obtain ⟨s0, s1, s2, s3⟩ := id hS
  obtain ⟨⟨⟨a, hma, hua⟩, hps, hty, hva⟩, hfs, hln, hob⟩ := id hx
  have hma : mt m = some a := hma
  have hps : ps t = p := hps
  have hty : ∀ j, j < _ → ty (t * 12 + j) = R j := hty
  have hva : ∀ j, j < _ → j ≠ 6 → va (t * 12 + j) = V j := hva
  have hRo := hx.rob
  refine jl_ofE (as := [.ref 13, .int (nI 3), .int (x)]) rfl (by decide) hl (jl_cc rfl (jl_cc rfl (jl_cc rfl jl_ca))) (Nat.le_of_ble_eq_true rfl) ?_
  show jl_E l G m_Ma_actOnStack (0, 0) 0 [some (.ref 13), some (.int (nI 3)), some (.int (x)), none, none] [] (σ) P
  refine er_iload_n d_Ma_actOnStack_0 rfl ?_
  refine er_tableIn (off := 240) 241 d_Ma_actOnStack_1 (by decide +kernel) (by decide +kernel) (by decide +kernel) (by decide) ?_
  refine er_aload_n d_Ma_actOnStack_241 rfl ?_
  refine er_iload_n d_Ma_actOnStack_242 rfl ?_
  refine er_callVE (As := [.int (nI 3)]) d_Ma_actOnStack_243 k_Ma_actOnStack_155 hX rfl rfl rfl (Nat.le_of_ble_eq_true rfl) (by decide) (by decide) (ma_rek_3 hl hk ht hh hb  (fun σ hk => ⟨_, rfl, ?_⟩))
  show jl_E l G m_Ma_actOnStack (0, 0) 246 [some (.ref 13), some (.int (nI 3)), some (.int (x)), none, none] [.int (nI 0)] (σ) P
  exact er_iret d_Ma_actOnStack_246 rfl (hT _ hk) (by decide) (by decide)
theorem d_Ma_reckon_58 : decode m_Ma_reckon.2.1 58 = .ok (.aload_n 0, 1) := by decide +kernel
theorem d_Ma_reckon_59 : decode m_Ma_reckon.2.1 59 = .ok (.iconst 0, 1) := by decide +kernel
theorem d_Ma_reckon_60 : decode m_Ma_reckon.2.1 60 = .ok (.iload_n 3, 1) := by decide +kernel
theorem d_Ma_reckon_61 : decode m_Ma_reckon.2.1 61 = .ok (.iload_n 2, 1) := by decide +kernel
theorem d_Ma_reckon_62 : decode m_Ma_reckon.2.1 62 = .ok (.isub, 1) := by decide +kernel
theorem d_Ma_reckon_63 : decode m_Ma_reckon.2.1 63 = .ok (.invokevirtual 133, 3) := by decide +kernel
theorem d_Ma_reckon_66 : decode m_Ma_reckon.2.1 66 = .ok (.iconst 0, 1) := by decide +kernel
theorem d_Ma_reckon_67 : decode m_Ma_reckon.2.1 67 = .ok (.ireturn, 1) := by decide +kernel
theorem ma_rek_4 (hl : l.stackTraces = false) {P : jl_O → jl_S → Prop}  (hk : KB σ0 mt σ (7 + (b + 2)) t m p (R) (V) (fs) (H) su dt dq aw) (ht : t < 12) (hh : R 6 = some (b + 2)) (hb : b + 2 ≤ 5)  (hT : ∀ σ', KB σ0 mt σ' (8 + b) t m p (psh R b (some 0)) (va_up V (7 + b) (V (7 + b) - V (8 + b))) (fs) (H) su dt dq aw → P (.inl (some (.int (nI 0)))) σ') : jl_mE l G m_Ma_reckon [.ref 13, .int (nI 4)] σ P := by
  obtain ⟨uw, ps, ty, va, hX, u1, u2, t1, t2, hS, hx, hto, hF⟩ := id hk
  obtain ⟨s0, s1, s2, s3⟩ := id hS
  obtain ⟨⟨⟨a, hma, hua⟩, hps, hty, hva⟩, hfs, hln, hob⟩ := id hx
  have hma : mt m = some a := hma
  have hps : ps t = p := hps
  have hty : ∀ j, j < _ → ty (t * 12 + j) = R j := hty
  have hva : ∀ j, j < _ → j ≠ 6 → va (t * 12 + j) = V j := hva
  have hRo := hx.rob
  have hh6 : ty (t * 12 + 6) = some (b + 2) := (hty 6 (by omega)).trans hh
  have hT0 : ty (t * 12 + 7 + b) = R (7 + b) := by rw [show t * 12 + 7 + b = t * 12 + (7 + b) by omega]; exact hty _ (by omega)
  have hV0 : va (t * 12 + 7 + b) = V (7 + b) := by rw [show t * 12 + 7 + b = t * 12 + (7 + b) by omega]; exact hva _ (by omega) (by omega)
  have hT1 : ty (t * 12 + 7 + (b + 1)) = R (8 + b) := by rw [show t * 12 + 7 + (b + 1) = t * 12 + (8 + b) by omega]; exact hty _ (by omega)
  have hV1 : va (t * 12 + 7 + (b + 1)) = V (8 + b) := by rw [show t * 12 + 7 + (b + 1) = t * 12 + (8 + b) by omega]; exact hva _ (by omega) (by omega)
  refine jl_ofE (as := [.ref 13, .int (nI 4)]) rfl (by decide) hl (jl_cc rfl (jl_cc rfl jl_ca)) (Nat.le_of_ble_eq_true rfl) ?_
  show jl_E l G m_Ma_reckon (0, 0) 0 [some (.ref 13), some (.int (nI 4)), none, none] [] (σ) P
  refine er_aload_n d_Ma_reckon_0 rfl ?_
  refine er_getf d_Ma_reckon_1 f_Ma_reckon_31 hX rfl ?_
  refine er_aload_n d_Ma_reckon_4 rfl ?_
  refine er_callV (As := []) d_Ma_reckon_5 k_Ma_reckon_121 hX rfl rfl rfl (Nat.le_of_ble_eq_true rfl) (by decide) (by decide) (ma_takeA (h := b + 1) hl hX t1 t2 ht hh6 (by omega)) ?_
  show jl_E l G m_Ma_reckon (0, 0) 8 [some (.ref 13), some (.int (nI 4)), none, none] [.int (nI (t * 12 + 7 + (b + 1))), .ref 21] (σ.set (20) (.inl (0, 144, .inl (fun j => en ((va_up ty (t * 12 + 6) (some (b + 1))) j))))) P
  refine er_ialdQ (v := (V (8 + b))) d_Ma_reckon_8 (jl_sn (by decide) t2) (by omega) (by omega) (hV1) ?_
  refine er_istore_n d_Ma_reckon_9 (by decide) ?_
  show jl_E l G m_Ma_reckon (0, 0) 10 [some (.ref 13), some (.int (nI 4)), some (.int (V (8 + b))), none] [] (σ.set (20) (.inl (0, 144, .inl (fun j => en ((va_up ty (t * 12 + 6) (some (b + 1))) j))))) P
  refine er_aload_n d_Ma_reckon_10 rfl ?_
  refine er_getf d_Ma_reckon_11 f_Ma_reckon_31 (jl_sn (by decide) hX) rfl ?_
  refine er_aload_n d_Ma_reckon_14 rfl ?_
  refine er_callV (As := []) d_Ma_reckon_15 k_Ma_reckon_121 (jl_sn (by decide) hX) rfl rfl rfl (Nat.le_of_ble_eq_true rfl) (by decide) (by decide) (ma_takeA (h := b) hl (jl_sn (by decide) hX) (jl_ss t1) (jl_sn (by decide) t2) ht (va_up_self _ _ _) (by omega)) ?_
  show jl_E l G m_Ma_reckon (0, 0) 18 [some (.ref 13), some (.int (nI 4)), some (.int (V (8 + b))), none] [.int (nI (t * 12 + 7 + b)), .ref 21] ((σ.set (20) (.inl (0, 144, .inl (fun j => en ((va_up ty (t * 12 + 6) (some (b + 1))) j))))).set (20) (.inl (0, 144, .inl (fun j => en ((va_up (va_up ty (t * 12 + 6) (some (b + 1))) (t * 12 + 6) (some (b))) j))))) P
  refine er_ialdQ (v := (V (7 + b))) d_Ma_reckon_18 (jl_sn (by decide) (jl_sn (by decide) t2)) (by omega) (by omega) (hV0) ?_
  refine er_istore_n d_Ma_reckon_19 (by decide) ?_
  show jl_E l G m_Ma_reckon (0, 0) 20 [some (.ref 13), some (.int (nI 4)), some (.int (V (8 + b))), some (.int (V (7 + b)))] [] ((σ.set (20) (.inl (0, 144, .inl (fun j => en ((va_up ty (t * 12 + 6) (some (b + 1))) j))))).set (20) (.inl (0, 144, .inl (fun j => en ((va_up (va_up ty (t * 12 + 6) (some (b + 1))) (t * 12 + 6) (some (b))) j))))) P
  refine er_iload_n d_Ma_reckon_20 rfl ?_
  refine er_tableIn (off := 37) 58 d_Ma_reckon_21 (by decide +kernel) (by decide +kernel) (by decide +kernel) (by decide) ?_
  refine er_aload_n d_Ma_reckon_58 rfl ?_
  refine er_iconst ((nI (0))) d_Ma_reckon_59 (by decide) ?_
  refine er_iload_n d_Ma_reckon_60 rfl ?_
  refine er_iload_n d_Ma_reckon_61 rfl ?_
  refine er_isub d_Ma_reckon_62 ?_
  refine er_callV (As := [.int (nI 0), .int ((V (7 + b)) - (V (8 + b)))]) d_Ma_reckon_63 k_Ma_reckon_133 (jl_sn (by decide) (jl_sn (by decide) hX)) rfl rfl rfl (Nat.le_of_ble_eq_true rfl) (by decide) (by decide) (ma_put (h := b) (y := (some (0))) (v := ((V (7 + b)) - (V (8 + b)))) hl (jl_sn (by decide) (jl_sn (by decide) hX)) (jl_ss (jl_ss t1)) (jl_sn (by decide) (jl_sn (by decide) t2)) ht (va_up_self _ _ _) (by omega)) ?_
  show jl_E l G m_Ma_reckon (0, 0) 66 [some (.ref 13), some (.int (nI 4)), some (.int (V (8 + b))), some (.int (V (7 + b)))] [] (((((σ.set (20) (.inl (0, 144, .inl (fun j => en ((va_up ty (t * 12 + 6) (some (b + 1))) j))))).set (20) (.inl (0, 144, .inl (fun j => en ((va_up (va_up ty (t * 12 + 6) (some (b + 1))) (t * 12 + 6) (some (b))) j))))).set (20) (.inl (0, 144, .inl (fun j => en ((va_up (va_up (va_up ty (t * 12 + 6) (some (b + 1))) (t * 12 + 6) (some (b))) (t * 12 + 7 + b) (some (0))) j))))).set (21) (.inl (0, 144, .inl (upd va (t * 12 + 7 + b) ((V (7 + b)) - (V (8 + b))))))).set (20) (.inl (0, 144, .inl (fun j => en ((va_up (va_up (va_up (va_up ty (t * 12 + 6) (some (b + 1))) (t * 12 + 6) (some (b))) (t * 12 + 7 + b) (some (0))) (t * 12 + 6) (some (b + 1))) j))))) P
  refine er_iconst ((nI (0))) d_Ma_reckon_66 (by decide) ?_
  exact er_iret d_Ma_reckon_67 rfl (hT _ ⟨_, _, _, _, (jl_sn (by decide) (jl_sn (by decide) (jl_sn (by decide) (jl_sn (by decide) (jl_sn (by decide) hX))))), (jl_sn (by decide) (jl_sn (by decide) (jl_sn (by decide) (jl_sn (by decide) (jl_sn (by decide) u1))))), (jl_sn (by decide) (jl_sn (by decide) (jl_sn (by decide) (jl_sn (by decide) (jl_sn (by decide) u2))))), (jl_ss (jl_sn (by decide) (jl_ss (jl_ss (jl_ss t1))))), (jl_sn (by decide) (jl_ss (jl_sn (by decide) (jl_sn (by decide) (jl_sn (by decide) t2))))), ⟨(jl_sn (by decide) (jl_sn (by decide) (jl_sn (by decide) (jl_sn (by decide) (jl_sn (by decide) s0))))), (jl_sn (by decide) (jl_sn (by decide) (jl_sn (by decide) (jl_sn (by decide) (jl_sn (by decide) s1))))), (jl_sn (by decide) (jl_sn (by decide) (jl_sn (by decide) (jl_sn (by decide) (jl_sn (by decide) s2))))), (jl_sn (by decide) (jl_sn (by decide) (jl_sn (by decide) (jl_sn (by decide) (jl_sn (by decide) s3)))))⟩, ((((((((hx).six (y := some (b + 1)) (ob_s (by omega)))).six (y := some (b)) (ob_s (by omega)))).put (i := b) (y := (some (0))) (v := ((V (7 + b)) - (V (8 + b)))) (by omega) (by omega) (ob_s (by omega)))).cc (by first | rfl | simp only [psh_six, six_six]) (by first | rfl | simp only [psh_six, six_six])), hto, (((((hF.set (by omega)).set (by omega)).set (by omega)).set (by omega)).set (by omega))⟩) (by decide) (by decide)
theorem ma_act_4 (hl : l.stackTraces = false) {P : jl_O → jl_S → Prop}  (hk : KB σ0 mt σ (7 + (b + 2)) t m p (R) (V) (fs) (H) su dt dq aw) (ht : t < 12) (hh : R 6 = some (b + 2)) (hb : b + 2 ≤ 5)  (hT : ∀ σ', KB σ0 mt σ' (8 + b) t m p (psh R b (some 0)) (va_up V (7 + b) (V (7 + b) - V (8 + b))) (fs) (H) su dt dq aw → P (.inl (some (.int (nI 0)))) σ') : jl_mE l G m_Ma_actOnStack [.ref 13, .int (nI 4), .int (x)] σ P := by
  obtain ⟨uw, ps, ty, va, hX, u1, u2, t1, t2, hS, hx, hto, hF⟩ := id hk
  obtain ⟨s0, s1, s2, s3⟩ := id hS
  obtain ⟨⟨⟨a, hma, hua⟩, hps, hty, hva⟩, hfs, hln, hob⟩ := id hx
  have hma : mt m = some a := hma
  have hps : ps t = p := hps
  have hty : ∀ j, j < _ → ty (t * 12 + j) = R j := hty
  have hva : ∀ j, j < _ → j ≠ 6 → va (t * 12 + j) = V j := hva
  have hRo := hx.rob
  refine jl_ofE (as := [.ref 13, .int (nI 4), .int (x)]) rfl (by decide) hl (jl_cc rfl (jl_cc rfl (jl_cc rfl jl_ca))) (Nat.le_of_ble_eq_true rfl) ?_
  show jl_E l G m_Ma_actOnStack (0, 0) 0 [some (.ref 13), some (.int (nI 4)), some (.int (x)), none, none] [] (σ) P
  refine er_iload_n d_Ma_actOnStack_0 rfl ?_
  refine er_tableIn (off := 240) 241 d_Ma_actOnStack_1 (by decide +kernel) (by decide +kernel) (by decide +kernel) (by decide) ?_
  refine er_aload_n d_Ma_actOnStack_241 rfl ?_
  refine er_iload_n d_Ma_actOnStack_242 rfl ?_
  refine er_callVE (As := [.int (nI 4)]) d_Ma_actOnStack_243 k_Ma_actOnStack_155 hX rfl rfl rfl (Nat.le_of_ble_eq_true rfl) (by decide) (by decide) (ma_rek_4 hl hk ht hh hb  (fun σ hk => ⟨_, rfl, ?_⟩))
  show jl_E l G m_Ma_actOnStack (0, 0) 246 [some (.ref 13), some (.int (nI 4)), some (.int (x)), none, none] [.int (nI 0)] (σ) P
  exact er_iret d_Ma_actOnStack_246 rfl (hT _ hk) (by decide) (by decide)
theorem d_Ma_reckon_68 : decode m_Ma_reckon.2.1 68 = .ok (.aload_n 0, 1) := by decide +kernel
theorem d_Ma_reckon_69 : decode m_Ma_reckon.2.1 69 = .ok (.iconst 0, 1) := by decide +kernel
theorem d_Ma_reckon_70 : decode m_Ma_reckon.2.1 70 = .ok (.iload_n 3, 1) := by decide +kernel
theorem d_Ma_reckon_71 : decode m_Ma_reckon.2.1 71 = .ok (.iload_n 2, 1) := by decide +kernel
theorem d_Ma_reckon_72 : decode m_Ma_reckon.2.1 72 = .ok (.imul, 1) := by decide +kernel
theorem d_Ma_reckon_73 : decode m_Ma_reckon.2.1 73 = .ok (.invokevirtual 133, 3) := by decide +kernel
theorem d_Ma_reckon_76 : decode m_Ma_reckon.2.1 76 = .ok (.iconst 0, 1) := by decide +kernel
theorem d_Ma_reckon_77 : decode m_Ma_reckon.2.1 77 = .ok (.ireturn, 1) := by decide +kernel
theorem ma_rek_5 (hl : l.stackTraces = false) {P : jl_O → jl_S → Prop}  (hk : KB σ0 mt σ (7 + (b + 2)) t m p (R) (V) (fs) (H) su dt dq aw) (ht : t < 12) (hh : R 6 = some (b + 2)) (hb : b + 2 ≤ 5)  (hT : ∀ σ', KB σ0 mt σ' (8 + b) t m p (psh R b (some 0)) (va_up V (7 + b) (V (7 + b) * V (8 + b))) (fs) (H) su dt dq aw → P (.inl (some (.int (nI 0)))) σ') : jl_mE l G m_Ma_reckon [.ref 13, .int (nI 5)] σ P := by
  obtain ⟨uw, ps, ty, va, hX, u1, u2, t1, t2, hS, hx, hto, hF⟩ := id hk
  obtain ⟨s0, s1, s2, s3⟩ := id hS
  obtain ⟨⟨⟨a, hma, hua⟩, hps, hty, hva⟩, hfs, hln, hob⟩ := id hx
  have hma : mt m = some a := hma
  have hps : ps t = p := hps
  have hty : ∀ j, j < _ → ty (t * 12 + j) = R j := hty
  have hva : ∀ j, j < _ → j ≠ 6 → va (t * 12 + j) = V j := hva
  have hRo := hx.rob
  have hh6 : ty (t * 12 + 6) = some (b + 2) := (hty 6 (by omega)).trans hh
  have hT0 : ty (t * 12 + 7 + b) = R (7 + b) := by rw [show t * 12 + 7 + b = t * 12 + (7 + b) by omega]; exact hty _ (by omega)
  have hV0 : va (t * 12 + 7 + b) = V (7 + b) := by rw [show t * 12 + 7 + b = t * 12 + (7 + b) by omega]; exact hva _ (by omega) (by omega)
  have hT1 : ty (t * 12 + 7 + (b + 1)) = R (8 + b) := by rw [show t * 12 + 7 + (b + 1) = t * 12 + (8 + b) by omega]; exact hty _ (by omega)
  have hV1 : va (t * 12 + 7 + (b + 1)) = V (8 + b) := by rw [show t * 12 + 7 + (b + 1) = t * 12 + (8 + b) by omega]; exact hva _ (by omega) (by omega)
  refine jl_ofE (as := [.ref 13, .int (nI 5)]) rfl (by decide) hl (jl_cc rfl (jl_cc rfl jl_ca)) (Nat.le_of_ble_eq_true rfl) ?_
  show jl_E l G m_Ma_reckon (0, 0) 0 [some (.ref 13), some (.int (nI 5)), none, none] [] (σ) P
  refine er_aload_n d_Ma_reckon_0 rfl ?_
  refine er_getf d_Ma_reckon_1 f_Ma_reckon_31 hX rfl ?_
  refine er_aload_n d_Ma_reckon_4 rfl ?_
  refine er_callV (As := []) d_Ma_reckon_5 k_Ma_reckon_121 hX rfl rfl rfl (Nat.le_of_ble_eq_true rfl) (by decide) (by decide) (ma_takeA (h := b + 1) hl hX t1 t2 ht hh6 (by omega)) ?_
  show jl_E l G m_Ma_reckon (0, 0) 8 [some (.ref 13), some (.int (nI 5)), none, none] [.int (nI (t * 12 + 7 + (b + 1))), .ref 21] (σ.set (20) (.inl (0, 144, .inl (fun j => en ((va_up ty (t * 12 + 6) (some (b + 1))) j))))) P
  refine er_ialdQ (v := (V (8 + b))) d_Ma_reckon_8 (jl_sn (by decide) t2) (by omega) (by omega) (hV1) ?_
  refine er_istore_n d_Ma_reckon_9 (by decide) ?_
  show jl_E l G m_Ma_reckon (0, 0) 10 [some (.ref 13), some (.int (nI 5)), some (.int (V (8 + b))), none] [] (σ.set (20) (.inl (0, 144, .inl (fun j => en ((va_up ty (t * 12 + 6) (some (b + 1))) j))))) P
  refine er_aload_n d_Ma_reckon_10 rfl ?_
  refine er_getf d_Ma_reckon_11 f_Ma_reckon_31 (jl_sn (by decide) hX) rfl ?_
  refine er_aload_n d_Ma_reckon_14 rfl ?_
  refine er_callV (As := []) d_Ma_reckon_15 k_Ma_reckon_121 (jl_sn (by decide) hX) rfl rfl rfl (Nat.le_of_ble_eq_true rfl) (by decide) (by decide) (ma_takeA (h := b) hl (jl_sn (by decide) hX) (jl_ss t1) (jl_sn (by decide) t2) ht (va_up_self _ _ _) (by omega)) ?_
  show jl_E l G m_Ma_reckon (0, 0) 18 [some (.ref 13), some (.int (nI 5)), some (.int (V (8 + b))), none] [.int (nI (t * 12 + 7 + b)), .ref 21] ((σ.set (20) (.inl (0, 144, .inl (fun j => en ((va_up ty (t * 12 + 6) (some (b + 1))) j))))).set (20) (.inl (0, 144, .inl (fun j => en ((va_up (va_up ty (t * 12 + 6) (some (b + 1))) (t * 12 + 6) (some (b))) j))))) P
  refine er_ialdQ (v := (V (7 + b))) d_Ma_reckon_18 (jl_sn (by decide) (jl_sn (by decide) t2)) (by omega) (by omega) (hV0) ?_
  refine er_istore_n d_Ma_reckon_19 (by decide) ?_
  show jl_E l G m_Ma_reckon (0, 0) 20 [some (.ref 13), some (.int (nI 5)), some (.int (V (8 + b))), some (.int (V (7 + b)))] [] ((σ.set (20) (.inl (0, 144, .inl (fun j => en ((va_up ty (t * 12 + 6) (some (b + 1))) j))))).set (20) (.inl (0, 144, .inl (fun j => en ((va_up (va_up ty (t * 12 + 6) (some (b + 1))) (t * 12 + 6) (some (b))) j))))) P
  refine er_iload_n d_Ma_reckon_20 rfl ?_
  refine er_tableIn (off := 47) 68 d_Ma_reckon_21 (by decide +kernel) (by decide +kernel) (by decide +kernel) (by decide) ?_
  refine er_aload_n d_Ma_reckon_68 rfl ?_
  refine er_iconst ((nI (0))) d_Ma_reckon_69 (by decide) ?_
  refine er_iload_n d_Ma_reckon_70 rfl ?_
  refine er_iload_n d_Ma_reckon_71 rfl ?_
  refine er_imul d_Ma_reckon_72 ?_
  refine er_callV (As := [.int (nI 0), .int ((V (7 + b)) * (V (8 + b)))]) d_Ma_reckon_73 k_Ma_reckon_133 (jl_sn (by decide) (jl_sn (by decide) hX)) rfl rfl rfl (Nat.le_of_ble_eq_true rfl) (by decide) (by decide) (ma_put (h := b) (y := (some (0))) (v := ((V (7 + b)) * (V (8 + b)))) hl (jl_sn (by decide) (jl_sn (by decide) hX)) (jl_ss (jl_ss t1)) (jl_sn (by decide) (jl_sn (by decide) t2)) ht (va_up_self _ _ _) (by omega)) ?_
  show jl_E l G m_Ma_reckon (0, 0) 76 [some (.ref 13), some (.int (nI 5)), some (.int (V (8 + b))), some (.int (V (7 + b)))] [] (((((σ.set (20) (.inl (0, 144, .inl (fun j => en ((va_up ty (t * 12 + 6) (some (b + 1))) j))))).set (20) (.inl (0, 144, .inl (fun j => en ((va_up (va_up ty (t * 12 + 6) (some (b + 1))) (t * 12 + 6) (some (b))) j))))).set (20) (.inl (0, 144, .inl (fun j => en ((va_up (va_up (va_up ty (t * 12 + 6) (some (b + 1))) (t * 12 + 6) (some (b))) (t * 12 + 7 + b) (some (0))) j))))).set (21) (.inl (0, 144, .inl (upd va (t * 12 + 7 + b) ((V (7 + b)) * (V (8 + b))))))).set (20) (.inl (0, 144, .inl (fun j => en ((va_up (va_up (va_up (va_up ty (t * 12 + 6) (some (b + 1))) (t * 12 + 6) (some (b))) (t * 12 + 7 + b) (some (0))) (t * 12 + 6) (some (b + 1))) j))))) P
  refine er_iconst ((nI (0))) d_Ma_reckon_76 (by decide) ?_
  exact er_iret d_Ma_reckon_77 rfl (hT _ ⟨_, _, _, _, (jl_sn (by decide) (jl_sn (by decide) (jl_sn (by decide) (jl_sn (by decide) (jl_sn (by decide) hX))))), (jl_sn (by decide) (jl_sn (by decide) (jl_sn (by decide) (jl_sn (by decide) (jl_sn (by decide) u1))))), (jl_sn (by decide) (jl_sn (by decide) (jl_sn (by decide) (jl_sn (by decide) (jl_sn (by decide) u2))))), (jl_ss (jl_sn (by decide) (jl_ss (jl_ss (jl_ss t1))))), (jl_sn (by decide) (jl_ss (jl_sn (by decide) (jl_sn (by decide) (jl_sn (by decide) t2))))), ⟨(jl_sn (by decide) (jl_sn (by decide) (jl_sn (by decide) (jl_sn (by decide) (jl_sn (by decide) s0))))), (jl_sn (by decide) (jl_sn (by decide) (jl_sn (by decide) (jl_sn (by decide) (jl_sn (by decide) s1))))), (jl_sn (by decide) (jl_sn (by decide) (jl_sn (by decide) (jl_sn (by decide) (jl_sn (by decide) s2))))), (jl_sn (by decide) (jl_sn (by decide) (jl_sn (by decide) (jl_sn (by decide) (jl_sn (by decide) s3)))))⟩, ((((((((hx).six (y := some (b + 1)) (ob_s (by omega)))).six (y := some (b)) (ob_s (by omega)))).put (i := b) (y := (some (0))) (v := ((V (7 + b)) * (V (8 + b)))) (by omega) (by omega) (ob_s (by omega)))).cc (by first | rfl | simp only [psh_six, six_six]) (by first | rfl | simp only [psh_six, six_six])), hto, (((((hF.set (by omega)).set (by omega)).set (by omega)).set (by omega)).set (by omega))⟩) (by decide) (by decide)
theorem ma_act_5 (hl : l.stackTraces = false) {P : jl_O → jl_S → Prop}  (hk : KB σ0 mt σ (7 + (b + 2)) t m p (R) (V) (fs) (H) su dt dq aw) (ht : t < 12) (hh : R 6 = some (b + 2)) (hb : b + 2 ≤ 5)  (hT : ∀ σ', KB σ0 mt σ' (8 + b) t m p (psh R b (some 0)) (va_up V (7 + b) (V (7 + b) * V (8 + b))) (fs) (H) su dt dq aw → P (.inl (some (.int (nI 0)))) σ') : jl_mE l G m_Ma_actOnStack [.ref 13, .int (nI 5), .int (x)] σ P := by
  obtain ⟨uw, ps, ty, va, hX, u1, u2, t1, t2, hS, hx, hto, hF⟩ := id hk
  obtain ⟨s0, s1, s2, s3⟩ := id hS
  obtain ⟨⟨⟨a, hma, hua⟩, hps, hty, hva⟩, hfs, hln, hob⟩ := id hx
  have hma : mt m = some a := hma
  have hps : ps t = p := hps
  have hty : ∀ j, j < _ → ty (t * 12 + j) = R j := hty
  have hva : ∀ j, j < _ → j ≠ 6 → va (t * 12 + j) = V j := hva
  have hRo := hx.rob
  refine jl_ofE (as := [.ref 13, .int (nI 5), .int (x)]) rfl (by decide) hl (jl_cc rfl (jl_cc rfl (jl_cc rfl jl_ca))) (Nat.le_of_ble_eq_true rfl) ?_
  show jl_E l G m_Ma_actOnStack (0, 0) 0 [some (.ref 13), some (.int (nI 5)), some (.int (x)), none, none] [] (σ) P
  refine er_iload_n d_Ma_actOnStack_0 rfl ?_
  refine er_tableIn (off := 240) 241 d_Ma_actOnStack_1 (by decide +kernel) (by decide +kernel) (by decide +kernel) (by decide) ?_
  refine er_aload_n d_Ma_actOnStack_241 rfl ?_
  refine er_iload_n d_Ma_actOnStack_242 rfl ?_
  refine er_callVE (As := [.int (nI 5)]) d_Ma_actOnStack_243 k_Ma_actOnStack_155 hX rfl rfl rfl (Nat.le_of_ble_eq_true rfl) (by decide) (by decide) (ma_rek_5 hl hk ht hh hb  (fun σ hk => ⟨_, rfl, ?_⟩))
  show jl_E l G m_Ma_actOnStack (0, 0) 246 [some (.ref 13), some (.int (nI 5)), some (.int (x)), none, none] [.int (nI 0)] (σ) P
  exact er_iret d_Ma_actOnStack_246 rfl (hT _ hk) (by decide) (by decide)
theorem d_Ma_reckon_78 : decode m_Ma_reckon.2.1 78 = .ok (.iload_n 2, 1) := by decide +kernel
theorem d_Ma_reckon_79 : decode m_Ma_reckon.2.1 79 = .ok (.ifCond .ne 5, 3) := by decide +kernel
theorem d_Ma_reckon_84 : decode m_Ma_reckon.2.1 84 = .ok (.aload_n 0, 1) := by decide +kernel
theorem d_Ma_reckon_85 : decode m_Ma_reckon.2.1 85 = .ok (.iconst 0, 1) := by decide +kernel
theorem d_Ma_reckon_86 : decode m_Ma_reckon.2.1 86 = .ok (.iload_n 3, 1) := by decide +kernel
theorem d_Ma_reckon_87 : decode m_Ma_reckon.2.1 87 = .ok (.iload_n 2, 1) := by decide +kernel
theorem d_Ma_reckon_88 : decode m_Ma_reckon.2.1 88 = .ok (.idiv, 1) := by decide +kernel
theorem d_Ma_reckon_89 : decode m_Ma_reckon.2.1 89 = .ok (.invokevirtual 133, 3) := by decide +kernel
theorem d_Ma_reckon_92 : decode m_Ma_reckon.2.1 92 = .ok (.iconst 0, 1) := by decide +kernel
theorem d_Ma_reckon_93 : decode m_Ma_reckon.2.1 93 = .ok (.ireturn, 1) := by decide +kernel
theorem ma_rek_6 (hl : l.stackTraces = false) {P : jl_O → jl_S → Prop}  (hk : KB σ0 mt σ (7 + (b + 2)) t m p (R) (V) (fs) (H) su dt dq aw) (ht : t < 12) (hh : R 6 = some (b + 2)) (hb : b + 2 ≤ 5) (hq0 : ¬ V (8 + b) = 0) (hT : ∀ σ', KB σ0 mt σ' (8 + b) t m p (psh R b (some 0)) (va_up V (7 + b) (V (7 + b) / V (8 + b))) (fs) (H) su dt dq aw → P (.inl (some (.int (nI 0)))) σ') : jl_mE l G m_Ma_reckon [.ref 13, .int (nI 6)] σ P := by
  obtain ⟨uw, ps, ty, va, hX, u1, u2, t1, t2, hS, hx, hto, hF⟩ := id hk
  obtain ⟨s0, s1, s2, s3⟩ := id hS
  obtain ⟨⟨⟨a, hma, hua⟩, hps, hty, hva⟩, hfs, hln, hob⟩ := id hx
  have hma : mt m = some a := hma
  have hps : ps t = p := hps
  have hty : ∀ j, j < _ → ty (t * 12 + j) = R j := hty
  have hva : ∀ j, j < _ → j ≠ 6 → va (t * 12 + j) = V j := hva
  have hRo := hx.rob
  have hh6 : ty (t * 12 + 6) = some (b + 2) := (hty 6 (by omega)).trans hh
  have hT0 : ty (t * 12 + 7 + b) = R (7 + b) := by rw [show t * 12 + 7 + b = t * 12 + (7 + b) by omega]; exact hty _ (by omega)
  have hV0 : va (t * 12 + 7 + b) = V (7 + b) := by rw [show t * 12 + 7 + b = t * 12 + (7 + b) by omega]; exact hva _ (by omega) (by omega)
  have hT1 : ty (t * 12 + 7 + (b + 1)) = R (8 + b) := by rw [show t * 12 + 7 + (b + 1) = t * 12 + (8 + b) by omega]; exact hty _ (by omega)
  have hV1 : va (t * 12 + 7 + (b + 1)) = V (8 + b) := by rw [show t * 12 + 7 + (b + 1) = t * 12 + (8 + b) by omega]; exact hva _ (by omega) (by omega)
  refine jl_ofE (as := [.ref 13, .int (nI 6)]) rfl (by decide) hl (jl_cc rfl (jl_cc rfl jl_ca)) (Nat.le_of_ble_eq_true rfl) ?_
  show jl_E l G m_Ma_reckon (0, 0) 0 [some (.ref 13), some (.int (nI 6)), none, none] [] (σ) P
  refine er_aload_n d_Ma_reckon_0 rfl ?_
  refine er_getf d_Ma_reckon_1 f_Ma_reckon_31 hX rfl ?_
  refine er_aload_n d_Ma_reckon_4 rfl ?_
  refine er_callV (As := []) d_Ma_reckon_5 k_Ma_reckon_121 hX rfl rfl rfl (Nat.le_of_ble_eq_true rfl) (by decide) (by decide) (ma_takeA (h := b + 1) hl hX t1 t2 ht hh6 (by omega)) ?_
  show jl_E l G m_Ma_reckon (0, 0) 8 [some (.ref 13), some (.int (nI 6)), none, none] [.int (nI (t * 12 + 7 + (b + 1))), .ref 21] (σ.set (20) (.inl (0, 144, .inl (fun j => en ((va_up ty (t * 12 + 6) (some (b + 1))) j))))) P
  refine er_ialdQ (v := (V (8 + b))) d_Ma_reckon_8 (jl_sn (by decide) t2) (by omega) (by omega) (hV1) ?_
  refine er_istore_n d_Ma_reckon_9 (by decide) ?_
  show jl_E l G m_Ma_reckon (0, 0) 10 [some (.ref 13), some (.int (nI 6)), some (.int (V (8 + b))), none] [] (σ.set (20) (.inl (0, 144, .inl (fun j => en ((va_up ty (t * 12 + 6) (some (b + 1))) j))))) P
  refine er_aload_n d_Ma_reckon_10 rfl ?_
  refine er_getf d_Ma_reckon_11 f_Ma_reckon_31 (jl_sn (by decide) hX) rfl ?_
  refine er_aload_n d_Ma_reckon_14 rfl ?_
  refine er_callV (As := []) d_Ma_reckon_15 k_Ma_reckon_121 (jl_sn (by decide) hX) rfl rfl rfl (Nat.le_of_ble_eq_true rfl) (by decide) (by decide) (ma_takeA (h := b) hl (jl_sn (by decide) hX) (jl_ss t1) (jl_sn (by decide) t2) ht (va_up_self _ _ _) (by omega)) ?_
  show jl_E l G m_Ma_reckon (0, 0) 18 [some (.ref 13), some (.int (nI 6)), some (.int (V (8 + b))), none] [.int (nI (t * 12 + 7 + b)), .ref 21] ((σ.set (20) (.inl (0, 144, .inl (fun j => en ((va_up ty (t * 12 + 6) (some (b + 1))) j))))).set (20) (.inl (0, 144, .inl (fun j => en ((va_up (va_up ty (t * 12 + 6) (some (b + 1))) (t * 12 + 6) (some (b))) j))))) P
  refine er_ialdQ (v := (V (7 + b))) d_Ma_reckon_18 (jl_sn (by decide) (jl_sn (by decide) t2)) (by omega) (by omega) (hV0) ?_
  refine er_istore_n d_Ma_reckon_19 (by decide) ?_
  show jl_E l G m_Ma_reckon (0, 0) 20 [some (.ref 13), some (.int (nI 6)), some (.int (V (8 + b))), some (.int (V (7 + b)))] [] ((σ.set (20) (.inl (0, 144, .inl (fun j => en ((va_up ty (t * 12 + 6) (some (b + 1))) j))))).set (20) (.inl (0, 144, .inl (fun j => en ((va_up (va_up ty (t * 12 + 6) (some (b + 1))) (t * 12 + 6) (some (b))) j))))) P
  refine er_iload_n d_Ma_reckon_20 rfl ?_
  refine er_tableOut 78 d_Ma_reckon_21 (by decide +kernel) (by decide) ?_
  refine er_iload_n d_Ma_reckon_78 rfl ?_
  refine er_if_ne 84 d_Ma_reckon_79 (by decide) (fun _ => ?_) (fun z => absurd z (hq0))
  refine er_aload_n d_Ma_reckon_84 rfl ?_
  refine er_iconst ((nI (0))) d_Ma_reckon_85 (by decide) ?_
  refine er_iload_n d_Ma_reckon_86 rfl ?_
  refine er_iload_n d_Ma_reckon_87 rfl ?_
  refine er_idiv d_Ma_reckon_88 (by assumption) ?_
  refine er_callV (As := [.int (nI 0), .int ((V (7 + b)) / (V (8 + b)))]) d_Ma_reckon_89 k_Ma_reckon_133 (jl_sn (by decide) (jl_sn (by decide) hX)) rfl rfl rfl (Nat.le_of_ble_eq_true rfl) (by decide) (by decide) (ma_put (h := b) (y := (some (0))) (v := ((V (7 + b)) / (V (8 + b)))) hl (jl_sn (by decide) (jl_sn (by decide) hX)) (jl_ss (jl_ss t1)) (jl_sn (by decide) (jl_sn (by decide) t2)) ht (va_up_self _ _ _) (by omega)) ?_
  show jl_E l G m_Ma_reckon (0, 0) 92 [some (.ref 13), some (.int (nI 6)), some (.int (V (8 + b))), some (.int (V (7 + b)))] [] (((((σ.set (20) (.inl (0, 144, .inl (fun j => en ((va_up ty (t * 12 + 6) (some (b + 1))) j))))).set (20) (.inl (0, 144, .inl (fun j => en ((va_up (va_up ty (t * 12 + 6) (some (b + 1))) (t * 12 + 6) (some (b))) j))))).set (20) (.inl (0, 144, .inl (fun j => en ((va_up (va_up (va_up ty (t * 12 + 6) (some (b + 1))) (t * 12 + 6) (some (b))) (t * 12 + 7 + b) (some (0))) j))))).set (21) (.inl (0, 144, .inl (upd va (t * 12 + 7 + b) ((V (7 + b)) / (V (8 + b))))))).set (20) (.inl (0, 144, .inl (fun j => en ((va_up (va_up (va_up (va_up ty (t * 12 + 6) (some (b + 1))) (t * 12 + 6) (some (b))) (t * 12 + 7 + b) (some (0))) (t * 12 + 6) (some (b + 1))) j))))) P
  refine er_iconst ((nI (0))) d_Ma_reckon_92 (by decide) ?_
  exact er_iret d_Ma_reckon_93 rfl (hT _ ⟨_, _, _, _, (jl_sn (by decide) (jl_sn (by decide) (jl_sn (by decide) (jl_sn (by decide) (jl_sn (by decide) hX))))), (jl_sn (by decide) (jl_sn (by decide) (jl_sn (by decide) (jl_sn (by decide) (jl_sn (by decide) u1))))), (jl_sn (by decide) (jl_sn (by decide) (jl_sn (by decide) (jl_sn (by decide) (jl_sn (by decide) u2))))), (jl_ss (jl_sn (by decide) (jl_ss (jl_ss (jl_ss t1))))), (jl_sn (by decide) (jl_ss (jl_sn (by decide) (jl_sn (by decide) (jl_sn (by decide) t2))))), ⟨(jl_sn (by decide) (jl_sn (by decide) (jl_sn (by decide) (jl_sn (by decide) (jl_sn (by decide) s0))))), (jl_sn (by decide) (jl_sn (by decide) (jl_sn (by decide) (jl_sn (by decide) (jl_sn (by decide) s1))))), (jl_sn (by decide) (jl_sn (by decide) (jl_sn (by decide) (jl_sn (by decide) (jl_sn (by decide) s2))))), (jl_sn (by decide) (jl_sn (by decide) (jl_sn (by decide) (jl_sn (by decide) (jl_sn (by decide) s3)))))⟩, ((((((((hx).six (y := some (b + 1)) (ob_s (by omega)))).six (y := some (b)) (ob_s (by omega)))).put (i := b) (y := (some (0))) (v := ((V (7 + b)) / (V (8 + b)))) (by omega) (by omega) (ob_s (by omega)))).cc (by first | rfl | simp only [psh_six, six_six]) (by first | rfl | simp only [psh_six, six_six])), hto, (((((hF.set (by omega)).set (by omega)).set (by omega)).set (by omega)).set (by omega))⟩) (by decide) (by decide)
theorem ma_act_6 (hl : l.stackTraces = false) {P : jl_O → jl_S → Prop}  (hk : KB σ0 mt σ (7 + (b + 2)) t m p (R) (V) (fs) (H) su dt dq aw) (ht : t < 12) (hh : R 6 = some (b + 2)) (hb : b + 2 ≤ 5) (hq0 : ¬ V (8 + b) = 0) (hT : ∀ σ', KB σ0 mt σ' (8 + b) t m p (psh R b (some 0)) (va_up V (7 + b) (V (7 + b) / V (8 + b))) (fs) (H) su dt dq aw → P (.inl (some (.int (nI 0)))) σ') : jl_mE l G m_Ma_actOnStack [.ref 13, .int (nI 6), .int (x)] σ P := by
  obtain ⟨uw, ps, ty, va, hX, u1, u2, t1, t2, hS, hx, hto, hF⟩ := id hk
  obtain ⟨s0, s1, s2, s3⟩ := id hS
  obtain ⟨⟨⟨a, hma, hua⟩, hps, hty, hva⟩, hfs, hln, hob⟩ := id hx
  have hma : mt m = some a := hma
  have hps : ps t = p := hps
  have hty : ∀ j, j < _ → ty (t * 12 + j) = R j := hty
  have hva : ∀ j, j < _ → j ≠ 6 → va (t * 12 + j) = V j := hva
  have hRo := hx.rob
  refine jl_ofE (as := [.ref 13, .int (nI 6), .int (x)]) rfl (by decide) hl (jl_cc rfl (jl_cc rfl (jl_cc rfl jl_ca))) (Nat.le_of_ble_eq_true rfl) ?_
  show jl_E l G m_Ma_actOnStack (0, 0) 0 [some (.ref 13), some (.int (nI 6)), some (.int (x)), none, none] [] (σ) P
  refine er_iload_n d_Ma_actOnStack_0 rfl ?_
  refine er_tableIn (off := 240) 241 d_Ma_actOnStack_1 (by decide +kernel) (by decide +kernel) (by decide +kernel) (by decide) ?_
  refine er_aload_n d_Ma_actOnStack_241 rfl ?_
  refine er_iload_n d_Ma_actOnStack_242 rfl ?_
  refine er_callVE (As := [.int (nI 6)]) d_Ma_actOnStack_243 k_Ma_actOnStack_155 hX rfl rfl rfl (Nat.le_of_ble_eq_true rfl) (by decide) (by decide) (ma_rek_6 hl hk ht hh hb hq0 (fun σ hk => ⟨_, rfl, ?_⟩))
  show jl_E l G m_Ma_actOnStack (0, 0) 246 [some (.ref 13), some (.int (nI 6)), some (.int (x)), none, none] [.int (nI 0)] (σ) P
  exact er_iret d_Ma_actOnStack_246 rfl (hT _ hk) (by decide) (by decide)
theorem d_Ma_reckon_82 : decode m_Ma_reckon.2.1 82 = .ok (.iconst 1, 1) := by decide +kernel
theorem d_Ma_reckon_83 : decode m_Ma_reckon.2.1 83 = .ok (.ireturn, 1) := by decide +kernel
theorem ma_rek_6z (hl : l.stackTraces = false) {P : jl_O → jl_S → Prop}  (hk : KB σ0 mt σ (7 + (b + 2)) t m p (R) (V) (fs) (H) su dt dq aw) (ht : t < 12) (hh : R 6 = some (b + 2)) (hb : b + 2 ≤ 5) (hq0 : V (8 + b) = 0) (hT : ∀ σ', KB σ0 mt σ' (6) t m p (R) (V) (fs) (H) su dt dq aw → P (.inl (some (.int (nI 1)))) σ') : jl_mE l G m_Ma_reckon [.ref 13, .int (nI 6)] σ P := by
  obtain ⟨uw, ps, ty, va, hX, u1, u2, t1, t2, hS, hx, hto, hF⟩ := id hk
  obtain ⟨s0, s1, s2, s3⟩ := id hS
  obtain ⟨⟨⟨a, hma, hua⟩, hps, hty, hva⟩, hfs, hln, hob⟩ := id hx
  have hma : mt m = some a := hma
  have hps : ps t = p := hps
  have hty : ∀ j, j < _ → ty (t * 12 + j) = R j := hty
  have hva : ∀ j, j < _ → j ≠ 6 → va (t * 12 + j) = V j := hva
  have hRo := hx.rob
  have hh6 : ty (t * 12 + 6) = some (b + 2) := (hty 6 (by omega)).trans hh
  have hT0 : ty (t * 12 + 7 + b) = R (7 + b) := by rw [show t * 12 + 7 + b = t * 12 + (7 + b) by omega]; exact hty _ (by omega)
  have hV0 : va (t * 12 + 7 + b) = V (7 + b) := by rw [show t * 12 + 7 + b = t * 12 + (7 + b) by omega]; exact hva _ (by omega) (by omega)
  have hT1 : ty (t * 12 + 7 + (b + 1)) = R (8 + b) := by rw [show t * 12 + 7 + (b + 1) = t * 12 + (8 + b) by omega]; exact hty _ (by omega)
  have hV1 : va (t * 12 + 7 + (b + 1)) = V (8 + b) := by rw [show t * 12 + 7 + (b + 1) = t * 12 + (8 + b) by omega]; exact hva _ (by omega) (by omega)
  refine jl_ofE (as := [.ref 13, .int (nI 6)]) rfl (by decide) hl (jl_cc rfl (jl_cc rfl jl_ca)) (Nat.le_of_ble_eq_true rfl) ?_
  show jl_E l G m_Ma_reckon (0, 0) 0 [some (.ref 13), some (.int (nI 6)), none, none] [] (σ) P
  refine er_aload_n d_Ma_reckon_0 rfl ?_
  refine er_getf d_Ma_reckon_1 f_Ma_reckon_31 hX rfl ?_
  refine er_aload_n d_Ma_reckon_4 rfl ?_
  refine er_callV (As := []) d_Ma_reckon_5 k_Ma_reckon_121 hX rfl rfl rfl (Nat.le_of_ble_eq_true rfl) (by decide) (by decide) (ma_takeA (h := b + 1) hl hX t1 t2 ht hh6 (by omega)) ?_
  show jl_E l G m_Ma_reckon (0, 0) 8 [some (.ref 13), some (.int (nI 6)), none, none] [.int (nI (t * 12 + 7 + (b + 1))), .ref 21] (σ.set (20) (.inl (0, 144, .inl (fun j => en ((va_up ty (t * 12 + 6) (some (b + 1))) j))))) P
  refine er_ialdQ (v := (V (8 + b))) d_Ma_reckon_8 (jl_sn (by decide) t2) (by omega) (by omega) (hV1) ?_
  refine er_istore_n d_Ma_reckon_9 (by decide) ?_
  show jl_E l G m_Ma_reckon (0, 0) 10 [some (.ref 13), some (.int (nI 6)), some (.int (V (8 + b))), none] [] (σ.set (20) (.inl (0, 144, .inl (fun j => en ((va_up ty (t * 12 + 6) (some (b + 1))) j))))) P
  refine er_aload_n d_Ma_reckon_10 rfl ?_
  refine er_getf d_Ma_reckon_11 f_Ma_reckon_31 (jl_sn (by decide) hX) rfl ?_
  refine er_aload_n d_Ma_reckon_14 rfl ?_
  refine er_callV (As := []) d_Ma_reckon_15 k_Ma_reckon_121 (jl_sn (by decide) hX) rfl rfl rfl (Nat.le_of_ble_eq_true rfl) (by decide) (by decide) (ma_takeA (h := b) hl (jl_sn (by decide) hX) (jl_ss t1) (jl_sn (by decide) t2) ht (va_up_self _ _ _) (by omega)) ?_
  show jl_E l G m_Ma_reckon (0, 0) 18 [some (.ref 13), some (.int (nI 6)), some (.int (V (8 + b))), none] [.int (nI (t * 12 + 7 + b)), .ref 21] ((σ.set (20) (.inl (0, 144, .inl (fun j => en ((va_up ty (t * 12 + 6) (some (b + 1))) j))))).set (20) (.inl (0, 144, .inl (fun j => en ((va_up (va_up ty (t * 12 + 6) (some (b + 1))) (t * 12 + 6) (some (b))) j))))) P
  refine er_ialdQ (v := (V (7 + b))) d_Ma_reckon_18 (jl_sn (by decide) (jl_sn (by decide) t2)) (by omega) (by omega) (hV0) ?_
  refine er_istore_n d_Ma_reckon_19 (by decide) ?_
  show jl_E l G m_Ma_reckon (0, 0) 20 [some (.ref 13), some (.int (nI 6)), some (.int (V (8 + b))), some (.int (V (7 + b)))] [] ((σ.set (20) (.inl (0, 144, .inl (fun j => en ((va_up ty (t * 12 + 6) (some (b + 1))) j))))).set (20) (.inl (0, 144, .inl (fun j => en ((va_up (va_up ty (t * 12 + 6) (some (b + 1))) (t * 12 + 6) (some (b))) j))))) P
  refine er_iload_n d_Ma_reckon_20 rfl ?_
  refine er_tableOut 78 d_Ma_reckon_21 (by decide +kernel) (by decide) ?_
  refine er_iload_n d_Ma_reckon_78 rfl ?_
  refine er_if_ne 84 d_Ma_reckon_79 (by decide) (fun z => absurd (hq0) z) (fun _ => ?_)
  refine er_iconst ((nI (1))) d_Ma_reckon_82 (by decide) ?_
  exact er_iret d_Ma_reckon_83 rfl (hT _ ⟨_, _, _, _, (jl_sn (by decide) (jl_sn (by decide) hX)), (jl_sn (by decide) (jl_sn (by decide) u1)), (jl_sn (by decide) (jl_sn (by decide) u2)), (jl_ss (jl_ss t1)), (jl_sn (by decide) (jl_sn (by decide) t2)), ⟨(jl_sn (by decide) (jl_sn (by decide) s0)), (jl_sn (by decide) (jl_sn (by decide) s1)), (jl_sn (by decide) (jl_sn (by decide) s2)), (jl_sn (by decide) (jl_sn (by decide) s3))⟩, (((((hx).six (y := some (b + 1)) (ob_s (by omega)))).six (y := some (b)) (ob_s (by omega)))).lo (by omega) (fun j hj => ⟨by simp only [va_up, psh, if_neg (show ¬ j = 6 by omega), if_neg (show ¬ j = 7 + b by omega)], by simp only [va_up, psh, if_neg (show ¬ j = 6 by omega), if_neg (show ¬ j = 7 + b by omega)]⟩), hto, ((hF.set (by omega)).set (by omega))⟩) (by decide) (by decide)
theorem ma_act_6z (hl : l.stackTraces = false) {P : jl_O → jl_S → Prop}  (hk : KB σ0 mt σ (7 + (b + 2)) t m p (R) (V) (fs) (H) su dt dq aw) (ht : t < 12) (hh : R 6 = some (b + 2)) (hb : b + 2 ≤ 5) (hq0 : V (8 + b) = 0) (hT : ∀ σ', KB σ0 mt σ' (6) t m p (R) (V) (fs) (H) su dt dq aw → P (.inl (some (.int (nI 1)))) σ') : jl_mE l G m_Ma_actOnStack [.ref 13, .int (nI 6), .int (x)] σ P := by
  obtain ⟨uw, ps, ty, va, hX, u1, u2, t1, t2, hS, hx, hto, hF⟩ := id hk
  obtain ⟨s0, s1, s2, s3⟩ := id hS
  obtain ⟨⟨⟨a, hma, hua⟩, hps, hty, hva⟩, hfs, hln, hob⟩ := id hx
  have hma : mt m = some a := hma
  have hps : ps t = p := hps
  have hty : ∀ j, j < _ → ty (t * 12 + j) = R j := hty
  have hva : ∀ j, j < _ → j ≠ 6 → va (t * 12 + j) = V j := hva
  have hRo := hx.rob
  refine jl_ofE (as := [.ref 13, .int (nI 6), .int (x)]) rfl (by decide) hl (jl_cc rfl (jl_cc rfl (jl_cc rfl jl_ca))) (Nat.le_of_ble_eq_true rfl) ?_
  show jl_E l G m_Ma_actOnStack (0, 0) 0 [some (.ref 13), some (.int (nI 6)), some (.int (x)), none, none] [] (σ) P
  refine er_iload_n d_Ma_actOnStack_0 rfl ?_
  refine er_tableIn (off := 240) 241 d_Ma_actOnStack_1 (by decide +kernel) (by decide +kernel) (by decide +kernel) (by decide) ?_
  refine er_aload_n d_Ma_actOnStack_241 rfl ?_
  refine er_iload_n d_Ma_actOnStack_242 rfl ?_
  refine er_callVE (As := [.int (nI 6)]) d_Ma_actOnStack_243 k_Ma_actOnStack_155 hX rfl rfl rfl (Nat.le_of_ble_eq_true rfl) (by decide) (by decide) (ma_rek_6z hl hk ht hh hb hq0 (fun σ hk => ⟨_, rfl, ?_⟩))
  show jl_E l G m_Ma_actOnStack (0, 0) 246 [some (.ref 13), some (.int (nI 6)), some (.int (x)), none, none] [.int (nI 1)] (σ) P
  exact er_iret d_Ma_actOnStack_246 rfl (hT _ hk) (by decide) (by decide)
theorem d_Ma_actOnRow_0 : decode m_Ma_actOnRow.2.1 0 = .ok (.iload_n 1, 1) := by decide +kernel
theorem d_Ma_actOnRow_1 : decode m_Ma_actOnRow.2.1 1 = .ok (.bipush 19, 2) := by decide +kernel
theorem d_Ma_actOnRow_3 : decode m_Ma_actOnRow.2.1 3 = .ok (.if_icmp .ne 17, 3) := by decide +kernel
theorem d_Ma_actOnRow_20 : decode m_Ma_actOnRow.2.1 20 = .ok (.iload_n 1, 1) := by decide +kernel
theorem d_Ma_actOnRow_21 : decode m_Ma_actOnRow.2.1 21 = .ok (.bipush 21, 2) := by decide +kernel
theorem d_Ma_actOnRow_23 : decode m_Ma_actOnRow.2.1 23 = .ok (.if_icmp .ne 15, 3) := by decide +kernel
theorem d_Ma_actOnRow_38 : decode m_Ma_actOnRow.2.1 38 = .ok (.iconst 0, 1) := by decide +kernel
theorem d_Ma_actOnRow_39 : decode m_Ma_actOnRow.2.1 39 = .ok (.istore_n 2, 1) := by decide +kernel
theorem d_Ma_actOnRow_40 : decode m_Ma_actOnRow.2.1 40 = .ok (.iload_n 1, 1) := by decide +kernel
theorem d_Ma_actOnRow_41 : decode m_Ma_actOnRow.2.1 41 = .ok (.bipush 22, 2) := by decide +kernel
theorem d_Ma_actOnRow_43 : decode m_Ma_actOnRow.2.1 43 = .ok (.if_icmp .ne 7, 3) := by decide +kernel
theorem d_Ma_actOnRow_50 : decode m_Ma_actOnRow.2.1 50 = .ok (.aload_n 0, 1) := by decide +kernel
theorem f_Ma_actOnRow_31 : jl_fd m_Ma_actOnRow 31 1 6 = true := by decide +kernel
theorem d_Ma_actOnRow_51 : decode m_Ma_actOnRow.2.1 51 = .ok (.getfield 31, 3) := by decide +kernel
theorem d_Ma_actOnRow_54 : decode m_Ma_actOnRow.2.1 54 = .ok (.aload_n 0, 1) := by decide +kernel
theorem k_Ma_actOnRow_121 : jl_cv m_Ma_actOnRow m_Ma_take 121 0 = true := by decide +kernel
theorem d_Ma_actOnRow_55 : decode m_Ma_actOnRow.2.1 55 = .ok (.invokevirtual 121, 3) := by decide +kernel
theorem d_Ma_actOnRow_58 : decode m_Ma_actOnRow.2.1 58 = .ok (.iaload, 1) := by decide +kernel
theorem d_Ma_actOnRow_59 : decode m_Ma_actOnRow.2.1 59 = .ok (.istore_n 3, 1) := by decide +kernel
theorem d_Ma_actOnRow_60 : decode m_Ma_actOnRow.2.1 60 = .ok (.aload_n 0, 1) := by decide +kernel
theorem d_Ma_actOnRow_61 : decode m_Ma_actOnRow.2.1 61 = .ok (.invokevirtual 121, 3) := by decide +kernel
theorem d_Ma_actOnRow_64 : decode m_Ma_actOnRow.2.1 64 = .ok (.istore 4, 2) := by decide +kernel
theorem d_Ma_actOnRow_66 : decode m_Ma_actOnRow.2.1 66 = .ok (.aload_n 0, 1) := by decide +kernel
theorem f_Ma_actOnRow_28 : jl_fd m_Ma_actOnRow 28 1 5 = true := by decide +kernel
theorem d_Ma_actOnRow_67 : decode m_Ma_actOnRow.2.1 67 = .ok (.getfield 28, 3) := by decide +kernel
theorem d_Ma_actOnRow_70 : decode m_Ma_actOnRow.2.1 70 = .ok (.iload 4, 2) := by decide +kernel
theorem d_Ma_actOnRow_72 : decode m_Ma_actOnRow.2.1 72 = .ok (.iaload, 1) := by decide +kernel
theorem d_Ma_actOnRow_73 : decode m_Ma_actOnRow.2.1 73 = .ok (.iconst 2, 1) := by decide +kernel
theorem d_Ma_actOnRow_74 : decode m_Ma_actOnRow.2.1 74 = .ok (.if_icmp .ne 5, 3) := by decide +kernel
theorem d_Ma_actOnRow_77 : decode m_Ma_actOnRow.2.1 77 = .ok (.iconst 2, 1) := by decide +kernel
theorem d_Ma_actOnRow_78 : decode m_Ma_actOnRow.2.1 78 = .ok (.ireturn, 1) := by decide +kernel
theorem ma_row_20n (hl : l.stackTraces = false) {P : jl_O → jl_S → Prop}  (hk : KB σ0 mt σ (7 + (b + 2)) t m p (R) (V) (fs) (H) su dt dq aw) (ht : t < 12) (hh : R 6 = some (b + 2)) (hb : b + 2 ≤ 5) (hy : R (7 + b) = some 2) (hT : ∀ σ', KB σ0 mt σ' (6) t m p (R) (V) (fs) (H) su dt dq aw → P (.inl (some (.int (nI 2)))) σ') : jl_mE l G m_Ma_actOnRow [.ref 13, .int (nI 20)] σ P := by
  obtain ⟨uw, ps, ty, va, hX, u1, u2, t1, t2, hS, hx, hto, hF⟩ := id hk
  obtain ⟨s0, s1, s2, s3⟩ := id hS
  obtain ⟨⟨⟨a, hma, hua⟩, hps, hty, hva⟩, hfs, hln, hob⟩ := id hx
  have hma : mt m = some a := hma
  have hps : ps t = p := hps
  have hty : ∀ j, j < _ → ty (t * 12 + j) = R j := hty
  have hva : ∀ j, j < _ → j ≠ 6 → va (t * 12 + j) = V j := hva
  have hRo := hx.rob
  have hh6 : ty (t * 12 + 6) = some (b + 2) := (hty 6 (by omega)).trans hh
  have hT0 : ty (t * 12 + 7 + b) = R (7 + b) := by rw [show t * 12 + 7 + b = t * 12 + (7 + b) by omega]; exact hty _ (by omega)
  have hV0 : va (t * 12 + 7 + b) = V (7 + b) := by rw [show t * 12 + 7 + b = t * 12 + (7 + b) by omega]; exact hva _ (by omega) (by omega)
  have hT1 : ty (t * 12 + 7 + (b + 1)) = R (8 + b) := by rw [show t * 12 + 7 + (b + 1) = t * 12 + (8 + b) by omega]; exact hty _ (by omega)
  have hV1 : va (t * 12 + 7 + (b + 1)) = V (8 + b) := by rw [show t * 12 + 7 + (b + 1) = t * 12 + (8 + b) by omega]; exact hva _ (by omega) (by omega)
  refine jl_ofE (as := [.ref 13, .int (nI 20)]) rfl (by decide) hl (jl_cc rfl (jl_cc rfl jl_ca)) (Nat.le_of_ble_eq_true rfl) ?_
  show jl_E l G m_Ma_actOnRow (0, 0) 0 [some (.ref 13), some (.int (nI 20)), none, none, none, none] [] (σ) P
  refine er_iload_n d_Ma_actOnRow_0 rfl ?_
  refine er_bipush ((nI (19))) d_Ma_actOnRow_1 (by decide) ?_
  refine er_icmp_ne 20 d_Ma_actOnRow_3 (by decide) (fun _ => ?_) (fun z => absurd z (by decide))
  refine er_iload_n d_Ma_actOnRow_20 rfl ?_
  refine er_bipush ((nI (21))) d_Ma_actOnRow_21 (by decide) ?_
  refine er_icmp_ne 38 d_Ma_actOnRow_23 (by decide) (fun _ => ?_) (fun z => absurd z (by decide))
  refine er_iconst ((nI (0))) d_Ma_actOnRow_38 (by decide) ?_
  refine er_istore_n d_Ma_actOnRow_39 (by decide) ?_
  show jl_E l G m_Ma_actOnRow (0, 0) 40 [some (.ref 13), some (.int (nI 20)), some (.int (nI 0)), none, none, none] [] (σ) P
  refine er_iload_n d_Ma_actOnRow_40 rfl ?_
  refine er_bipush ((nI (22))) d_Ma_actOnRow_41 (by decide) ?_
  refine er_icmp_ne 50 d_Ma_actOnRow_43 (by decide) (fun _ => ?_) (fun z => absurd z (by decide))
  refine er_aload_n d_Ma_actOnRow_50 rfl ?_
  refine er_getf d_Ma_actOnRow_51 f_Ma_actOnRow_31 hX rfl ?_
  refine er_aload_n d_Ma_actOnRow_54 rfl ?_
  refine er_callV (As := []) d_Ma_actOnRow_55 k_Ma_actOnRow_121 hX rfl rfl rfl (Nat.le_of_ble_eq_true rfl) (by decide) (by decide) (ma_takeA (h := b + 1) hl hX t1 t2 ht hh6 (by omega)) ?_
  show jl_E l G m_Ma_actOnRow (0, 0) 58 [some (.ref 13), some (.int (nI 20)), some (.int (nI 0)), none, none, none] [.int (nI (t * 12 + 7 + (b + 1))), .ref 21] (σ.set (20) (.inl (0, 144, .inl (fun j => en ((va_up ty (t * 12 + 6) (some (b + 1))) j))))) P
  refine er_ialdQ (v := (V (8 + b))) d_Ma_actOnRow_58 (jl_sn (by decide) t2) (by omega) (by omega) (hV1) ?_
  refine er_istore_n d_Ma_actOnRow_59 (by decide) ?_
  show jl_E l G m_Ma_actOnRow (0, 0) 60 [some (.ref 13), some (.int (nI 20)), some (.int (nI 0)), some (.int (V (8 + b))), none, none] [] (σ.set (20) (.inl (0, 144, .inl (fun j => en ((va_up ty (t * 12 + 6) (some (b + 1))) j))))) P
  refine er_aload_n d_Ma_actOnRow_60 rfl ?_
  refine er_callV (As := []) d_Ma_actOnRow_61 k_Ma_actOnRow_121 (jl_sn (by decide) hX) rfl rfl rfl (Nat.le_of_ble_eq_true rfl) (by decide) (by decide) (ma_takeA (h := b) hl (jl_sn (by decide) hX) (jl_ss t1) (jl_sn (by decide) t2) ht (va_up_self _ _ _) (by omega)) ?_
  show jl_E l G m_Ma_actOnRow (0, 0) 64 [some (.ref 13), some (.int (nI 20)), some (.int (nI 0)), some (.int (V (8 + b))), none, none] [.int (nI (t * 12 + 7 + b))] ((σ.set (20) (.inl (0, 144, .inl (fun j => en ((va_up ty (t * 12 + 6) (some (b + 1))) j))))).set (20) (.inl (0, 144, .inl (fun j => en ((va_up (va_up ty (t * 12 + 6) (some (b + 1))) (t * 12 + 6) (some (b))) j))))) P
  refine er_istore d_Ma_actOnRow_64 (by decide) ?_
  show jl_E l G m_Ma_actOnRow (0, 0) 66 [some (.ref 13), some (.int (nI 20)), some (.int (nI 0)), some (.int (V (8 + b))), some (.int (nI (t * 12 + 7 + b))), none] [] ((σ.set (20) (.inl (0, 144, .inl (fun j => en ((va_up ty (t * 12 + 6) (some (b + 1))) j))))).set (20) (.inl (0, 144, .inl (fun j => en ((va_up (va_up ty (t * 12 + 6) (some (b + 1))) (t * 12 + 6) (some (b))) j))))) P
  refine er_aload_n d_Ma_actOnRow_66 rfl ?_
  refine er_getf d_Ma_actOnRow_67 f_Ma_actOnRow_28 (jl_sn (by decide) (jl_sn (by decide) hX)) rfl ?_
  refine er_iload d_Ma_actOnRow_70 rfl ?_
  refine er_ialdQ (v := (nI (2))) d_Ma_actOnRow_72 (jl_ss (jl_ss t1)) (by omega) (by omega) ((congrArg en ((va_up_ne _ _ (by omega)).trans ((va_up_ne _ _ (by omega)).trans (hT0)))).trans (congrArg en hy)) ?_
  refine er_iconst ((nI (2))) d_Ma_actOnRow_73 (by decide) ?_
  refine er_icmp_ne 79 d_Ma_actOnRow_74 (by decide) (fun z => absurd rfl z) (fun _ => ?_)
  refine er_iconst ((nI (2))) d_Ma_actOnRow_77 (by decide) ?_
  exact er_iret d_Ma_actOnRow_78 rfl (hT _ ⟨_, _, _, _, (jl_sn (by decide) (jl_sn (by decide) hX)), (jl_sn (by decide) (jl_sn (by decide) u1)), (jl_sn (by decide) (jl_sn (by decide) u2)), (jl_ss (jl_ss t1)), (jl_sn (by decide) (jl_sn (by decide) t2)), ⟨(jl_sn (by decide) (jl_sn (by decide) s0)), (jl_sn (by decide) (jl_sn (by decide) s1)), (jl_sn (by decide) (jl_sn (by decide) s2)), (jl_sn (by decide) (jl_sn (by decide) s3))⟩, (((((hx).six (y := some (b + 1)) (ob_s (by omega)))).six (y := some (b)) (ob_s (by omega)))).lo (by omega) (fun j hj => ⟨by simp only [va_up, psh, if_neg (show ¬ j = 6 by omega), if_neg (show ¬ j = 7 + b by omega)], by simp only [va_up, psh, if_neg (show ¬ j = 6 by omega), if_neg (show ¬ j = 7 + b by omega)]⟩), hto, ((hF.set (by omega)).set (by omega))⟩) (by decide) (by decide)
theorem d_Ma_actOnStack_247 : decode m_Ma_actOnStack.2.1 247 = .ok (.aload_n 0, 1) := by decide +kernel
theorem d_Ma_actOnStack_248 : decode m_Ma_actOnStack.2.1 248 = .ok (.iload_n 1, 1) := by decide +kernel
theorem k_Ma_actOnStack_158 : jl_cv m_Ma_actOnStack m_Ma_actOnRow 158 1 = true := by decide +kernel
theorem d_Ma_actOnStack_249 : decode m_Ma_actOnStack.2.1 249 = .ok (.invokevirtual 158, 3) := by decide +kernel
theorem d_Ma_actOnStack_252 : decode m_Ma_actOnStack.2.1 252 = .ok (.ireturn, 1) := by decide +kernel
theorem ma_act_20n (hl : l.stackTraces = false) {P : jl_O → jl_S → Prop}  (hk : KB σ0 mt σ (7 + (b + 2)) t m p (R) (V) (fs) (H) su dt dq aw) (ht : t < 12) (hh : R 6 = some (b + 2)) (hb : b + 2 ≤ 5) (hy : R (7 + b) = some 2) (hT : ∀ σ', KB σ0 mt σ' (6) t m p (R) (V) (fs) (H) su dt dq aw → P (.inl (some (.int (nI 2)))) σ') : jl_mE l G m_Ma_actOnStack [.ref 13, .int (nI 20), .int (x)] σ P := by
  obtain ⟨uw, ps, ty, va, hX, u1, u2, t1, t2, hS, hx, hto, hF⟩ := id hk
  obtain ⟨s0, s1, s2, s3⟩ := id hS
  obtain ⟨⟨⟨a, hma, hua⟩, hps, hty, hva⟩, hfs, hln, hob⟩ := id hx
  have hma : mt m = some a := hma
  have hps : ps t = p := hps
  have hty : ∀ j, j < _ → ty (t * 12 + j) = R j := hty
  have hva : ∀ j, j < _ → j ≠ 6 → va (t * 12 + j) = V j := hva
  have hRo := hx.rob
  refine jl_ofE (as := [.ref 13, .int (nI 20), .int (x)]) rfl (by decide) hl (jl_cc rfl (jl_cc rfl (jl_cc rfl jl_ca))) (Nat.le_of_ble_eq_true rfl) ?_
  show jl_E l G m_Ma_actOnStack (0, 0) 0 [some (.ref 13), some (.int (nI 20)), some (.int (x)), none, none] [] (σ) P
  refine er_iload_n d_Ma_actOnStack_0 rfl ?_
  refine er_tableIn (off := 246) 247 d_Ma_actOnStack_1 (by decide +kernel) (by decide +kernel) (by decide +kernel) (by decide) ?_
  refine er_aload_n d_Ma_actOnStack_247 rfl ?_
  refine er_iload_n d_Ma_actOnStack_248 rfl ?_
  refine er_callVE (As := [.int (nI 20)]) d_Ma_actOnStack_249 k_Ma_actOnStack_158 hX rfl rfl rfl (Nat.le_of_ble_eq_true rfl) (by decide) (by decide) (ma_row_20n hl hk ht hh hb hy (fun σ hk => ⟨_, rfl, ?_⟩))
  show jl_E l G m_Ma_actOnStack (0, 0) 252 [some (.ref 13), some (.int (nI 20)), some (.int (x)), none, none] [.int (nI 2)] (σ) P
  exact er_iret d_Ma_actOnStack_252 rfl (hT _ hk) (by decide) (by decide)
theorem d_Ma_actOnRow_79 : decode m_Ma_actOnRow.2.1 79 = .ok (.aload_n 0, 1) := by decide +kernel
theorem d_Ma_actOnRow_80 : decode m_Ma_actOnRow.2.1 80 = .ok (.getfield 31, 3) := by decide +kernel
theorem d_Ma_actOnRow_83 : decode m_Ma_actOnRow.2.1 83 = .ok (.iload 4, 2) := by decide +kernel
theorem d_Ma_actOnRow_85 : decode m_Ma_actOnRow.2.1 85 = .ok (.iaload, 1) := by decide +kernel
theorem d_Ma_actOnRow_86 : decode m_Ma_actOnRow.2.1 86 = .ok (.istore 5, 2) := by decide +kernel
theorem d_Ma_actOnRow_88 : decode m_Ma_actOnRow.2.1 88 = .ok (.iload_n 1, 1) := by decide +kernel
theorem d_Ma_actOnRow_89 : decode m_Ma_actOnRow.2.1 89 = .ok (.bipush 22, 2) := by decide +kernel
theorem d_Ma_actOnRow_91 : decode m_Ma_actOnRow.2.1 91 = .ok (.if_icmp .ne 20, 3) := by decide +kernel
theorem d_Ma_actOnRow_111 : decode m_Ma_actOnRow.2.1 111 = .ok (.aload_n 0, 1) := by decide +kernel
theorem f_Ma_actOnRow_12 : jl_fd m_Ma_actOnRow 12 1 2 = true := by decide +kernel
theorem d_Ma_actOnRow_112 : decode m_Ma_actOnRow.2.1 112 = .ok (.getfield 12, 3) := by decide +kernel
theorem d_Ma_actOnRow_115 : decode m_Ma_actOnRow.2.1 115 = .ok (.iload 5, 2) := by decide +kernel
theorem d_Ma_actOnRow_117 : decode m_Ma_actOnRow.2.1 117 = .ok (.iload_n 3, 1) := by decide +kernel
theorem k_Ma_actOnRow_170 : jl_cv m_Ma_actOnRow m_St_has 170 2 = true := by decide +kernel
theorem d_Ma_actOnRow_118 : decode m_Ma_actOnRow.2.1 118 = .ok (.invokevirtual 170, 3) := by decide +kernel
theorem d_Ma_actOnRow_121 : decode m_Ma_actOnRow.2.1 121 = .ok (.ifCond .ne 5, 3) := by decide +kernel
theorem d_Ma_actOnRow_124 : decode m_Ma_actOnRow.2.1 124 = .ok (.iconst 3, 1) := by decide +kernel
theorem d_Ma_actOnRow_125 : decode m_Ma_actOnRow.2.1 125 = .ok (.ireturn, 1) := by decide +kernel
theorem ma_row_20b (hl : l.stackTraces = false) {P : jl_O → jl_S → Prop} {q : Nat} (hk : KB σ0 mt σ (7 + (b + 2)) t m p (R) (V) (fs) (H) su dt dq aw) (ht : t < 12) (hh : R 6 = some (b + 2)) (hb : b + 2 ≤ 5) (hy : R (7 + b) = some 1) (hv : V (7 + b) = nI q) (hq : q < 40) (hm40 : H.n ≤ 40) (hst : stH H.sz H.n (nI q) (V (8 + b)) = false) (hT : ∀ σ', KB σ0 mt σ' (6) t m p (R) (V) (fs) (H) su dt dq aw → P (.inl (some (.int (nI 3)))) σ') : jl_mE l G m_Ma_actOnRow [.ref 13, .int (nI 20)] σ P := by
  obtain ⟨uw, ps, ty, va, hX, u1, u2, t1, t2, hS, hx, hto, hF⟩ := id hk
  obtain ⟨s0, s1, s2, s3⟩ := id hS
  obtain ⟨⟨⟨a, hma, hua⟩, hps, hty, hva⟩, hfs, hln, hob⟩ := id hx
  have hma : mt m = some a := hma
  have hps : ps t = p := hps
  have hty : ∀ j, j < _ → ty (t * 12 + j) = R j := hty
  have hva : ∀ j, j < _ → j ≠ 6 → va (t * 12 + j) = V j := hva
  have hRo := hx.rob
  have hh6 : ty (t * 12 + 6) = some (b + 2) := (hty 6 (by omega)).trans hh
  have hT0 : ty (t * 12 + 7 + b) = R (7 + b) := by rw [show t * 12 + 7 + b = t * 12 + (7 + b) by omega]; exact hty _ (by omega)
  have hV0 : va (t * 12 + 7 + b) = V (7 + b) := by rw [show t * 12 + 7 + b = t * 12 + (7 + b) by omega]; exact hva _ (by omega) (by omega)
  have hT1 : ty (t * 12 + 7 + (b + 1)) = R (8 + b) := by rw [show t * 12 + 7 + (b + 1) = t * 12 + (8 + b) by omega]; exact hty _ (by omega)
  have hV1 : va (t * 12 + 7 + (b + 1)) = V (8 + b) := by rw [show t * 12 + 7 + (b + 1) = t * 12 + (8 + b) by omega]; exact hva _ (by omega) (by omega)
  refine jl_ofE (as := [.ref 13, .int (nI 20)]) rfl (by decide) hl (jl_cc rfl (jl_cc rfl jl_ca)) (Nat.le_of_ble_eq_true rfl) ?_
  show jl_E l G m_Ma_actOnRow (0, 0) 0 [some (.ref 13), some (.int (nI 20)), none, none, none, none] [] (σ) P
  refine er_iload_n d_Ma_actOnRow_0 rfl ?_
  refine er_bipush ((nI (19))) d_Ma_actOnRow_1 (by decide) ?_
  refine er_icmp_ne 20 d_Ma_actOnRow_3 (by decide) (fun _ => ?_) (fun z => absurd z (by decide))
  refine er_iload_n d_Ma_actOnRow_20 rfl ?_
  refine er_bipush ((nI (21))) d_Ma_actOnRow_21 (by decide) ?_
  refine er_icmp_ne 38 d_Ma_actOnRow_23 (by decide) (fun _ => ?_) (fun z => absurd z (by decide))
  refine er_iconst ((nI (0))) d_Ma_actOnRow_38 (by decide) ?_
  refine er_istore_n d_Ma_actOnRow_39 (by decide) ?_
  show jl_E l G m_Ma_actOnRow (0, 0) 40 [some (.ref 13), some (.int (nI 20)), some (.int (nI 0)), none, none, none] [] (σ) P
  refine er_iload_n d_Ma_actOnRow_40 rfl ?_
  refine er_bipush ((nI (22))) d_Ma_actOnRow_41 (by decide) ?_
  refine er_icmp_ne 50 d_Ma_actOnRow_43 (by decide) (fun _ => ?_) (fun z => absurd z (by decide))
  refine er_aload_n d_Ma_actOnRow_50 rfl ?_
  refine er_getf d_Ma_actOnRow_51 f_Ma_actOnRow_31 hX rfl ?_
  refine er_aload_n d_Ma_actOnRow_54 rfl ?_
  refine er_callV (As := []) d_Ma_actOnRow_55 k_Ma_actOnRow_121 hX rfl rfl rfl (Nat.le_of_ble_eq_true rfl) (by decide) (by decide) (ma_takeA (h := b + 1) hl hX t1 t2 ht hh6 (by omega)) ?_
  show jl_E l G m_Ma_actOnRow (0, 0) 58 [some (.ref 13), some (.int (nI 20)), some (.int (nI 0)), none, none, none] [.int (nI (t * 12 + 7 + (b + 1))), .ref 21] (σ.set (20) (.inl (0, 144, .inl (fun j => en ((va_up ty (t * 12 + 6) (some (b + 1))) j))))) P
  refine er_ialdQ (v := (V (8 + b))) d_Ma_actOnRow_58 (jl_sn (by decide) t2) (by omega) (by omega) (hV1) ?_
  refine er_istore_n d_Ma_actOnRow_59 (by decide) ?_
  show jl_E l G m_Ma_actOnRow (0, 0) 60 [some (.ref 13), some (.int (nI 20)), some (.int (nI 0)), some (.int (V (8 + b))), none, none] [] (σ.set (20) (.inl (0, 144, .inl (fun j => en ((va_up ty (t * 12 + 6) (some (b + 1))) j))))) P
  refine er_aload_n d_Ma_actOnRow_60 rfl ?_
  refine er_callV (As := []) d_Ma_actOnRow_61 k_Ma_actOnRow_121 (jl_sn (by decide) hX) rfl rfl rfl (Nat.le_of_ble_eq_true rfl) (by decide) (by decide) (ma_takeA (h := b) hl (jl_sn (by decide) hX) (jl_ss t1) (jl_sn (by decide) t2) ht (va_up_self _ _ _) (by omega)) ?_
  show jl_E l G m_Ma_actOnRow (0, 0) 64 [some (.ref 13), some (.int (nI 20)), some (.int (nI 0)), some (.int (V (8 + b))), none, none] [.int (nI (t * 12 + 7 + b))] ((σ.set (20) (.inl (0, 144, .inl (fun j => en ((va_up ty (t * 12 + 6) (some (b + 1))) j))))).set (20) (.inl (0, 144, .inl (fun j => en ((va_up (va_up ty (t * 12 + 6) (some (b + 1))) (t * 12 + 6) (some (b))) j))))) P
  refine er_istore d_Ma_actOnRow_64 (by decide) ?_
  show jl_E l G m_Ma_actOnRow (0, 0) 66 [some (.ref 13), some (.int (nI 20)), some (.int (nI 0)), some (.int (V (8 + b))), some (.int (nI (t * 12 + 7 + b))), none] [] ((σ.set (20) (.inl (0, 144, .inl (fun j => en ((va_up ty (t * 12 + 6) (some (b + 1))) j))))).set (20) (.inl (0, 144, .inl (fun j => en ((va_up (va_up ty (t * 12 + 6) (some (b + 1))) (t * 12 + 6) (some (b))) j))))) P
  refine er_aload_n d_Ma_actOnRow_66 rfl ?_
  refine er_getf d_Ma_actOnRow_67 f_Ma_actOnRow_28 (jl_sn (by decide) (jl_sn (by decide) hX)) rfl ?_
  refine er_iload d_Ma_actOnRow_70 rfl ?_
  refine er_ialdQ (v := (nI (1))) d_Ma_actOnRow_72 (jl_ss (jl_ss t1)) (by omega) (by omega) ((congrArg en ((va_up_ne _ _ (by omega)).trans ((va_up_ne _ _ (by omega)).trans (hT0)))).trans (congrArg en hy)) ?_
  refine er_iconst ((nI (2))) d_Ma_actOnRow_73 (by decide) ?_
  refine er_icmp_ne 79 d_Ma_actOnRow_74 (by decide) (fun _ => ?_) (fun z => absurd z (by decide))
  refine er_aload_n d_Ma_actOnRow_79 rfl ?_
  refine er_getf d_Ma_actOnRow_80 f_Ma_actOnRow_31 (jl_sn (by decide) (jl_sn (by decide) hX)) rfl ?_
  refine er_iload d_Ma_actOnRow_83 rfl ?_
  refine er_ialdQ (v := (nI (q))) d_Ma_actOnRow_85 (jl_sn (by decide) (jl_sn (by decide) t2)) (by omega) (by omega) ((hV0).trans hv) ?_
  refine er_istore d_Ma_actOnRow_86 (by decide) ?_
  show jl_E l G m_Ma_actOnRow (0, 0) 88 [some (.ref 13), some (.int (nI 20)), some (.int (nI 0)), some (.int (V (8 + b))), some (.int (nI (t * 12 + 7 + b))), some (.int (nI q))] [] ((σ.set (20) (.inl (0, 144, .inl (fun j => en ((va_up ty (t * 12 + 6) (some (b + 1))) j))))).set (20) (.inl (0, 144, .inl (fun j => en ((va_up (va_up ty (t * 12 + 6) (some (b + 1))) (t * 12 + 6) (some (b))) j))))) P
  refine er_iload_n d_Ma_actOnRow_88 rfl ?_
  refine er_bipush ((nI (22))) d_Ma_actOnRow_89 (by decide) ?_
  refine er_icmp_ne 111 d_Ma_actOnRow_91 (by decide) (fun _ => ?_) (fun z => absurd z (by decide))
  refine er_aload_n d_Ma_actOnRow_111 rfl ?_
  refine er_getf d_Ma_actOnRow_112 f_Ma_actOnRow_12 (jl_sn (by decide) (jl_sn (by decide) hX)) rfl ?_
  refine er_iload d_Ma_actOnRow_115 rfl ?_
  refine er_iload_n d_Ma_actOnRow_117 rfl ?_
  refine er_callV (As := [.int (nI q), .int (V (8 + b))]) d_Ma_actOnRow_118 k_Ma_actOnRow_170 (jl_sn (by decide) (jl_sn (by decide) s0)) rfl rfl rfl (Nat.le_of_ble_eq_true rfl) (by decide) (by decide) (st_hasF hl ⟨(jl_sn (by decide) (jl_sn (by decide) s0)), (jl_sn (by decide) (jl_sn (by decide) s1)), (jl_sn (by decide) (jl_sn (by decide) s2)), (jl_sn (by decide) (jl_sn (by decide) s3))⟩ hm40 hst) ?_
  show jl_E l G m_Ma_actOnRow (0, 0) 121 [some (.ref 13), some (.int (nI 20)), some (.int (nI 0)), some (.int (V (8 + b))), some (.int (nI (t * 12 + 7 + b))), some (.int (nI q))] [.int (nI 0)] ((σ.set (20) (.inl (0, 144, .inl (fun j => en ((va_up ty (t * 12 + 6) (some (b + 1))) j))))).set (20) (.inl (0, 144, .inl (fun j => en ((va_up (va_up ty (t * 12 + 6) (some (b + 1))) (t * 12 + 6) (some (b))) j))))) P
  refine er_if_ne 126 d_Ma_actOnRow_121 (by decide) (fun z => absurd rfl z) (fun _ => ?_)
  refine er_iconst ((nI (3))) d_Ma_actOnRow_124 (by decide) ?_
  exact er_iret d_Ma_actOnRow_125 rfl (hT _ ⟨_, _, _, _, (jl_sn (by decide) (jl_sn (by decide) hX)), (jl_sn (by decide) (jl_sn (by decide) u1)), (jl_sn (by decide) (jl_sn (by decide) u2)), (jl_ss (jl_ss t1)), (jl_sn (by decide) (jl_sn (by decide) t2)), ⟨(jl_sn (by decide) (jl_sn (by decide) s0)), (jl_sn (by decide) (jl_sn (by decide) s1)), (jl_sn (by decide) (jl_sn (by decide) s2)), (jl_sn (by decide) (jl_sn (by decide) s3))⟩, (((((hx).six (y := some (b + 1)) (ob_s (by omega)))).six (y := some (b)) (ob_s (by omega)))).lo (by omega) (fun j hj => ⟨by simp only [va_up, psh, if_neg (show ¬ j = 6 by omega), if_neg (show ¬ j = 7 + b by omega)], by simp only [va_up, psh, if_neg (show ¬ j = 6 by omega), if_neg (show ¬ j = 7 + b by omega)]⟩), hto, ((hF.set (by omega)).set (by omega))⟩) (by decide) (by decide)
theorem ma_act_20b (hl : l.stackTraces = false) {P : jl_O → jl_S → Prop} {q : Nat} (hk : KB σ0 mt σ (7 + (b + 2)) t m p (R) (V) (fs) (H) su dt dq aw) (ht : t < 12) (hh : R 6 = some (b + 2)) (hb : b + 2 ≤ 5) (hy : R (7 + b) = some 1) (hv : V (7 + b) = nI q) (hq : q < 40) (hm40 : H.n ≤ 40) (hst : stH H.sz H.n (nI q) (V (8 + b)) = false) (hT : ∀ σ', KB σ0 mt σ' (6) t m p (R) (V) (fs) (H) su dt dq aw → P (.inl (some (.int (nI 3)))) σ') : jl_mE l G m_Ma_actOnStack [.ref 13, .int (nI 20), .int (x)] σ P := by
  obtain ⟨uw, ps, ty, va, hX, u1, u2, t1, t2, hS, hx, hto, hF⟩ := id hk
  obtain ⟨s0, s1, s2, s3⟩ := id hS
  obtain ⟨⟨⟨a, hma, hua⟩, hps, hty, hva⟩, hfs, hln, hob⟩ := id hx
  have hma : mt m = some a := hma
  have hps : ps t = p := hps
  have hty : ∀ j, j < _ → ty (t * 12 + j) = R j := hty
  have hva : ∀ j, j < _ → j ≠ 6 → va (t * 12 + j) = V j := hva
  have hRo := hx.rob
  refine jl_ofE (as := [.ref 13, .int (nI 20), .int (x)]) rfl (by decide) hl (jl_cc rfl (jl_cc rfl (jl_cc rfl jl_ca))) (Nat.le_of_ble_eq_true rfl) ?_
  show jl_E l G m_Ma_actOnStack (0, 0) 0 [some (.ref 13), some (.int (nI 20)), some (.int (x)), none, none] [] (σ) P
  refine er_iload_n d_Ma_actOnStack_0 rfl ?_
  refine er_tableIn (off := 246) 247 d_Ma_actOnStack_1 (by decide +kernel) (by decide +kernel) (by decide +kernel) (by decide) ?_
  refine er_aload_n d_Ma_actOnStack_247 rfl ?_
  refine er_iload_n d_Ma_actOnStack_248 rfl ?_
  refine er_callVE (As := [.int (nI 20)]) d_Ma_actOnStack_249 k_Ma_actOnStack_158 hX rfl rfl rfl (Nat.le_of_ble_eq_true rfl) (by decide) (by decide) (ma_row_20b hl hk ht hh hb hy hv hq hm40 hst (fun σ hk => ⟨_, rfl, ?_⟩))
  show jl_E l G m_Ma_actOnStack (0, 0) 252 [some (.ref 13), some (.int (nI 20)), some (.int (x)), none, none] [.int (nI 3)] (σ) P
  exact er_iret d_Ma_actOnStack_252 rfl (hT _ hk) (by decide) (by decide)
theorem d_Ma_actOnRow_26 : decode m_Ma_actOnRow.2.1 26 = .ok (.aload_n 0, 1) := by decide +kernel
theorem d_Ma_actOnRow_27 : decode m_Ma_actOnRow.2.1 27 = .ok (.getfield 31, 3) := by decide +kernel
theorem d_Ma_actOnRow_30 : decode m_Ma_actOnRow.2.1 30 = .ok (.aload_n 0, 1) := by decide +kernel
theorem d_Ma_actOnRow_31 : decode m_Ma_actOnRow.2.1 31 = .ok (.invokevirtual 121, 3) := by decide +kernel
theorem d_Ma_actOnRow_34 : decode m_Ma_actOnRow.2.1 34 = .ok (.iaload, 1) := by decide +kernel
theorem d_Ma_actOnRow_35 : decode m_Ma_actOnRow.2.1 35 = .ok (.goto 4, 3) := by decide +kernel
theorem ma_row_21n (hl : l.stackTraces = false) {P : jl_O → jl_S → Prop}  (hk : KB σ0 mt σ (7 + (b + 3)) t m p (R) (V) (fs) (H) su dt dq aw) (ht : t < 12) (hh : R 6 = some (b + 3)) (hb : b + 3 ≤ 5) (hy : R (7 + b) = some 2) (hT : ∀ σ', KB σ0 mt σ' (6) t m p (R) (V) (fs) (H) su dt dq aw → P (.inl (some (.int (nI 2)))) σ') : jl_mE l G m_Ma_actOnRow [.ref 13, .int (nI 21)] σ P := by
  obtain ⟨uw, ps, ty, va, hX, u1, u2, t1, t2, hS, hx, hto, hF⟩ := id hk
  obtain ⟨s0, s1, s2, s3⟩ := id hS
  obtain ⟨⟨⟨a, hma, hua⟩, hps, hty, hva⟩, hfs, hln, hob⟩ := id hx
  have hma : mt m = some a := hma
  have hps : ps t = p := hps
  have hty : ∀ j, j < _ → ty (t * 12 + j) = R j := hty
  have hva : ∀ j, j < _ → j ≠ 6 → va (t * 12 + j) = V j := hva
  have hRo := hx.rob
  have hh6 : ty (t * 12 + 6) = some (b + 3) := (hty 6 (by omega)).trans hh
  have hT0 : ty (t * 12 + 7 + b) = R (7 + b) := by rw [show t * 12 + 7 + b = t * 12 + (7 + b) by omega]; exact hty _ (by omega)
  have hV0 : va (t * 12 + 7 + b) = V (7 + b) := by rw [show t * 12 + 7 + b = t * 12 + (7 + b) by omega]; exact hva _ (by omega) (by omega)
  have hT1 : ty (t * 12 + 7 + (b + 1)) = R (8 + b) := by rw [show t * 12 + 7 + (b + 1) = t * 12 + (8 + b) by omega]; exact hty _ (by omega)
  have hV1 : va (t * 12 + 7 + (b + 1)) = V (8 + b) := by rw [show t * 12 + 7 + (b + 1) = t * 12 + (8 + b) by omega]; exact hva _ (by omega) (by omega)
  have hT2 : ty (t * 12 + 7 + (b + 2)) = R (9 + b) := by rw [show t * 12 + 7 + (b + 2) = t * 12 + (9 + b) by omega]; exact hty _ (by omega)
  have hV2 : va (t * 12 + 7 + (b + 2)) = V (9 + b) := by rw [show t * 12 + 7 + (b + 2) = t * 12 + (9 + b) by omega]; exact hva _ (by omega) (by omega)
  refine jl_ofE (as := [.ref 13, .int (nI 21)]) rfl (by decide) hl (jl_cc rfl (jl_cc rfl jl_ca)) (Nat.le_of_ble_eq_true rfl) ?_
  show jl_E l G m_Ma_actOnRow (0, 0) 0 [some (.ref 13), some (.int (nI 21)), none, none, none, none] [] (σ) P
  refine er_iload_n d_Ma_actOnRow_0 rfl ?_
  refine er_bipush ((nI (19))) d_Ma_actOnRow_1 (by decide) ?_
  refine er_icmp_ne 20 d_Ma_actOnRow_3 (by decide) (fun _ => ?_) (fun z => absurd z (by decide))
  refine er_iload_n d_Ma_actOnRow_20 rfl ?_
  refine er_bipush ((nI (21))) d_Ma_actOnRow_21 (by decide) ?_
  refine er_icmp_ne 38 d_Ma_actOnRow_23 (by decide) (fun z => absurd rfl z) (fun _ => ?_)
  refine er_aload_n d_Ma_actOnRow_26 rfl ?_
  refine er_getf d_Ma_actOnRow_27 f_Ma_actOnRow_31 hX rfl ?_
  refine er_aload_n d_Ma_actOnRow_30 rfl ?_
  refine er_callV (As := []) d_Ma_actOnRow_31 k_Ma_actOnRow_121 hX rfl rfl rfl (Nat.le_of_ble_eq_true rfl) (by decide) (by decide) (ma_takeA (h := b + 2) hl hX t1 t2 ht hh6 (by omega)) ?_
  show jl_E l G m_Ma_actOnRow (0, 0) 34 [some (.ref 13), some (.int (nI 21)), none, none, none, none] [.int (nI (t * 12 + 7 + (b + 2))), .ref 21] (σ.set (20) (.inl (0, 144, .inl (fun j => en ((va_up ty (t * 12 + 6) (some (b + 2))) j))))) P
  refine er_ialdQ (v := (V (9 + b))) d_Ma_actOnRow_34 (jl_sn (by decide) t2) (by omega) (by omega) (hV2) ?_
  refine er_goto 39 d_Ma_actOnRow_35 (by decide) ?_
  refine er_istore_n d_Ma_actOnRow_39 (by decide) ?_
  show jl_E l G m_Ma_actOnRow (0, 0) 40 [some (.ref 13), some (.int (nI 21)), some (.int (V (9 + b))), none, none, none] [] (σ.set (20) (.inl (0, 144, .inl (fun j => en ((va_up ty (t * 12 + 6) (some (b + 2))) j))))) P
  refine er_iload_n d_Ma_actOnRow_40 rfl ?_
  refine er_bipush ((nI (22))) d_Ma_actOnRow_41 (by decide) ?_
  refine er_icmp_ne 50 d_Ma_actOnRow_43 (by decide) (fun _ => ?_) (fun z => absurd z (by decide))
  refine er_aload_n d_Ma_actOnRow_50 rfl ?_
  refine er_getf d_Ma_actOnRow_51 f_Ma_actOnRow_31 (jl_sn (by decide) hX) rfl ?_
  refine er_aload_n d_Ma_actOnRow_54 rfl ?_
  refine er_callV (As := []) d_Ma_actOnRow_55 k_Ma_actOnRow_121 (jl_sn (by decide) hX) rfl rfl rfl (Nat.le_of_ble_eq_true rfl) (by decide) (by decide) (ma_takeA (h := b + 1) hl (jl_sn (by decide) hX) (jl_ss t1) (jl_sn (by decide) t2) ht (va_up_self _ _ _) (by omega)) ?_
  show jl_E l G m_Ma_actOnRow (0, 0) 58 [some (.ref 13), some (.int (nI 21)), some (.int (V (9 + b))), none, none, none] [.int (nI (t * 12 + 7 + (b + 1))), .ref 21] ((σ.set (20) (.inl (0, 144, .inl (fun j => en ((va_up ty (t * 12 + 6) (some (b + 2))) j))))).set (20) (.inl (0, 144, .inl (fun j => en ((va_up (va_up ty (t * 12 + 6) (some (b + 2))) (t * 12 + 6) (some (b + 1))) j))))) P
  refine er_ialdQ (v := (V (8 + b))) d_Ma_actOnRow_58 (jl_sn (by decide) (jl_sn (by decide) t2)) (by omega) (by omega) (hV1) ?_
  refine er_istore_n d_Ma_actOnRow_59 (by decide) ?_
  show jl_E l G m_Ma_actOnRow (0, 0) 60 [some (.ref 13), some (.int (nI 21)), some (.int (V (9 + b))), some (.int (V (8 + b))), none, none] [] ((σ.set (20) (.inl (0, 144, .inl (fun j => en ((va_up ty (t * 12 + 6) (some (b + 2))) j))))).set (20) (.inl (0, 144, .inl (fun j => en ((va_up (va_up ty (t * 12 + 6) (some (b + 2))) (t * 12 + 6) (some (b + 1))) j))))) P
  refine er_aload_n d_Ma_actOnRow_60 rfl ?_
  refine er_callV (As := []) d_Ma_actOnRow_61 k_Ma_actOnRow_121 (jl_sn (by decide) (jl_sn (by decide) hX)) rfl rfl rfl (Nat.le_of_ble_eq_true rfl) (by decide) (by decide) (ma_takeA (h := b) hl (jl_sn (by decide) (jl_sn (by decide) hX)) (jl_ss (jl_ss t1)) (jl_sn (by decide) (jl_sn (by decide) t2)) ht (va_up_self _ _ _) (by omega)) ?_
  show jl_E l G m_Ma_actOnRow (0, 0) 64 [some (.ref 13), some (.int (nI 21)), some (.int (V (9 + b))), some (.int (V (8 + b))), none, none] [.int (nI (t * 12 + 7 + b))] (((σ.set (20) (.inl (0, 144, .inl (fun j => en ((va_up ty (t * 12 + 6) (some (b + 2))) j))))).set (20) (.inl (0, 144, .inl (fun j => en ((va_up (va_up ty (t * 12 + 6) (some (b + 2))) (t * 12 + 6) (some (b + 1))) j))))).set (20) (.inl (0, 144, .inl (fun j => en ((va_up (va_up (va_up ty (t * 12 + 6) (some (b + 2))) (t * 12 + 6) (some (b + 1))) (t * 12 + 6) (some (b))) j))))) P
  refine er_istore d_Ma_actOnRow_64 (by decide) ?_
  show jl_E l G m_Ma_actOnRow (0, 0) 66 [some (.ref 13), some (.int (nI 21)), some (.int (V (9 + b))), some (.int (V (8 + b))), some (.int (nI (t * 12 + 7 + b))), none] [] (((σ.set (20) (.inl (0, 144, .inl (fun j => en ((va_up ty (t * 12 + 6) (some (b + 2))) j))))).set (20) (.inl (0, 144, .inl (fun j => en ((va_up (va_up ty (t * 12 + 6) (some (b + 2))) (t * 12 + 6) (some (b + 1))) j))))).set (20) (.inl (0, 144, .inl (fun j => en ((va_up (va_up (va_up ty (t * 12 + 6) (some (b + 2))) (t * 12 + 6) (some (b + 1))) (t * 12 + 6) (some (b))) j))))) P
  refine er_aload_n d_Ma_actOnRow_66 rfl ?_
  refine er_getf d_Ma_actOnRow_67 f_Ma_actOnRow_28 (jl_sn (by decide) (jl_sn (by decide) (jl_sn (by decide) hX))) rfl ?_
  refine er_iload d_Ma_actOnRow_70 rfl ?_
  refine er_ialdQ (v := (nI (2))) d_Ma_actOnRow_72 (jl_ss (jl_ss (jl_ss t1))) (by omega) (by omega) ((congrArg en ((va_up_ne _ _ (by omega)).trans ((va_up_ne _ _ (by omega)).trans ((va_up_ne _ _ (by omega)).trans (hT0))))).trans (congrArg en hy)) ?_
  refine er_iconst ((nI (2))) d_Ma_actOnRow_73 (by decide) ?_
  refine er_icmp_ne 79 d_Ma_actOnRow_74 (by decide) (fun z => absurd rfl z) (fun _ => ?_)
  refine er_iconst ((nI (2))) d_Ma_actOnRow_77 (by decide) ?_
  exact er_iret d_Ma_actOnRow_78 rfl (hT _ ⟨_, _, _, _, (jl_sn (by decide) (jl_sn (by decide) (jl_sn (by decide) hX))), (jl_sn (by decide) (jl_sn (by decide) (jl_sn (by decide) u1))), (jl_sn (by decide) (jl_sn (by decide) (jl_sn (by decide) u2))), (jl_ss (jl_ss (jl_ss t1))), (jl_sn (by decide) (jl_sn (by decide) (jl_sn (by decide) t2))), ⟨(jl_sn (by decide) (jl_sn (by decide) (jl_sn (by decide) s0))), (jl_sn (by decide) (jl_sn (by decide) (jl_sn (by decide) s1))), (jl_sn (by decide) (jl_sn (by decide) (jl_sn (by decide) s2))), (jl_sn (by decide) (jl_sn (by decide) (jl_sn (by decide) s3)))⟩, (((((((hx).six (y := some (b + 2)) (ob_s (by omega)))).six (y := some (b + 1)) (ob_s (by omega)))).six (y := some (b)) (ob_s (by omega)))).lo (by omega) (fun j hj => ⟨by simp only [va_up, psh, if_neg (show ¬ j = 6 by omega), if_neg (show ¬ j = 7 + b by omega)], by simp only [va_up, psh, if_neg (show ¬ j = 6 by omega), if_neg (show ¬ j = 7 + b by omega)]⟩), hto, (((hF.set (by omega)).set (by omega)).set (by omega))⟩) (by decide) (by decide)
theorem ma_act_21n (hl : l.stackTraces = false) {P : jl_O → jl_S → Prop}  (hk : KB σ0 mt σ (7 + (b + 3)) t m p (R) (V) (fs) (H) su dt dq aw) (ht : t < 12) (hh : R 6 = some (b + 3)) (hb : b + 3 ≤ 5) (hy : R (7 + b) = some 2) (hT : ∀ σ', KB σ0 mt σ' (6) t m p (R) (V) (fs) (H) su dt dq aw → P (.inl (some (.int (nI 2)))) σ') : jl_mE l G m_Ma_actOnStack [.ref 13, .int (nI 21), .int (x)] σ P := by
  obtain ⟨uw, ps, ty, va, hX, u1, u2, t1, t2, hS, hx, hto, hF⟩ := id hk
  obtain ⟨s0, s1, s2, s3⟩ := id hS
  obtain ⟨⟨⟨a, hma, hua⟩, hps, hty, hva⟩, hfs, hln, hob⟩ := id hx
  have hma : mt m = some a := hma
  have hps : ps t = p := hps
  have hty : ∀ j, j < _ → ty (t * 12 + j) = R j := hty
  have hva : ∀ j, j < _ → j ≠ 6 → va (t * 12 + j) = V j := hva
  have hRo := hx.rob
  refine jl_ofE (as := [.ref 13, .int (nI 21), .int (x)]) rfl (by decide) hl (jl_cc rfl (jl_cc rfl (jl_cc rfl jl_ca))) (Nat.le_of_ble_eq_true rfl) ?_
  show jl_E l G m_Ma_actOnStack (0, 0) 0 [some (.ref 13), some (.int (nI 21)), some (.int (x)), none, none] [] (σ) P
  refine er_iload_n d_Ma_actOnStack_0 rfl ?_
  refine er_tableIn (off := 246) 247 d_Ma_actOnStack_1 (by decide +kernel) (by decide +kernel) (by decide +kernel) (by decide) ?_
  refine er_aload_n d_Ma_actOnStack_247 rfl ?_
  refine er_iload_n d_Ma_actOnStack_248 rfl ?_
  refine er_callVE (As := [.int (nI 21)]) d_Ma_actOnStack_249 k_Ma_actOnStack_158 hX rfl rfl rfl (Nat.le_of_ble_eq_true rfl) (by decide) (by decide) (ma_row_21n hl hk ht hh hb hy (fun σ hk => ⟨_, rfl, ?_⟩))
  show jl_E l G m_Ma_actOnStack (0, 0) 252 [some (.ref 13), some (.int (nI 21)), some (.int (x)), none, none] [.int (nI 2)] (σ) P
  exact er_iret d_Ma_actOnStack_252 rfl (hT _ hk) (by decide) (by decide)
theorem ma_row_21b (hl : l.stackTraces = false) {P : jl_O → jl_S → Prop} {q : Nat} (hk : KB σ0 mt σ (7 + (b + 3)) t m p (R) (V) (fs) (H) su dt dq aw) (ht : t < 12) (hh : R 6 = some (b + 3)) (hb : b + 3 ≤ 5) (hy : R (7 + b) = some 1) (hv : V (7 + b) = nI q) (hq : q < 40) (hm40 : H.n ≤ 40) (hst : stH H.sz H.n (nI q) (V (8 + b)) = false) (hT : ∀ σ', KB σ0 mt σ' (6) t m p (R) (V) (fs) (H) su dt dq aw → P (.inl (some (.int (nI 3)))) σ') : jl_mE l G m_Ma_actOnRow [.ref 13, .int (nI 21)] σ P := by
  obtain ⟨uw, ps, ty, va, hX, u1, u2, t1, t2, hS, hx, hto, hF⟩ := id hk
  obtain ⟨s0, s1, s2, s3⟩ := id hS
  obtain ⟨⟨⟨a, hma, hua⟩, hps, hty, hva⟩, hfs, hln, hob⟩ := id hx
  have hma : mt m = some a := hma
  have hps : ps t = p := hps
  have hty : ∀ j, j < _ → ty (t * 12 + j) = R j := hty
  have hva : ∀ j, j < _ → j ≠ 6 → va (t * 12 + j) = V j := hva
  have hRo := hx.rob
  have hh6 : ty (t * 12 + 6) = some (b + 3) := (hty 6 (by omega)).trans hh
  have hT0 : ty (t * 12 + 7 + b) = R (7 + b) := by rw [show t * 12 + 7 + b = t * 12 + (7 + b) by omega]; exact hty _ (by omega)
  have hV0 : va (t * 12 + 7 + b) = V (7 + b) := by rw [show t * 12 + 7 + b = t * 12 + (7 + b) by omega]; exact hva _ (by omega) (by omega)
  have hT1 : ty (t * 12 + 7 + (b + 1)) = R (8 + b) := by rw [show t * 12 + 7 + (b + 1) = t * 12 + (8 + b) by omega]; exact hty _ (by omega)
  have hV1 : va (t * 12 + 7 + (b + 1)) = V (8 + b) := by rw [show t * 12 + 7 + (b + 1) = t * 12 + (8 + b) by omega]; exact hva _ (by omega) (by omega)
  have hT2 : ty (t * 12 + 7 + (b + 2)) = R (9 + b) := by rw [show t * 12 + 7 + (b + 2) = t * 12 + (9 + b) by omega]; exact hty _ (by omega)
  have hV2 : va (t * 12 + 7 + (b + 2)) = V (9 + b) := by rw [show t * 12 + 7 + (b + 2) = t * 12 + (9 + b) by omega]; exact hva _ (by omega) (by omega)
  refine jl_ofE (as := [.ref 13, .int (nI 21)]) rfl (by decide) hl (jl_cc rfl (jl_cc rfl jl_ca)) (Nat.le_of_ble_eq_true rfl) ?_
  show jl_E l G m_Ma_actOnRow (0, 0) 0 [some (.ref 13), some (.int (nI 21)), none, none, none, none] [] (σ) P
  refine er_iload_n d_Ma_actOnRow_0 rfl ?_
  refine er_bipush ((nI (19))) d_Ma_actOnRow_1 (by decide) ?_
  refine er_icmp_ne 20 d_Ma_actOnRow_3 (by decide) (fun _ => ?_) (fun z => absurd z (by decide))
  refine er_iload_n d_Ma_actOnRow_20 rfl ?_
  refine er_bipush ((nI (21))) d_Ma_actOnRow_21 (by decide) ?_
  refine er_icmp_ne 38 d_Ma_actOnRow_23 (by decide) (fun z => absurd rfl z) (fun _ => ?_)
  refine er_aload_n d_Ma_actOnRow_26 rfl ?_
  refine er_getf d_Ma_actOnRow_27 f_Ma_actOnRow_31 hX rfl ?_
  refine er_aload_n d_Ma_actOnRow_30 rfl ?_
  refine er_callV (As := []) d_Ma_actOnRow_31 k_Ma_actOnRow_121 hX rfl rfl rfl (Nat.le_of_ble_eq_true rfl) (by decide) (by decide) (ma_takeA (h := b + 2) hl hX t1 t2 ht hh6 (by omega)) ?_
  show jl_E l G m_Ma_actOnRow (0, 0) 34 [some (.ref 13), some (.int (nI 21)), none, none, none, none] [.int (nI (t * 12 + 7 + (b + 2))), .ref 21] (σ.set (20) (.inl (0, 144, .inl (fun j => en ((va_up ty (t * 12 + 6) (some (b + 2))) j))))) P
  refine er_ialdQ (v := (V (9 + b))) d_Ma_actOnRow_34 (jl_sn (by decide) t2) (by omega) (by omega) (hV2) ?_
  refine er_goto 39 d_Ma_actOnRow_35 (by decide) ?_
  refine er_istore_n d_Ma_actOnRow_39 (by decide) ?_
  show jl_E l G m_Ma_actOnRow (0, 0) 40 [some (.ref 13), some (.int (nI 21)), some (.int (V (9 + b))), none, none, none] [] (σ.set (20) (.inl (0, 144, .inl (fun j => en ((va_up ty (t * 12 + 6) (some (b + 2))) j))))) P
  refine er_iload_n d_Ma_actOnRow_40 rfl ?_
  refine er_bipush ((nI (22))) d_Ma_actOnRow_41 (by decide) ?_
  refine er_icmp_ne 50 d_Ma_actOnRow_43 (by decide) (fun _ => ?_) (fun z => absurd z (by decide))
  refine er_aload_n d_Ma_actOnRow_50 rfl ?_
  refine er_getf d_Ma_actOnRow_51 f_Ma_actOnRow_31 (jl_sn (by decide) hX) rfl ?_
  refine er_aload_n d_Ma_actOnRow_54 rfl ?_
  refine er_callV (As := []) d_Ma_actOnRow_55 k_Ma_actOnRow_121 (jl_sn (by decide) hX) rfl rfl rfl (Nat.le_of_ble_eq_true rfl) (by decide) (by decide) (ma_takeA (h := b + 1) hl (jl_sn (by decide) hX) (jl_ss t1) (jl_sn (by decide) t2) ht (va_up_self _ _ _) (by omega)) ?_
  show jl_E l G m_Ma_actOnRow (0, 0) 58 [some (.ref 13), some (.int (nI 21)), some (.int (V (9 + b))), none, none, none] [.int (nI (t * 12 + 7 + (b + 1))), .ref 21] ((σ.set (20) (.inl (0, 144, .inl (fun j => en ((va_up ty (t * 12 + 6) (some (b + 2))) j))))).set (20) (.inl (0, 144, .inl (fun j => en ((va_up (va_up ty (t * 12 + 6) (some (b + 2))) (t * 12 + 6) (some (b + 1))) j))))) P
  refine er_ialdQ (v := (V (8 + b))) d_Ma_actOnRow_58 (jl_sn (by decide) (jl_sn (by decide) t2)) (by omega) (by omega) (hV1) ?_
  refine er_istore_n d_Ma_actOnRow_59 (by decide) ?_
  show jl_E l G m_Ma_actOnRow (0, 0) 60 [some (.ref 13), some (.int (nI 21)), some (.int (V (9 + b))), some (.int (V (8 + b))), none, none] [] ((σ.set (20) (.inl (0, 144, .inl (fun j => en ((va_up ty (t * 12 + 6) (some (b + 2))) j))))).set (20) (.inl (0, 144, .inl (fun j => en ((va_up (va_up ty (t * 12 + 6) (some (b + 2))) (t * 12 + 6) (some (b + 1))) j))))) P
  refine er_aload_n d_Ma_actOnRow_60 rfl ?_
  refine er_callV (As := []) d_Ma_actOnRow_61 k_Ma_actOnRow_121 (jl_sn (by decide) (jl_sn (by decide) hX)) rfl rfl rfl (Nat.le_of_ble_eq_true rfl) (by decide) (by decide) (ma_takeA (h := b) hl (jl_sn (by decide) (jl_sn (by decide) hX)) (jl_ss (jl_ss t1)) (jl_sn (by decide) (jl_sn (by decide) t2)) ht (va_up_self _ _ _) (by omega)) ?_
  show jl_E l G m_Ma_actOnRow (0, 0) 64 [some (.ref 13), some (.int (nI 21)), some (.int (V (9 + b))), some (.int (V (8 + b))), none, none] [.int (nI (t * 12 + 7 + b))] (((σ.set (20) (.inl (0, 144, .inl (fun j => en ((va_up ty (t * 12 + 6) (some (b + 2))) j))))).set (20) (.inl (0, 144, .inl (fun j => en ((va_up (va_up ty (t * 12 + 6) (some (b + 2))) (t * 12 + 6) (some (b + 1))) j))))).set (20) (.inl (0, 144, .inl (fun j => en ((va_up (va_up (va_up ty (t * 12 + 6) (some (b + 2))) (t * 12 + 6) (some (b + 1))) (t * 12 + 6) (some (b))) j))))) P
  refine er_istore d_Ma_actOnRow_64 (by decide) ?_
  show jl_E l G m_Ma_actOnRow (0, 0) 66 [some (.ref 13), some (.int (nI 21)), some (.int (V (9 + b))), some (.int (V (8 + b))), some (.int (nI (t * 12 + 7 + b))), none] [] (((σ.set (20) (.inl (0, 144, .inl (fun j => en ((va_up ty (t * 12 + 6) (some (b + 2))) j))))).set (20) (.inl (0, 144, .inl (fun j => en ((va_up (va_up ty (t * 12 + 6) (some (b + 2))) (t * 12 + 6) (some (b + 1))) j))))).set (20) (.inl (0, 144, .inl (fun j => en ((va_up (va_up (va_up ty (t * 12 + 6) (some (b + 2))) (t * 12 + 6) (some (b + 1))) (t * 12 + 6) (some (b))) j))))) P
  refine er_aload_n d_Ma_actOnRow_66 rfl ?_
  refine er_getf d_Ma_actOnRow_67 f_Ma_actOnRow_28 (jl_sn (by decide) (jl_sn (by decide) (jl_sn (by decide) hX))) rfl ?_
  refine er_iload d_Ma_actOnRow_70 rfl ?_
  refine er_ialdQ (v := (nI (1))) d_Ma_actOnRow_72 (jl_ss (jl_ss (jl_ss t1))) (by omega) (by omega) ((congrArg en ((va_up_ne _ _ (by omega)).trans ((va_up_ne _ _ (by omega)).trans ((va_up_ne _ _ (by omega)).trans (hT0))))).trans (congrArg en hy)) ?_
  refine er_iconst ((nI (2))) d_Ma_actOnRow_73 (by decide) ?_
  refine er_icmp_ne 79 d_Ma_actOnRow_74 (by decide) (fun _ => ?_) (fun z => absurd z (by decide))
  refine er_aload_n d_Ma_actOnRow_79 rfl ?_
  refine er_getf d_Ma_actOnRow_80 f_Ma_actOnRow_31 (jl_sn (by decide) (jl_sn (by decide) (jl_sn (by decide) hX))) rfl ?_
  refine er_iload d_Ma_actOnRow_83 rfl ?_
  refine er_ialdQ (v := (nI (q))) d_Ma_actOnRow_85 (jl_sn (by decide) (jl_sn (by decide) (jl_sn (by decide) t2))) (by omega) (by omega) ((hV0).trans hv) ?_
  refine er_istore d_Ma_actOnRow_86 (by decide) ?_
  show jl_E l G m_Ma_actOnRow (0, 0) 88 [some (.ref 13), some (.int (nI 21)), some (.int (V (9 + b))), some (.int (V (8 + b))), some (.int (nI (t * 12 + 7 + b))), some (.int (nI q))] [] (((σ.set (20) (.inl (0, 144, .inl (fun j => en ((va_up ty (t * 12 + 6) (some (b + 2))) j))))).set (20) (.inl (0, 144, .inl (fun j => en ((va_up (va_up ty (t * 12 + 6) (some (b + 2))) (t * 12 + 6) (some (b + 1))) j))))).set (20) (.inl (0, 144, .inl (fun j => en ((va_up (va_up (va_up ty (t * 12 + 6) (some (b + 2))) (t * 12 + 6) (some (b + 1))) (t * 12 + 6) (some (b))) j))))) P
  refine er_iload_n d_Ma_actOnRow_88 rfl ?_
  refine er_bipush ((nI (22))) d_Ma_actOnRow_89 (by decide) ?_
  refine er_icmp_ne 111 d_Ma_actOnRow_91 (by decide) (fun _ => ?_) (fun z => absurd z (by decide))
  refine er_aload_n d_Ma_actOnRow_111 rfl ?_
  refine er_getf d_Ma_actOnRow_112 f_Ma_actOnRow_12 (jl_sn (by decide) (jl_sn (by decide) (jl_sn (by decide) hX))) rfl ?_
  refine er_iload d_Ma_actOnRow_115 rfl ?_
  refine er_iload_n d_Ma_actOnRow_117 rfl ?_
  refine er_callV (As := [.int (nI q), .int (V (8 + b))]) d_Ma_actOnRow_118 k_Ma_actOnRow_170 (jl_sn (by decide) (jl_sn (by decide) (jl_sn (by decide) s0))) rfl rfl rfl (Nat.le_of_ble_eq_true rfl) (by decide) (by decide) (st_hasF hl ⟨(jl_sn (by decide) (jl_sn (by decide) (jl_sn (by decide) s0))), (jl_sn (by decide) (jl_sn (by decide) (jl_sn (by decide) s1))), (jl_sn (by decide) (jl_sn (by decide) (jl_sn (by decide) s2))), (jl_sn (by decide) (jl_sn (by decide) (jl_sn (by decide) s3)))⟩ hm40 hst) ?_
  show jl_E l G m_Ma_actOnRow (0, 0) 121 [some (.ref 13), some (.int (nI 21)), some (.int (V (9 + b))), some (.int (V (8 + b))), some (.int (nI (t * 12 + 7 + b))), some (.int (nI q))] [.int (nI 0)] (((σ.set (20) (.inl (0, 144, .inl (fun j => en ((va_up ty (t * 12 + 6) (some (b + 2))) j))))).set (20) (.inl (0, 144, .inl (fun j => en ((va_up (va_up ty (t * 12 + 6) (some (b + 2))) (t * 12 + 6) (some (b + 1))) j))))).set (20) (.inl (0, 144, .inl (fun j => en ((va_up (va_up (va_up ty (t * 12 + 6) (some (b + 2))) (t * 12 + 6) (some (b + 1))) (t * 12 + 6) (some (b))) j))))) P
  refine er_if_ne 126 d_Ma_actOnRow_121 (by decide) (fun z => absurd rfl z) (fun _ => ?_)
  refine er_iconst ((nI (3))) d_Ma_actOnRow_124 (by decide) ?_
  exact er_iret d_Ma_actOnRow_125 rfl (hT _ ⟨_, _, _, _, (jl_sn (by decide) (jl_sn (by decide) (jl_sn (by decide) hX))), (jl_sn (by decide) (jl_sn (by decide) (jl_sn (by decide) u1))), (jl_sn (by decide) (jl_sn (by decide) (jl_sn (by decide) u2))), (jl_ss (jl_ss (jl_ss t1))), (jl_sn (by decide) (jl_sn (by decide) (jl_sn (by decide) t2))), ⟨(jl_sn (by decide) (jl_sn (by decide) (jl_sn (by decide) s0))), (jl_sn (by decide) (jl_sn (by decide) (jl_sn (by decide) s1))), (jl_sn (by decide) (jl_sn (by decide) (jl_sn (by decide) s2))), (jl_sn (by decide) (jl_sn (by decide) (jl_sn (by decide) s3)))⟩, (((((((hx).six (y := some (b + 2)) (ob_s (by omega)))).six (y := some (b + 1)) (ob_s (by omega)))).six (y := some (b)) (ob_s (by omega)))).lo (by omega) (fun j hj => ⟨by simp only [va_up, psh, if_neg (show ¬ j = 6 by omega), if_neg (show ¬ j = 7 + b by omega)], by simp only [va_up, psh, if_neg (show ¬ j = 6 by omega), if_neg (show ¬ j = 7 + b by omega)]⟩), hto, (((hF.set (by omega)).set (by omega)).set (by omega))⟩) (by decide) (by decide)
theorem ma_act_21b (hl : l.stackTraces = false) {P : jl_O → jl_S → Prop} {q : Nat} (hk : KB σ0 mt σ (7 + (b + 3)) t m p (R) (V) (fs) (H) su dt dq aw) (ht : t < 12) (hh : R 6 = some (b + 3)) (hb : b + 3 ≤ 5) (hy : R (7 + b) = some 1) (hv : V (7 + b) = nI q) (hq : q < 40) (hm40 : H.n ≤ 40) (hst : stH H.sz H.n (nI q) (V (8 + b)) = false) (hT : ∀ σ', KB σ0 mt σ' (6) t m p (R) (V) (fs) (H) su dt dq aw → P (.inl (some (.int (nI 3)))) σ') : jl_mE l G m_Ma_actOnStack [.ref 13, .int (nI 21), .int (x)] σ P := by
  obtain ⟨uw, ps, ty, va, hX, u1, u2, t1, t2, hS, hx, hto, hF⟩ := id hk
  obtain ⟨s0, s1, s2, s3⟩ := id hS
  obtain ⟨⟨⟨a, hma, hua⟩, hps, hty, hva⟩, hfs, hln, hob⟩ := id hx
  have hma : mt m = some a := hma
  have hps : ps t = p := hps
  have hty : ∀ j, j < _ → ty (t * 12 + j) = R j := hty
  have hva : ∀ j, j < _ → j ≠ 6 → va (t * 12 + j) = V j := hva
  have hRo := hx.rob
  refine jl_ofE (as := [.ref 13, .int (nI 21), .int (x)]) rfl (by decide) hl (jl_cc rfl (jl_cc rfl (jl_cc rfl jl_ca))) (Nat.le_of_ble_eq_true rfl) ?_
  show jl_E l G m_Ma_actOnStack (0, 0) 0 [some (.ref 13), some (.int (nI 21)), some (.int (x)), none, none] [] (σ) P
  refine er_iload_n d_Ma_actOnStack_0 rfl ?_
  refine er_tableIn (off := 246) 247 d_Ma_actOnStack_1 (by decide +kernel) (by decide +kernel) (by decide +kernel) (by decide) ?_
  refine er_aload_n d_Ma_actOnStack_247 rfl ?_
  refine er_iload_n d_Ma_actOnStack_248 rfl ?_
  refine er_callVE (As := [.int (nI 21)]) d_Ma_actOnStack_249 k_Ma_actOnStack_158 hX rfl rfl rfl (Nat.le_of_ble_eq_true rfl) (by decide) (by decide) (ma_row_21b hl hk ht hh hb hy hv hq hm40 hst (fun σ hk => ⟨_, rfl, ?_⟩))
  show jl_E l G m_Ma_actOnStack (0, 0) 252 [some (.ref 13), some (.int (nI 21)), some (.int (x)), none, none] [.int (nI 3)] (σ) P
  exact er_iret d_Ma_actOnStack_252 rfl (hT _ hk) (by decide) (by decide)
theorem d_Ma_actOnRow_46 : decode m_Ma_actOnRow.2.1 46 = .ok (.iconst 0, 1) := by decide +kernel
theorem d_Ma_actOnRow_47 : decode m_Ma_actOnRow.2.1 47 = .ok (.goto 12, 3) := by decide +kernel
theorem ma_row_22n (hl : l.stackTraces = false) {P : jl_O → jl_S → Prop}  (hk : KB σ0 mt σ (7 + (b + 1)) t m p (R) (V) (fs) (H) su dt dq aw) (ht : t < 12) (hh : R 6 = some (b + 1)) (hb : b + 1 ≤ 5) (hy : R (7 + b) = some 2) (hT : ∀ σ', KB σ0 mt σ' (6) t m p (R) (V) (fs) (H) su dt dq aw → P (.inl (some (.int (nI 2)))) σ') : jl_mE l G m_Ma_actOnRow [.ref 13, .int (nI 22)] σ P := by
  obtain ⟨uw, ps, ty, va, hX, u1, u2, t1, t2, hS, hx, hto, hF⟩ := id hk
  obtain ⟨s0, s1, s2, s3⟩ := id hS
  obtain ⟨⟨⟨a, hma, hua⟩, hps, hty, hva⟩, hfs, hln, hob⟩ := id hx
  have hma : mt m = some a := hma
  have hps : ps t = p := hps
  have hty : ∀ j, j < _ → ty (t * 12 + j) = R j := hty
  have hva : ∀ j, j < _ → j ≠ 6 → va (t * 12 + j) = V j := hva
  have hRo := hx.rob
  have hh6 : ty (t * 12 + 6) = some (b + 1) := (hty 6 (by omega)).trans hh
  have hT0 : ty (t * 12 + 7 + b) = R (7 + b) := by rw [show t * 12 + 7 + b = t * 12 + (7 + b) by omega]; exact hty _ (by omega)
  have hV0 : va (t * 12 + 7 + b) = V (7 + b) := by rw [show t * 12 + 7 + b = t * 12 + (7 + b) by omega]; exact hva _ (by omega) (by omega)
  refine jl_ofE (as := [.ref 13, .int (nI 22)]) rfl (by decide) hl (jl_cc rfl (jl_cc rfl jl_ca)) (Nat.le_of_ble_eq_true rfl) ?_
  show jl_E l G m_Ma_actOnRow (0, 0) 0 [some (.ref 13), some (.int (nI 22)), none, none, none, none] [] (σ) P
  refine er_iload_n d_Ma_actOnRow_0 rfl ?_
  refine er_bipush ((nI (19))) d_Ma_actOnRow_1 (by decide) ?_
  refine er_icmp_ne 20 d_Ma_actOnRow_3 (by decide) (fun _ => ?_) (fun z => absurd z (by decide))
  refine er_iload_n d_Ma_actOnRow_20 rfl ?_
  refine er_bipush ((nI (21))) d_Ma_actOnRow_21 (by decide) ?_
  refine er_icmp_ne 38 d_Ma_actOnRow_23 (by decide) (fun _ => ?_) (fun z => absurd z (by decide))
  refine er_iconst ((nI (0))) d_Ma_actOnRow_38 (by decide) ?_
  refine er_istore_n d_Ma_actOnRow_39 (by decide) ?_
  show jl_E l G m_Ma_actOnRow (0, 0) 40 [some (.ref 13), some (.int (nI 22)), some (.int (nI 0)), none, none, none] [] (σ) P
  refine er_iload_n d_Ma_actOnRow_40 rfl ?_
  refine er_bipush ((nI (22))) d_Ma_actOnRow_41 (by decide) ?_
  refine er_icmp_ne 50 d_Ma_actOnRow_43 (by decide) (fun z => absurd rfl z) (fun _ => ?_)
  refine er_iconst ((nI (0))) d_Ma_actOnRow_46 (by decide) ?_
  refine er_goto 59 d_Ma_actOnRow_47 (by decide) ?_
  refine er_istore_n d_Ma_actOnRow_59 (by decide) ?_
  show jl_E l G m_Ma_actOnRow (0, 0) 60 [some (.ref 13), some (.int (nI 22)), some (.int (nI 0)), some (.int (nI 0)), none, none] [] (σ) P
  refine er_aload_n d_Ma_actOnRow_60 rfl ?_
  refine er_callV (As := []) d_Ma_actOnRow_61 k_Ma_actOnRow_121 hX rfl rfl rfl (Nat.le_of_ble_eq_true rfl) (by decide) (by decide) (ma_takeA (h := b) hl hX t1 t2 ht hh6 (by omega)) ?_
  show jl_E l G m_Ma_actOnRow (0, 0) 64 [some (.ref 13), some (.int (nI 22)), some (.int (nI 0)), some (.int (nI 0)), none, none] [.int (nI (t * 12 + 7 + b))] (σ.set (20) (.inl (0, 144, .inl (fun j => en ((va_up ty (t * 12 + 6) (some (b))) j))))) P
  refine er_istore d_Ma_actOnRow_64 (by decide) ?_
  show jl_E l G m_Ma_actOnRow (0, 0) 66 [some (.ref 13), some (.int (nI 22)), some (.int (nI 0)), some (.int (nI 0)), some (.int (nI (t * 12 + 7 + b))), none] [] (σ.set (20) (.inl (0, 144, .inl (fun j => en ((va_up ty (t * 12 + 6) (some (b))) j))))) P
  refine er_aload_n d_Ma_actOnRow_66 rfl ?_
  refine er_getf d_Ma_actOnRow_67 f_Ma_actOnRow_28 (jl_sn (by decide) hX) rfl ?_
  refine er_iload d_Ma_actOnRow_70 rfl ?_
  refine er_ialdQ (v := (nI (2))) d_Ma_actOnRow_72 (jl_ss t1) (by omega) (by omega) ((congrArg en ((va_up_ne _ _ (by omega)).trans (hT0))).trans (congrArg en hy)) ?_
  refine er_iconst ((nI (2))) d_Ma_actOnRow_73 (by decide) ?_
  refine er_icmp_ne 79 d_Ma_actOnRow_74 (by decide) (fun z => absurd rfl z) (fun _ => ?_)
  refine er_iconst ((nI (2))) d_Ma_actOnRow_77 (by decide) ?_
  exact er_iret d_Ma_actOnRow_78 rfl (hT _ ⟨_, _, _, _, (jl_sn (by decide) hX), (jl_sn (by decide) u1), (jl_sn (by decide) u2), (jl_ss t1), (jl_sn (by decide) t2), ⟨(jl_sn (by decide) s0), (jl_sn (by decide) s1), (jl_sn (by decide) s2), (jl_sn (by decide) s3)⟩, (((hx).six (y := some (b)) (ob_s (by omega)))).lo (by omega) (fun j hj => ⟨by simp only [va_up, psh, if_neg (show ¬ j = 6 by omega), if_neg (show ¬ j = 7 + b by omega)], by simp only [va_up, psh, if_neg (show ¬ j = 6 by omega), if_neg (show ¬ j = 7 + b by omega)]⟩), hto, (hF.set (by omega))⟩) (by decide) (by decide)
theorem ma_act_22n (hl : l.stackTraces = false) {P : jl_O → jl_S → Prop}  (hk : KB σ0 mt σ (7 + (b + 1)) t m p (R) (V) (fs) (H) su dt dq aw) (ht : t < 12) (hh : R 6 = some (b + 1)) (hb : b + 1 ≤ 5) (hy : R (7 + b) = some 2) (hT : ∀ σ', KB σ0 mt σ' (6) t m p (R) (V) (fs) (H) su dt dq aw → P (.inl (some (.int (nI 2)))) σ') : jl_mE l G m_Ma_actOnStack [.ref 13, .int (nI 22), .int (x)] σ P := by
  obtain ⟨uw, ps, ty, va, hX, u1, u2, t1, t2, hS, hx, hto, hF⟩ := id hk
  obtain ⟨s0, s1, s2, s3⟩ := id hS
  obtain ⟨⟨⟨a, hma, hua⟩, hps, hty, hva⟩, hfs, hln, hob⟩ := id hx
  have hma : mt m = some a := hma
  have hps : ps t = p := hps
  have hty : ∀ j, j < _ → ty (t * 12 + j) = R j := hty
  have hva : ∀ j, j < _ → j ≠ 6 → va (t * 12 + j) = V j := hva
  have hRo := hx.rob
  refine jl_ofE (as := [.ref 13, .int (nI 22), .int (x)]) rfl (by decide) hl (jl_cc rfl (jl_cc rfl (jl_cc rfl jl_ca))) (Nat.le_of_ble_eq_true rfl) ?_
  show jl_E l G m_Ma_actOnStack (0, 0) 0 [some (.ref 13), some (.int (nI 22)), some (.int (x)), none, none] [] (σ) P
  refine er_iload_n d_Ma_actOnStack_0 rfl ?_
  refine er_tableIn (off := 246) 247 d_Ma_actOnStack_1 (by decide +kernel) (by decide +kernel) (by decide +kernel) (by decide) ?_
  refine er_aload_n d_Ma_actOnStack_247 rfl ?_
  refine er_iload_n d_Ma_actOnStack_248 rfl ?_
  refine er_callVE (As := [.int (nI 22)]) d_Ma_actOnStack_249 k_Ma_actOnStack_158 hX rfl rfl rfl (Nat.le_of_ble_eq_true rfl) (by decide) (by decide) (ma_row_22n hl hk ht hh hb hy (fun σ hk => ⟨_, rfl, ?_⟩))
  show jl_E l G m_Ma_actOnStack (0, 0) 252 [some (.ref 13), some (.int (nI 22)), some (.int (x)), none, none] [.int (nI 2)] (σ) P
  exact er_iret d_Ma_actOnStack_252 rfl (hT _ hk) (by decide) (by decide)
theorem d_Ma_actOnRow_126 : decode m_Ma_actOnRow.2.1 126 = .ok (.iload_n 1, 1) := by decide +kernel
theorem d_Ma_actOnRow_127 : decode m_Ma_actOnRow.2.1 127 = .ok (.bipush 20, 2) := by decide +kernel
theorem d_Ma_actOnRow_129 : decode m_Ma_actOnRow.2.1 129 = .ok (.if_icmp .ne 29, 3) := by decide +kernel
theorem d_Ma_actOnRow_132 : decode m_Ma_actOnRow.2.1 132 = .ok (.aload_n 0, 1) := by decide +kernel
theorem d_Ma_actOnRow_133 : decode m_Ma_actOnRow.2.1 133 = .ok (.iconst 0, 1) := by decide +kernel
theorem d_Ma_actOnRow_134 : decode m_Ma_actOnRow.2.1 134 = .ok (.aload_n 0, 1) := by decide +kernel
theorem d_Ma_actOnRow_135 : decode m_Ma_actOnRow.2.1 135 = .ok (.getfield 12, 3) := by decide +kernel
theorem f_Ma_actOnRow_173 : jl_fd m_Ma_actOnRow 173 3 2 = true := by decide +kernel
theorem d_Ma_actOnRow_138 : decode m_Ma_actOnRow.2.1 138 = .ok (.getfield 173, 3) := by decide +kernel
theorem d_Ma_actOnRow_141 : decode m_Ma_actOnRow.2.1 141 = .ok (.aload_n 0, 1) := by decide +kernel
theorem d_Ma_actOnRow_142 : decode m_Ma_actOnRow.2.1 142 = .ok (.getfield 12, 3) := by decide +kernel
theorem d_Ma_actOnRow_145 : decode m_Ma_actOnRow.2.1 145 = .ok (.iload 5, 2) := by decide +kernel
theorem d_Ma_actOnRow_147 : decode m_Ma_actOnRow.2.1 147 = .ok (.iload_n 3, 1) := by decide +kernel
theorem k_Ma_actOnRow_174 : jl_cv m_Ma_actOnRow m_St_cell 174 2 = true := by decide +kernel
theorem d_Ma_actOnRow_148 : decode m_Ma_actOnRow.2.1 148 = .ok (.invokevirtual 174, 3) := by decide +kernel
theorem d_Ma_actOnRow_151 : decode m_Ma_actOnRow.2.1 151 = .ok (.iaload, 1) := by decide +kernel
theorem k_Ma_actOnRow_133 : jl_cv m_Ma_actOnRow m_Ma_put 133 2 = true := by decide +kernel
theorem d_Ma_actOnRow_152 : decode m_Ma_actOnRow.2.1 152 = .ok (.invokevirtual 133, 3) := by decide +kernel
theorem d_Ma_actOnRow_155 : decode m_Ma_actOnRow.2.1 155 = .ok (.goto 22, 3) := by decide +kernel
theorem d_Ma_actOnRow_177 : decode m_Ma_actOnRow.2.1 177 = .ok (.iconst 0, 1) := by decide +kernel
theorem d_Ma_actOnRow_178 : decode m_Ma_actOnRow.2.1 178 = .ok (.ireturn, 1) := by decide +kernel
theorem ma_row_20 (hl : l.stackTraces = false) {P : jl_O → jl_S → Prop} {q j : Nat} (hk : KB σ0 mt σ (7 + (b + 2)) t m p (R) (V) (fs) (H) su dt dq aw) (ht : t < 12) (hh : R 6 = some (b + 2)) (hb : b + 2 ≤ 5) (hy : R (7 + b) = some 1) (hv : V (7 + b) = nI q) (hq : q < 40) (hi : V (8 + b) = nI j) (hj : j < 18) (hm40 : H.n ≤ 40) (hst : stH H.sz H.n (nI q) (nI j) = true) (hT : ∀ σ', KB σ0 mt σ' (8 + b) t m p (psh R b (some 0)) (va_up V (7 + b) (H.va (q * 18 + j))) (fs) (H) su dt dq aw → P (.inl (some (.int (nI 0)))) σ') : jl_mE l G m_Ma_actOnRow [.ref 13, .int (nI 20)] σ P := by
  obtain ⟨uw, ps, ty, va, hX, u1, u2, t1, t2, hS, hx, hto, hF⟩ := id hk
  obtain ⟨s0, s1, s2, s3⟩ := id hS
  obtain ⟨⟨⟨a, hma, hua⟩, hps, hty, hva⟩, hfs, hln, hob⟩ := id hx
  have hma : mt m = some a := hma
  have hps : ps t = p := hps
  have hty : ∀ j, j < _ → ty (t * 12 + j) = R j := hty
  have hva : ∀ j, j < _ → j ≠ 6 → va (t * 12 + j) = V j := hva
  have hRo := hx.rob
  have hh6 : ty (t * 12 + 6) = some (b + 2) := (hty 6 (by omega)).trans hh
  have hT0 : ty (t * 12 + 7 + b) = R (7 + b) := by rw [show t * 12 + 7 + b = t * 12 + (7 + b) by omega]; exact hty _ (by omega)
  have hV0 : va (t * 12 + 7 + b) = V (7 + b) := by rw [show t * 12 + 7 + b = t * 12 + (7 + b) by omega]; exact hva _ (by omega) (by omega)
  have hT1 : ty (t * 12 + 7 + (b + 1)) = R (8 + b) := by rw [show t * 12 + 7 + (b + 1) = t * 12 + (8 + b) by omega]; exact hty _ (by omega)
  have hV1 : va (t * 12 + 7 + (b + 1)) = V (8 + b) := by rw [show t * 12 + 7 + (b + 1) = t * 12 + (8 + b) by omega]; exact hva _ (by omega) (by omega)
  refine jl_ofE (as := [.ref 13, .int (nI 20)]) rfl (by decide) hl (jl_cc rfl (jl_cc rfl jl_ca)) (Nat.le_of_ble_eq_true rfl) ?_
  show jl_E l G m_Ma_actOnRow (0, 0) 0 [some (.ref 13), some (.int (nI 20)), none, none, none, none] [] (σ) P
  refine er_iload_n d_Ma_actOnRow_0 rfl ?_
  refine er_bipush ((nI (19))) d_Ma_actOnRow_1 (by decide) ?_
  refine er_icmp_ne 20 d_Ma_actOnRow_3 (by decide) (fun _ => ?_) (fun z => absurd z (by decide))
  refine er_iload_n d_Ma_actOnRow_20 rfl ?_
  refine er_bipush ((nI (21))) d_Ma_actOnRow_21 (by decide) ?_
  refine er_icmp_ne 38 d_Ma_actOnRow_23 (by decide) (fun _ => ?_) (fun z => absurd z (by decide))
  refine er_iconst ((nI (0))) d_Ma_actOnRow_38 (by decide) ?_
  refine er_istore_n d_Ma_actOnRow_39 (by decide) ?_
  show jl_E l G m_Ma_actOnRow (0, 0) 40 [some (.ref 13), some (.int (nI 20)), some (.int (nI 0)), none, none, none] [] (σ) P
  refine er_iload_n d_Ma_actOnRow_40 rfl ?_
  refine er_bipush ((nI (22))) d_Ma_actOnRow_41 (by decide) ?_
  refine er_icmp_ne 50 d_Ma_actOnRow_43 (by decide) (fun _ => ?_) (fun z => absurd z (by decide))
  refine er_aload_n d_Ma_actOnRow_50 rfl ?_
  refine er_getf d_Ma_actOnRow_51 f_Ma_actOnRow_31 hX rfl ?_
  refine er_aload_n d_Ma_actOnRow_54 rfl ?_
  refine er_callV (As := []) d_Ma_actOnRow_55 k_Ma_actOnRow_121 hX rfl rfl rfl (Nat.le_of_ble_eq_true rfl) (by decide) (by decide) (ma_takeA (h := b + 1) hl hX t1 t2 ht hh6 (by omega)) ?_
  show jl_E l G m_Ma_actOnRow (0, 0) 58 [some (.ref 13), some (.int (nI 20)), some (.int (nI 0)), none, none, none] [.int (nI (t * 12 + 7 + (b + 1))), .ref 21] (σ.set (20) (.inl (0, 144, .inl (fun j => en ((va_up ty (t * 12 + 6) (some (b + 1))) j))))) P
  refine er_ialdQ (v := (nI (j))) d_Ma_actOnRow_58 (jl_sn (by decide) t2) (by omega) (by omega) ((hV1).trans hi) ?_
  refine er_istore_n d_Ma_actOnRow_59 (by decide) ?_
  show jl_E l G m_Ma_actOnRow (0, 0) 60 [some (.ref 13), some (.int (nI 20)), some (.int (nI 0)), some (.int (nI j)), none, none] [] (σ.set (20) (.inl (0, 144, .inl (fun j => en ((va_up ty (t * 12 + 6) (some (b + 1))) j))))) P
  refine er_aload_n d_Ma_actOnRow_60 rfl ?_
  refine er_callV (As := []) d_Ma_actOnRow_61 k_Ma_actOnRow_121 (jl_sn (by decide) hX) rfl rfl rfl (Nat.le_of_ble_eq_true rfl) (by decide) (by decide) (ma_takeA (h := b) hl (jl_sn (by decide) hX) (jl_ss t1) (jl_sn (by decide) t2) ht (va_up_self _ _ _) (by omega)) ?_
  show jl_E l G m_Ma_actOnRow (0, 0) 64 [some (.ref 13), some (.int (nI 20)), some (.int (nI 0)), some (.int (nI j)), none, none] [.int (nI (t * 12 + 7 + b))] ((σ.set (20) (.inl (0, 144, .inl (fun j => en ((va_up ty (t * 12 + 6) (some (b + 1))) j))))).set (20) (.inl (0, 144, .inl (fun j => en ((va_up (va_up ty (t * 12 + 6) (some (b + 1))) (t * 12 + 6) (some (b))) j))))) P
  refine er_istore d_Ma_actOnRow_64 (by decide) ?_
  show jl_E l G m_Ma_actOnRow (0, 0) 66 [some (.ref 13), some (.int (nI 20)), some (.int (nI 0)), some (.int (nI j)), some (.int (nI (t * 12 + 7 + b))), none] [] ((σ.set (20) (.inl (0, 144, .inl (fun j => en ((va_up ty (t * 12 + 6) (some (b + 1))) j))))).set (20) (.inl (0, 144, .inl (fun j => en ((va_up (va_up ty (t * 12 + 6) (some (b + 1))) (t * 12 + 6) (some (b))) j))))) P
  refine er_aload_n d_Ma_actOnRow_66 rfl ?_
  refine er_getf d_Ma_actOnRow_67 f_Ma_actOnRow_28 (jl_sn (by decide) (jl_sn (by decide) hX)) rfl ?_
  refine er_iload d_Ma_actOnRow_70 rfl ?_
  refine er_ialdQ (v := (nI (1))) d_Ma_actOnRow_72 (jl_ss (jl_ss t1)) (by omega) (by omega) ((congrArg en ((va_up_ne _ _ (by omega)).trans ((va_up_ne _ _ (by omega)).trans (hT0)))).trans (congrArg en hy)) ?_
  refine er_iconst ((nI (2))) d_Ma_actOnRow_73 (by decide) ?_
  refine er_icmp_ne 79 d_Ma_actOnRow_74 (by decide) (fun _ => ?_) (fun z => absurd z (by decide))
  refine er_aload_n d_Ma_actOnRow_79 rfl ?_
  refine er_getf d_Ma_actOnRow_80 f_Ma_actOnRow_31 (jl_sn (by decide) (jl_sn (by decide) hX)) rfl ?_
  refine er_iload d_Ma_actOnRow_83 rfl ?_
  refine er_ialdQ (v := (nI (q))) d_Ma_actOnRow_85 (jl_sn (by decide) (jl_sn (by decide) t2)) (by omega) (by omega) ((hV0).trans hv) ?_
  refine er_istore d_Ma_actOnRow_86 (by decide) ?_
  show jl_E l G m_Ma_actOnRow (0, 0) 88 [some (.ref 13), some (.int (nI 20)), some (.int (nI 0)), some (.int (nI j)), some (.int (nI (t * 12 + 7 + b))), some (.int (nI q))] [] ((σ.set (20) (.inl (0, 144, .inl (fun j => en ((va_up ty (t * 12 + 6) (some (b + 1))) j))))).set (20) (.inl (0, 144, .inl (fun j => en ((va_up (va_up ty (t * 12 + 6) (some (b + 1))) (t * 12 + 6) (some (b))) j))))) P
  refine er_iload_n d_Ma_actOnRow_88 rfl ?_
  refine er_bipush ((nI (22))) d_Ma_actOnRow_89 (by decide) ?_
  refine er_icmp_ne 111 d_Ma_actOnRow_91 (by decide) (fun _ => ?_) (fun z => absurd z (by decide))
  refine er_aload_n d_Ma_actOnRow_111 rfl ?_
  refine er_getf d_Ma_actOnRow_112 f_Ma_actOnRow_12 (jl_sn (by decide) (jl_sn (by decide) hX)) rfl ?_
  refine er_iload d_Ma_actOnRow_115 rfl ?_
  refine er_iload_n d_Ma_actOnRow_117 rfl ?_
  refine er_callV (As := [.int (nI q), .int (nI j)]) d_Ma_actOnRow_118 k_Ma_actOnRow_170 (jl_sn (by decide) (jl_sn (by decide) s0)) rfl rfl rfl (Nat.le_of_ble_eq_true rfl) (by decide) (by decide) (st_hasT hl ⟨(jl_sn (by decide) (jl_sn (by decide) s0)), (jl_sn (by decide) (jl_sn (by decide) s1)), (jl_sn (by decide) (jl_sn (by decide) s2)), (jl_sn (by decide) (jl_sn (by decide) s3))⟩ hm40 hst) ?_
  show jl_E l G m_Ma_actOnRow (0, 0) 121 [some (.ref 13), some (.int (nI 20)), some (.int (nI 0)), some (.int (nI j)), some (.int (nI (t * 12 + 7 + b))), some (.int (nI q))] [.int (nI 1)] ((σ.set (20) (.inl (0, 144, .inl (fun j => en ((va_up ty (t * 12 + 6) (some (b + 1))) j))))).set (20) (.inl (0, 144, .inl (fun j => en ((va_up (va_up ty (t * 12 + 6) (some (b + 1))) (t * 12 + 6) (some (b))) j))))) P
  refine er_if_ne 126 d_Ma_actOnRow_121 (by decide) (fun _ => ?_) (fun z => absurd z (by decide))
  refine er_iload_n d_Ma_actOnRow_126 rfl ?_
  refine er_bipush ((nI (20))) d_Ma_actOnRow_127 (by decide) ?_
  refine er_icmp_ne 158 d_Ma_actOnRow_129 (by decide) (fun z => absurd rfl z) (fun _ => ?_)
  refine er_aload_n d_Ma_actOnRow_132 rfl ?_
  refine er_iconst ((nI (0))) d_Ma_actOnRow_133 (by decide) ?_
  refine er_aload_n d_Ma_actOnRow_134 rfl ?_
  refine er_getf d_Ma_actOnRow_135 f_Ma_actOnRow_12 (jl_sn (by decide) (jl_sn (by decide) hX)) rfl ?_
  refine er_getf d_Ma_actOnRow_138 f_Ma_actOnRow_173 (jl_sn (by decide) (jl_sn (by decide) s0)) rfl ?_
  refine er_aload_n d_Ma_actOnRow_141 rfl ?_
  refine er_getf d_Ma_actOnRow_142 f_Ma_actOnRow_12 (jl_sn (by decide) (jl_sn (by decide) hX)) rfl ?_
  refine er_iload d_Ma_actOnRow_145 rfl ?_
  refine er_iload_n d_Ma_actOnRow_147 rfl ?_
  refine er_callV (As := [.int (nI q), .int (nI j)]) d_Ma_actOnRow_148 k_Ma_actOnRow_174 (jl_sn (by decide) (jl_sn (by decide) s0)) rfl rfl rfl (Nat.le_of_ble_eq_true rfl) (by decide) (by decide) (st_cellS hl ⟨(jl_sn (by decide) (jl_sn (by decide) s0)), (jl_sn (by decide) (jl_sn (by decide) s1)), (jl_sn (by decide) (jl_sn (by decide) s2)), (jl_sn (by decide) (jl_sn (by decide) s3))⟩) ?_
  show jl_E l G m_Ma_actOnRow (0, 0) 151 [some (.ref 13), some (.int (nI 20)), some (.int (nI 0)), some (.int (nI j)), some (.int (nI (t * 12 + 7 + b))), some (.int (nI q))] [.int (nI (q * 18 + j)), .ref 17, .int (nI 0), .ref 13] ((σ.set (20) (.inl (0, 144, .inl (fun j => en ((va_up ty (t * 12 + 6) (some (b + 1))) j))))).set (20) (.inl (0, 144, .inl (fun j => en ((va_up (va_up ty (t * 12 + 6) (some (b + 1))) (t * 12 + 6) (some (b))) j))))) P
  refine er_ialdN d_Ma_actOnRow_151 (jl_sn (by decide) (jl_sn (by decide) s3)) (by omega) (by omega) ?_
  refine er_callV (As := [.int (nI 0), .int (H.va (q * 18 + j))]) d_Ma_actOnRow_152 k_Ma_actOnRow_133 (jl_sn (by decide) (jl_sn (by decide) hX)) rfl rfl rfl (Nat.le_of_ble_eq_true rfl) (by decide) (by decide) (ma_put (h := b) (y := (some (0))) (v := (H.va (q * 18 + j))) hl (jl_sn (by decide) (jl_sn (by decide) hX)) (jl_ss (jl_ss t1)) (jl_sn (by decide) (jl_sn (by decide) t2)) ht (va_up_self _ _ _) (by omega)) ?_
  show jl_E l G m_Ma_actOnRow (0, 0) 155 [some (.ref 13), some (.int (nI 20)), some (.int (nI 0)), some (.int (nI j)), some (.int (nI (t * 12 + 7 + b))), some (.int (nI q))] [] (((((σ.set (20) (.inl (0, 144, .inl (fun j => en ((va_up ty (t * 12 + 6) (some (b + 1))) j))))).set (20) (.inl (0, 144, .inl (fun j => en ((va_up (va_up ty (t * 12 + 6) (some (b + 1))) (t * 12 + 6) (some (b))) j))))).set (20) (.inl (0, 144, .inl (fun j => en ((va_up (va_up (va_up ty (t * 12 + 6) (some (b + 1))) (t * 12 + 6) (some (b))) (t * 12 + 7 + b) (some (0))) j))))).set (21) (.inl (0, 144, .inl (upd va (t * 12 + 7 + b) (H.va (q * 18 + j)))))).set (20) (.inl (0, 144, .inl (fun j => en ((va_up (va_up (va_up (va_up ty (t * 12 + 6) (some (b + 1))) (t * 12 + 6) (some (b))) (t * 12 + 7 + b) (some (0))) (t * 12 + 6) (some (b + 1))) j))))) P
  refine er_goto 177 d_Ma_actOnRow_155 (by decide) ?_
  refine er_iconst ((nI (0))) d_Ma_actOnRow_177 (by decide) ?_
  exact er_iret d_Ma_actOnRow_178 rfl (hT _ ⟨_, _, _, _, (jl_sn (by decide) (jl_sn (by decide) (jl_sn (by decide) (jl_sn (by decide) (jl_sn (by decide) hX))))), (jl_sn (by decide) (jl_sn (by decide) (jl_sn (by decide) (jl_sn (by decide) (jl_sn (by decide) u1))))), (jl_sn (by decide) (jl_sn (by decide) (jl_sn (by decide) (jl_sn (by decide) (jl_sn (by decide) u2))))), (jl_ss (jl_sn (by decide) (jl_ss (jl_ss (jl_ss t1))))), (jl_sn (by decide) (jl_ss (jl_sn (by decide) (jl_sn (by decide) (jl_sn (by decide) t2))))), ⟨(jl_sn (by decide) (jl_sn (by decide) (jl_sn (by decide) (jl_sn (by decide) (jl_sn (by decide) s0))))), (jl_sn (by decide) (jl_sn (by decide) (jl_sn (by decide) (jl_sn (by decide) (jl_sn (by decide) s1))))), (jl_sn (by decide) (jl_sn (by decide) (jl_sn (by decide) (jl_sn (by decide) (jl_sn (by decide) s2))))), (jl_sn (by decide) (jl_sn (by decide) (jl_sn (by decide) (jl_sn (by decide) (jl_sn (by decide) s3)))))⟩, ((((((((hx).six (y := some (b + 1)) (ob_s (by omega)))).six (y := some (b)) (ob_s (by omega)))).put (i := b) (y := (some (0))) (v := (H.va (q * 18 + j))) (by omega) (by omega) (ob_s (by omega)))).cc (by first | rfl | simp only [psh_six, six_six]) (by first | rfl | simp only [psh_six, six_six])), hto, (((((hF.set (by omega)).set (by omega)).set (by omega)).set (by omega)).set (by omega))⟩) (by decide) (by decide)
theorem ma_act_20 (hl : l.stackTraces = false) {P : jl_O → jl_S → Prop} {q j : Nat} (hk : KB σ0 mt σ (7 + (b + 2)) t m p (R) (V) (fs) (H) su dt dq aw) (ht : t < 12) (hh : R 6 = some (b + 2)) (hb : b + 2 ≤ 5) (hy : R (7 + b) = some 1) (hv : V (7 + b) = nI q) (hq : q < 40) (hi : V (8 + b) = nI j) (hj : j < 18) (hm40 : H.n ≤ 40) (hst : stH H.sz H.n (nI q) (nI j) = true) (hT : ∀ σ', KB σ0 mt σ' (8 + b) t m p (psh R b (some 0)) (va_up V (7 + b) (H.va (q * 18 + j))) (fs) (H) su dt dq aw → P (.inl (some (.int (nI 0)))) σ') : jl_mE l G m_Ma_actOnStack [.ref 13, .int (nI 20), .int (x)] σ P := by
  obtain ⟨uw, ps, ty, va, hX, u1, u2, t1, t2, hS, hx, hto, hF⟩ := id hk
  obtain ⟨s0, s1, s2, s3⟩ := id hS
  obtain ⟨⟨⟨a, hma, hua⟩, hps, hty, hva⟩, hfs, hln, hob⟩ := id hx
  have hma : mt m = some a := hma
  have hps : ps t = p := hps
  have hty : ∀ j, j < _ → ty (t * 12 + j) = R j := hty
  have hva : ∀ j, j < _ → j ≠ 6 → va (t * 12 + j) = V j := hva
  have hRo := hx.rob
  refine jl_ofE (as := [.ref 13, .int (nI 20), .int (x)]) rfl (by decide) hl (jl_cc rfl (jl_cc rfl (jl_cc rfl jl_ca))) (Nat.le_of_ble_eq_true rfl) ?_
  show jl_E l G m_Ma_actOnStack (0, 0) 0 [some (.ref 13), some (.int (nI 20)), some (.int (x)), none, none] [] (σ) P
  refine er_iload_n d_Ma_actOnStack_0 rfl ?_
  refine er_tableIn (off := 246) 247 d_Ma_actOnStack_1 (by decide +kernel) (by decide +kernel) (by decide +kernel) (by decide) ?_
  refine er_aload_n d_Ma_actOnStack_247 rfl ?_
  refine er_iload_n d_Ma_actOnStack_248 rfl ?_
  refine er_callVE (As := [.int (nI 20)]) d_Ma_actOnStack_249 k_Ma_actOnStack_158 hX rfl rfl rfl (Nat.le_of_ble_eq_true rfl) (by decide) (by decide) (ma_row_20 hl hk ht hh hb hy hv hq hi hj hm40 hst (fun σ hk => ⟨_, rfl, ?_⟩))
  show jl_E l G m_Ma_actOnStack (0, 0) 252 [some (.ref 13), some (.int (nI 20)), some (.int (x)), none, none] [.int (nI 0)] (σ) P
  exact er_iret d_Ma_actOnStack_252 rfl (hT _ hk) (by decide) (by decide)
theorem d_Ma_actOnRow_158 : decode m_Ma_actOnRow.2.1 158 = .ok (.aload_n 0, 1) := by decide +kernel
theorem d_Ma_actOnRow_159 : decode m_Ma_actOnRow.2.1 159 = .ok (.getfield 12, 3) := by decide +kernel
theorem d_Ma_actOnRow_162 : decode m_Ma_actOnRow.2.1 162 = .ok (.getfield 173, 3) := by decide +kernel
theorem d_Ma_actOnRow_165 : decode m_Ma_actOnRow.2.1 165 = .ok (.aload_n 0, 1) := by decide +kernel
theorem d_Ma_actOnRow_166 : decode m_Ma_actOnRow.2.1 166 = .ok (.getfield 12, 3) := by decide +kernel
theorem d_Ma_actOnRow_169 : decode m_Ma_actOnRow.2.1 169 = .ok (.iload 5, 2) := by decide +kernel
theorem d_Ma_actOnRow_171 : decode m_Ma_actOnRow.2.1 171 = .ok (.iload_n 3, 1) := by decide +kernel
theorem d_Ma_actOnRow_172 : decode m_Ma_actOnRow.2.1 172 = .ok (.invokevirtual 174, 3) := by decide +kernel
theorem d_Ma_actOnRow_175 : decode m_Ma_actOnRow.2.1 175 = .ok (.iload_n 2, 1) := by decide +kernel
theorem d_Ma_actOnRow_176 : decode m_Ma_actOnRow.2.1 176 = .ok (.iastore, 1) := by decide +kernel
theorem ma_row_21 (hl : l.stackTraces = false) {P : jl_O → jl_S → Prop} {q j : Nat} (hk : KB σ0 mt σ (7 + (b + 3)) t m p (R) (V) (fs) (H) su dt dq aw) (ht : t < 12) (hh : R 6 = some (b + 3)) (hb : b + 3 ≤ 5) (hy : R (7 + b) = some 1) (hv : V (7 + b) = nI q) (hq : q < 40) (hi : V (8 + b) = nI j) (hj : j < 18) (hm40 : H.n ≤ 40) (hst : stH H.sz H.n (nI q) (nI j) = true) (hT : ∀ σ', KB σ0 mt σ' (7 + b) t m p (va_up R 6 (some b)) (V) (fs) (⟨H.n, H.sz, H.ty, va_up H.va (q * 18 + j) (V (9 + b)), H.so⟩) su dt dq aw → P (.inl (some (.int (nI 0)))) σ') : jl_mE l G m_Ma_actOnRow [.ref 13, .int (nI 21)] σ P := by
  obtain ⟨uw, ps, ty, va, hX, u1, u2, t1, t2, hS, hx, hto, hF⟩ := id hk
  obtain ⟨s0, s1, s2, s3⟩ := id hS
  obtain ⟨⟨⟨a, hma, hua⟩, hps, hty, hva⟩, hfs, hln, hob⟩ := id hx
  have hma : mt m = some a := hma
  have hps : ps t = p := hps
  have hty : ∀ j, j < _ → ty (t * 12 + j) = R j := hty
  have hva : ∀ j, j < _ → j ≠ 6 → va (t * 12 + j) = V j := hva
  have hRo := hx.rob
  have hh6 : ty (t * 12 + 6) = some (b + 3) := (hty 6 (by omega)).trans hh
  have hT0 : ty (t * 12 + 7 + b) = R (7 + b) := by rw [show t * 12 + 7 + b = t * 12 + (7 + b) by omega]; exact hty _ (by omega)
  have hV0 : va (t * 12 + 7 + b) = V (7 + b) := by rw [show t * 12 + 7 + b = t * 12 + (7 + b) by omega]; exact hva _ (by omega) (by omega)
  have hT1 : ty (t * 12 + 7 + (b + 1)) = R (8 + b) := by rw [show t * 12 + 7 + (b + 1) = t * 12 + (8 + b) by omega]; exact hty _ (by omega)
  have hV1 : va (t * 12 + 7 + (b + 1)) = V (8 + b) := by rw [show t * 12 + 7 + (b + 1) = t * 12 + (8 + b) by omega]; exact hva _ (by omega) (by omega)
  have hT2 : ty (t * 12 + 7 + (b + 2)) = R (9 + b) := by rw [show t * 12 + 7 + (b + 2) = t * 12 + (9 + b) by omega]; exact hty _ (by omega)
  have hV2 : va (t * 12 + 7 + (b + 2)) = V (9 + b) := by rw [show t * 12 + 7 + (b + 2) = t * 12 + (9 + b) by omega]; exact hva _ (by omega) (by omega)
  refine jl_ofE (as := [.ref 13, .int (nI 21)]) rfl (by decide) hl (jl_cc rfl (jl_cc rfl jl_ca)) (Nat.le_of_ble_eq_true rfl) ?_
  show jl_E l G m_Ma_actOnRow (0, 0) 0 [some (.ref 13), some (.int (nI 21)), none, none, none, none] [] (σ) P
  refine er_iload_n d_Ma_actOnRow_0 rfl ?_
  refine er_bipush ((nI (19))) d_Ma_actOnRow_1 (by decide) ?_
  refine er_icmp_ne 20 d_Ma_actOnRow_3 (by decide) (fun _ => ?_) (fun z => absurd z (by decide))
  refine er_iload_n d_Ma_actOnRow_20 rfl ?_
  refine er_bipush ((nI (21))) d_Ma_actOnRow_21 (by decide) ?_
  refine er_icmp_ne 38 d_Ma_actOnRow_23 (by decide) (fun z => absurd rfl z) (fun _ => ?_)
  refine er_aload_n d_Ma_actOnRow_26 rfl ?_
  refine er_getf d_Ma_actOnRow_27 f_Ma_actOnRow_31 hX rfl ?_
  refine er_aload_n d_Ma_actOnRow_30 rfl ?_
  refine er_callV (As := []) d_Ma_actOnRow_31 k_Ma_actOnRow_121 hX rfl rfl rfl (Nat.le_of_ble_eq_true rfl) (by decide) (by decide) (ma_takeA (h := b + 2) hl hX t1 t2 ht hh6 (by omega)) ?_
  show jl_E l G m_Ma_actOnRow (0, 0) 34 [some (.ref 13), some (.int (nI 21)), none, none, none, none] [.int (nI (t * 12 + 7 + (b + 2))), .ref 21] (σ.set (20) (.inl (0, 144, .inl (fun j => en ((va_up ty (t * 12 + 6) (some (b + 2))) j))))) P
  refine er_ialdQ (v := (V (9 + b))) d_Ma_actOnRow_34 (jl_sn (by decide) t2) (by omega) (by omega) (hV2) ?_
  refine er_goto 39 d_Ma_actOnRow_35 (by decide) ?_
  refine er_istore_n d_Ma_actOnRow_39 (by decide) ?_
  show jl_E l G m_Ma_actOnRow (0, 0) 40 [some (.ref 13), some (.int (nI 21)), some (.int (V (9 + b))), none, none, none] [] (σ.set (20) (.inl (0, 144, .inl (fun j => en ((va_up ty (t * 12 + 6) (some (b + 2))) j))))) P
  refine er_iload_n d_Ma_actOnRow_40 rfl ?_
  refine er_bipush ((nI (22))) d_Ma_actOnRow_41 (by decide) ?_
  refine er_icmp_ne 50 d_Ma_actOnRow_43 (by decide) (fun _ => ?_) (fun z => absurd z (by decide))
  refine er_aload_n d_Ma_actOnRow_50 rfl ?_
  refine er_getf d_Ma_actOnRow_51 f_Ma_actOnRow_31 (jl_sn (by decide) hX) rfl ?_
  refine er_aload_n d_Ma_actOnRow_54 rfl ?_
  refine er_callV (As := []) d_Ma_actOnRow_55 k_Ma_actOnRow_121 (jl_sn (by decide) hX) rfl rfl rfl (Nat.le_of_ble_eq_true rfl) (by decide) (by decide) (ma_takeA (h := b + 1) hl (jl_sn (by decide) hX) (jl_ss t1) (jl_sn (by decide) t2) ht (va_up_self _ _ _) (by omega)) ?_
  show jl_E l G m_Ma_actOnRow (0, 0) 58 [some (.ref 13), some (.int (nI 21)), some (.int (V (9 + b))), none, none, none] [.int (nI (t * 12 + 7 + (b + 1))), .ref 21] ((σ.set (20) (.inl (0, 144, .inl (fun j => en ((va_up ty (t * 12 + 6) (some (b + 2))) j))))).set (20) (.inl (0, 144, .inl (fun j => en ((va_up (va_up ty (t * 12 + 6) (some (b + 2))) (t * 12 + 6) (some (b + 1))) j))))) P
  refine er_ialdQ (v := (nI (j))) d_Ma_actOnRow_58 (jl_sn (by decide) (jl_sn (by decide) t2)) (by omega) (by omega) ((hV1).trans hi) ?_
  refine er_istore_n d_Ma_actOnRow_59 (by decide) ?_
  show jl_E l G m_Ma_actOnRow (0, 0) 60 [some (.ref 13), some (.int (nI 21)), some (.int (V (9 + b))), some (.int (nI j)), none, none] [] ((σ.set (20) (.inl (0, 144, .inl (fun j => en ((va_up ty (t * 12 + 6) (some (b + 2))) j))))).set (20) (.inl (0, 144, .inl (fun j => en ((va_up (va_up ty (t * 12 + 6) (some (b + 2))) (t * 12 + 6) (some (b + 1))) j))))) P
  refine er_aload_n d_Ma_actOnRow_60 rfl ?_
  refine er_callV (As := []) d_Ma_actOnRow_61 k_Ma_actOnRow_121 (jl_sn (by decide) (jl_sn (by decide) hX)) rfl rfl rfl (Nat.le_of_ble_eq_true rfl) (by decide) (by decide) (ma_takeA (h := b) hl (jl_sn (by decide) (jl_sn (by decide) hX)) (jl_ss (jl_ss t1)) (jl_sn (by decide) (jl_sn (by decide) t2)) ht (va_up_self _ _ _) (by omega)) ?_
  show jl_E l G m_Ma_actOnRow (0, 0) 64 [some (.ref 13), some (.int (nI 21)), some (.int (V (9 + b))), some (.int (nI j)), none, none] [.int (nI (t * 12 + 7 + b))] (((σ.set (20) (.inl (0, 144, .inl (fun j => en ((va_up ty (t * 12 + 6) (some (b + 2))) j))))).set (20) (.inl (0, 144, .inl (fun j => en ((va_up (va_up ty (t * 12 + 6) (some (b + 2))) (t * 12 + 6) (some (b + 1))) j))))).set (20) (.inl (0, 144, .inl (fun j => en ((va_up (va_up (va_up ty (t * 12 + 6) (some (b + 2))) (t * 12 + 6) (some (b + 1))) (t * 12 + 6) (some (b))) j))))) P
  refine er_istore d_Ma_actOnRow_64 (by decide) ?_
  show jl_E l G m_Ma_actOnRow (0, 0) 66 [some (.ref 13), some (.int (nI 21)), some (.int (V (9 + b))), some (.int (nI j)), some (.int (nI (t * 12 + 7 + b))), none] [] (((σ.set (20) (.inl (0, 144, .inl (fun j => en ((va_up ty (t * 12 + 6) (some (b + 2))) j))))).set (20) (.inl (0, 144, .inl (fun j => en ((va_up (va_up ty (t * 12 + 6) (some (b + 2))) (t * 12 + 6) (some (b + 1))) j))))).set (20) (.inl (0, 144, .inl (fun j => en ((va_up (va_up (va_up ty (t * 12 + 6) (some (b + 2))) (t * 12 + 6) (some (b + 1))) (t * 12 + 6) (some (b))) j))))) P
  refine er_aload_n d_Ma_actOnRow_66 rfl ?_
  refine er_getf d_Ma_actOnRow_67 f_Ma_actOnRow_28 (jl_sn (by decide) (jl_sn (by decide) (jl_sn (by decide) hX))) rfl ?_
  refine er_iload d_Ma_actOnRow_70 rfl ?_
  refine er_ialdQ (v := (nI (1))) d_Ma_actOnRow_72 (jl_ss (jl_ss (jl_ss t1))) (by omega) (by omega) ((congrArg en ((va_up_ne _ _ (by omega)).trans ((va_up_ne _ _ (by omega)).trans ((va_up_ne _ _ (by omega)).trans (hT0))))).trans (congrArg en hy)) ?_
  refine er_iconst ((nI (2))) d_Ma_actOnRow_73 (by decide) ?_
  refine er_icmp_ne 79 d_Ma_actOnRow_74 (by decide) (fun _ => ?_) (fun z => absurd z (by decide))
  refine er_aload_n d_Ma_actOnRow_79 rfl ?_
  refine er_getf d_Ma_actOnRow_80 f_Ma_actOnRow_31 (jl_sn (by decide) (jl_sn (by decide) (jl_sn (by decide) hX))) rfl ?_
  refine er_iload d_Ma_actOnRow_83 rfl ?_
  refine er_ialdQ (v := (nI (q))) d_Ma_actOnRow_85 (jl_sn (by decide) (jl_sn (by decide) (jl_sn (by decide) t2))) (by omega) (by omega) ((hV0).trans hv) ?_
  refine er_istore d_Ma_actOnRow_86 (by decide) ?_
  show jl_E l G m_Ma_actOnRow (0, 0) 88 [some (.ref 13), some (.int (nI 21)), some (.int (V (9 + b))), some (.int (nI j)), some (.int (nI (t * 12 + 7 + b))), some (.int (nI q))] [] (((σ.set (20) (.inl (0, 144, .inl (fun j => en ((va_up ty (t * 12 + 6) (some (b + 2))) j))))).set (20) (.inl (0, 144, .inl (fun j => en ((va_up (va_up ty (t * 12 + 6) (some (b + 2))) (t * 12 + 6) (some (b + 1))) j))))).set (20) (.inl (0, 144, .inl (fun j => en ((va_up (va_up (va_up ty (t * 12 + 6) (some (b + 2))) (t * 12 + 6) (some (b + 1))) (t * 12 + 6) (some (b))) j))))) P
  refine er_iload_n d_Ma_actOnRow_88 rfl ?_
  refine er_bipush ((nI (22))) d_Ma_actOnRow_89 (by decide) ?_
  refine er_icmp_ne 111 d_Ma_actOnRow_91 (by decide) (fun _ => ?_) (fun z => absurd z (by decide))
  refine er_aload_n d_Ma_actOnRow_111 rfl ?_
  refine er_getf d_Ma_actOnRow_112 f_Ma_actOnRow_12 (jl_sn (by decide) (jl_sn (by decide) (jl_sn (by decide) hX))) rfl ?_
  refine er_iload d_Ma_actOnRow_115 rfl ?_
  refine er_iload_n d_Ma_actOnRow_117 rfl ?_
  refine er_callV (As := [.int (nI q), .int (nI j)]) d_Ma_actOnRow_118 k_Ma_actOnRow_170 (jl_sn (by decide) (jl_sn (by decide) (jl_sn (by decide) s0))) rfl rfl rfl (Nat.le_of_ble_eq_true rfl) (by decide) (by decide) (st_hasT hl ⟨(jl_sn (by decide) (jl_sn (by decide) (jl_sn (by decide) s0))), (jl_sn (by decide) (jl_sn (by decide) (jl_sn (by decide) s1))), (jl_sn (by decide) (jl_sn (by decide) (jl_sn (by decide) s2))), (jl_sn (by decide) (jl_sn (by decide) (jl_sn (by decide) s3)))⟩ hm40 hst) ?_
  show jl_E l G m_Ma_actOnRow (0, 0) 121 [some (.ref 13), some (.int (nI 21)), some (.int (V (9 + b))), some (.int (nI j)), some (.int (nI (t * 12 + 7 + b))), some (.int (nI q))] [.int (nI 1)] (((σ.set (20) (.inl (0, 144, .inl (fun j => en ((va_up ty (t * 12 + 6) (some (b + 2))) j))))).set (20) (.inl (0, 144, .inl (fun j => en ((va_up (va_up ty (t * 12 + 6) (some (b + 2))) (t * 12 + 6) (some (b + 1))) j))))).set (20) (.inl (0, 144, .inl (fun j => en ((va_up (va_up (va_up ty (t * 12 + 6) (some (b + 2))) (t * 12 + 6) (some (b + 1))) (t * 12 + 6) (some (b))) j))))) P
  refine er_if_ne 126 d_Ma_actOnRow_121 (by decide) (fun _ => ?_) (fun z => absurd z (by decide))
  refine er_iload_n d_Ma_actOnRow_126 rfl ?_
  refine er_bipush ((nI (20))) d_Ma_actOnRow_127 (by decide) ?_
  refine er_icmp_ne 158 d_Ma_actOnRow_129 (by decide) (fun _ => ?_) (fun z => absurd z (by decide))
  refine er_aload_n d_Ma_actOnRow_158 rfl ?_
  refine er_getf d_Ma_actOnRow_159 f_Ma_actOnRow_12 (jl_sn (by decide) (jl_sn (by decide) (jl_sn (by decide) hX))) rfl ?_
  refine er_getf d_Ma_actOnRow_162 f_Ma_actOnRow_173 (jl_sn (by decide) (jl_sn (by decide) (jl_sn (by decide) s0))) rfl ?_
  refine er_aload_n d_Ma_actOnRow_165 rfl ?_
  refine er_getf d_Ma_actOnRow_166 f_Ma_actOnRow_12 (jl_sn (by decide) (jl_sn (by decide) (jl_sn (by decide) hX))) rfl ?_
  refine er_iload d_Ma_actOnRow_169 rfl ?_
  refine er_iload_n d_Ma_actOnRow_171 rfl ?_
  refine er_callV (As := [.int (nI q), .int (nI j)]) d_Ma_actOnRow_172 k_Ma_actOnRow_174 (jl_sn (by decide) (jl_sn (by decide) (jl_sn (by decide) s0))) rfl rfl rfl (Nat.le_of_ble_eq_true rfl) (by decide) (by decide) (st_cellS hl ⟨(jl_sn (by decide) (jl_sn (by decide) (jl_sn (by decide) s0))), (jl_sn (by decide) (jl_sn (by decide) (jl_sn (by decide) s1))), (jl_sn (by decide) (jl_sn (by decide) (jl_sn (by decide) s2))), (jl_sn (by decide) (jl_sn (by decide) (jl_sn (by decide) s3)))⟩) ?_
  show jl_E l G m_Ma_actOnRow (0, 0) 175 [some (.ref 13), some (.int (nI 21)), some (.int (V (9 + b))), some (.int (nI j)), some (.int (nI (t * 12 + 7 + b))), some (.int (nI q))] [.int (nI (q * 18 + j)), .ref 17] (((σ.set (20) (.inl (0, 144, .inl (fun j => en ((va_up ty (t * 12 + 6) (some (b + 2))) j))))).set (20) (.inl (0, 144, .inl (fun j => en ((va_up (va_up ty (t * 12 + 6) (some (b + 2))) (t * 12 + 6) (some (b + 1))) j))))).set (20) (.inl (0, 144, .inl (fun j => en ((va_up (va_up (va_up ty (t * 12 + 6) (some (b + 2))) (t * 12 + 6) (some (b + 1))) (t * 12 + 6) (some (b))) j))))) P
  refine er_iload_n d_Ma_actOnRow_175 rfl ?_
  refine er_iastN d_Ma_actOnRow_176 (jl_sn (by decide) (jl_sn (by decide) (jl_sn (by decide) s3))) (by omega) (by omega) ?_
  show jl_E l G m_Ma_actOnRow (0, 0) 177 [some (.ref 13), some (.int (nI 21)), some (.int (V (9 + b))), some (.int (nI j)), some (.int (nI (t * 12 + 7 + b))), some (.int (nI q))] [] ((((σ.set (20) (.inl (0, 144, .inl (fun j => en ((va_up ty (t * 12 + 6) (some (b + 2))) j))))).set (20) (.inl (0, 144, .inl (fun j => en ((va_up (va_up ty (t * 12 + 6) (some (b + 2))) (t * 12 + 6) (some (b + 1))) j))))).set (20) (.inl (0, 144, .inl (fun j => en ((va_up (va_up (va_up ty (t * 12 + 6) (some (b + 2))) (t * 12 + 6) (some (b + 1))) (t * 12 + 6) (some (b))) j))))).set (17) (.inl (0, 720, .inl (upd (H.va) (q * 18 + j) ((V (9 + b))))))) P
  refine er_iconst ((nI (0))) d_Ma_actOnRow_177 (by decide) ?_
  exact er_iret d_Ma_actOnRow_178 rfl (hT _ ⟨_, _, _, _, (jl_sn (by decide) (jl_sn (by decide) (jl_sn (by decide) (jl_sn (by decide) hX)))), (jl_sn (by decide) (jl_sn (by decide) (jl_sn (by decide) (jl_sn (by decide) u1)))), (jl_sn (by decide) (jl_sn (by decide) (jl_sn (by decide) (jl_sn (by decide) u2)))), (jl_sn (by decide) (jl_ss (jl_ss (jl_ss t1)))), (jl_sn (by decide) (jl_sn (by decide) (jl_sn (by decide) (jl_sn (by decide) t2)))), ⟨(jl_sn (by decide) (jl_sn (by decide) (jl_sn (by decide) (jl_sn (by decide) s0)))), (jl_sn (by decide) (jl_sn (by decide) (jl_sn (by decide) (jl_sn (by decide) s1)))), (jl_sn (by decide) (jl_sn (by decide) (jl_sn (by decide) (jl_sn (by decide) s2)))), (upd_up (f := H.va) ▸ (jl_ss (jl_sn (by decide) (jl_sn (by decide) (jl_sn (by decide) s3)))))⟩, (((((((((hx).six (y := some (b + 2)) (ob_s (by omega)))).six (y := some (b + 1)) (ob_s (by omega)))).six (y := some (b)) (ob_s (by omega)))).le (by omega)).cc (by first | rfl | simp only [psh_six, six_six]) (by first | rfl | simp only [psh_six, six_six])), hto, ((((hF.set (by omega)).set (by omega)).set (by omega)).set (by omega))⟩) (by decide) (by decide)
theorem ma_act_21 (hl : l.stackTraces = false) {P : jl_O → jl_S → Prop} {q j : Nat} (hk : KB σ0 mt σ (7 + (b + 3)) t m p (R) (V) (fs) (H) su dt dq aw) (ht : t < 12) (hh : R 6 = some (b + 3)) (hb : b + 3 ≤ 5) (hy : R (7 + b) = some 1) (hv : V (7 + b) = nI q) (hq : q < 40) (hi : V (8 + b) = nI j) (hj : j < 18) (hm40 : H.n ≤ 40) (hst : stH H.sz H.n (nI q) (nI j) = true) (hT : ∀ σ', KB σ0 mt σ' (7 + b) t m p (va_up R 6 (some b)) (V) (fs) (⟨H.n, H.sz, H.ty, va_up H.va (q * 18 + j) (V (9 + b)), H.so⟩) su dt dq aw → P (.inl (some (.int (nI 0)))) σ') : jl_mE l G m_Ma_actOnStack [.ref 13, .int (nI 21), .int (x)] σ P := by
  obtain ⟨uw, ps, ty, va, hX, u1, u2, t1, t2, hS, hx, hto, hF⟩ := id hk
  obtain ⟨s0, s1, s2, s3⟩ := id hS
  obtain ⟨⟨⟨a, hma, hua⟩, hps, hty, hva⟩, hfs, hln, hob⟩ := id hx
  have hma : mt m = some a := hma
  have hps : ps t = p := hps
  have hty : ∀ j, j < _ → ty (t * 12 + j) = R j := hty
  have hva : ∀ j, j < _ → j ≠ 6 → va (t * 12 + j) = V j := hva
  have hRo := hx.rob
  refine jl_ofE (as := [.ref 13, .int (nI 21), .int (x)]) rfl (by decide) hl (jl_cc rfl (jl_cc rfl (jl_cc rfl jl_ca))) (Nat.le_of_ble_eq_true rfl) ?_
  show jl_E l G m_Ma_actOnStack (0, 0) 0 [some (.ref 13), some (.int (nI 21)), some (.int (x)), none, none] [] (σ) P
  refine er_iload_n d_Ma_actOnStack_0 rfl ?_
  refine er_tableIn (off := 246) 247 d_Ma_actOnStack_1 (by decide +kernel) (by decide +kernel) (by decide +kernel) (by decide) ?_
  refine er_aload_n d_Ma_actOnStack_247 rfl ?_
  refine er_iload_n d_Ma_actOnStack_248 rfl ?_
  refine er_callVE (As := [.int (nI 21)]) d_Ma_actOnStack_249 k_Ma_actOnStack_158 hX rfl rfl rfl (Nat.le_of_ble_eq_true rfl) (by decide) (by decide) (ma_row_21 hl hk ht hh hb hy hv hq hi hj hm40 hst (fun σ hk => ⟨_, rfl, ?_⟩))
  show jl_E l G m_Ma_actOnStack (0, 0) 252 [some (.ref 13), some (.int (nI 21)), some (.int (x)), none, none] [.int (nI 0)] (σ) P
  exact er_iret d_Ma_actOnStack_252 rfl (hT _ hk) (by decide) (by decide)
theorem d_Ma_actOnRow_94 : decode m_Ma_actOnRow.2.1 94 = .ok (.aload_n 0, 1) := by decide +kernel
theorem d_Ma_actOnRow_95 : decode m_Ma_actOnRow.2.1 95 = .ok (.iconst 0, 1) := by decide +kernel
theorem d_Ma_actOnRow_96 : decode m_Ma_actOnRow.2.1 96 = .ok (.aload_n 0, 1) := by decide +kernel
theorem d_Ma_actOnRow_97 : decode m_Ma_actOnRow.2.1 97 = .ok (.getfield 12, 3) := by decide +kernel
theorem f_Ma_actOnRow_167 : jl_fd m_Ma_actOnRow 167 3 0 = true := by decide +kernel
theorem d_Ma_actOnRow_100 : decode m_Ma_actOnRow.2.1 100 = .ok (.getfield 167, 3) := by decide +kernel
theorem d_Ma_actOnRow_103 : decode m_Ma_actOnRow.2.1 103 = .ok (.iload 5, 2) := by decide +kernel
theorem d_Ma_actOnRow_105 : decode m_Ma_actOnRow.2.1 105 = .ok (.iaload, 1) := by decide +kernel
theorem d_Ma_actOnRow_106 : decode m_Ma_actOnRow.2.1 106 = .ok (.invokevirtual 133, 3) := by decide +kernel
theorem d_Ma_actOnRow_109 : decode m_Ma_actOnRow.2.1 109 = .ok (.iconst 0, 1) := by decide +kernel
theorem d_Ma_actOnRow_110 : decode m_Ma_actOnRow.2.1 110 = .ok (.ireturn, 1) := by decide +kernel
theorem ma_row_22 (hl : l.stackTraces = false) {P : jl_O → jl_S → Prop} {q : Nat} (hk : KB σ0 mt σ (7 + (b + 1)) t m p (R) (V) (fs) (H) su dt dq aw) (ht : t < 12) (hh : R 6 = some (b + 1)) (hb : b + 1 ≤ 5) (hy : R (7 + b) = some 1) (hv : V (7 + b) = nI q) (hq : q < 40) (hT : ∀ σ', KB σ0 mt σ' (8 + b) t m p (psh R b (some 0)) (va_up V (7 + b) (nI (H.sz q))) (fs) (H) su dt dq aw → P (.inl (some (.int (nI 0)))) σ') : jl_mE l G m_Ma_actOnRow [.ref 13, .int (nI 22)] σ P := by
  obtain ⟨uw, ps, ty, va, hX, u1, u2, t1, t2, hS, hx, hto, hF⟩ := id hk
  obtain ⟨s0, s1, s2, s3⟩ := id hS
  obtain ⟨⟨⟨a, hma, hua⟩, hps, hty, hva⟩, hfs, hln, hob⟩ := id hx
  have hma : mt m = some a := hma
  have hps : ps t = p := hps
  have hty : ∀ j, j < _ → ty (t * 12 + j) = R j := hty
  have hva : ∀ j, j < _ → j ≠ 6 → va (t * 12 + j) = V j := hva
  have hRo := hx.rob
  have hh6 : ty (t * 12 + 6) = some (b + 1) := (hty 6 (by omega)).trans hh
  have hT0 : ty (t * 12 + 7 + b) = R (7 + b) := by rw [show t * 12 + 7 + b = t * 12 + (7 + b) by omega]; exact hty _ (by omega)
  have hV0 : va (t * 12 + 7 + b) = V (7 + b) := by rw [show t * 12 + 7 + b = t * 12 + (7 + b) by omega]; exact hva _ (by omega) (by omega)
  refine jl_ofE (as := [.ref 13, .int (nI 22)]) rfl (by decide) hl (jl_cc rfl (jl_cc rfl jl_ca)) (Nat.le_of_ble_eq_true rfl) ?_
  show jl_E l G m_Ma_actOnRow (0, 0) 0 [some (.ref 13), some (.int (nI 22)), none, none, none, none] [] (σ) P
  refine er_iload_n d_Ma_actOnRow_0 rfl ?_
  refine er_bipush ((nI (19))) d_Ma_actOnRow_1 (by decide) ?_
  refine er_icmp_ne 20 d_Ma_actOnRow_3 (by decide) (fun _ => ?_) (fun z => absurd z (by decide))
  refine er_iload_n d_Ma_actOnRow_20 rfl ?_
  refine er_bipush ((nI (21))) d_Ma_actOnRow_21 (by decide) ?_
  refine er_icmp_ne 38 d_Ma_actOnRow_23 (by decide) (fun _ => ?_) (fun z => absurd z (by decide))
  refine er_iconst ((nI (0))) d_Ma_actOnRow_38 (by decide) ?_
  refine er_istore_n d_Ma_actOnRow_39 (by decide) ?_
  show jl_E l G m_Ma_actOnRow (0, 0) 40 [some (.ref 13), some (.int (nI 22)), some (.int (nI 0)), none, none, none] [] (σ) P
  refine er_iload_n d_Ma_actOnRow_40 rfl ?_
  refine er_bipush ((nI (22))) d_Ma_actOnRow_41 (by decide) ?_
  refine er_icmp_ne 50 d_Ma_actOnRow_43 (by decide) (fun z => absurd rfl z) (fun _ => ?_)
  refine er_iconst ((nI (0))) d_Ma_actOnRow_46 (by decide) ?_
  refine er_goto 59 d_Ma_actOnRow_47 (by decide) ?_
  refine er_istore_n d_Ma_actOnRow_59 (by decide) ?_
  show jl_E l G m_Ma_actOnRow (0, 0) 60 [some (.ref 13), some (.int (nI 22)), some (.int (nI 0)), some (.int (nI 0)), none, none] [] (σ) P
  refine er_aload_n d_Ma_actOnRow_60 rfl ?_
  refine er_callV (As := []) d_Ma_actOnRow_61 k_Ma_actOnRow_121 hX rfl rfl rfl (Nat.le_of_ble_eq_true rfl) (by decide) (by decide) (ma_takeA (h := b) hl hX t1 t2 ht hh6 (by omega)) ?_
  show jl_E l G m_Ma_actOnRow (0, 0) 64 [some (.ref 13), some (.int (nI 22)), some (.int (nI 0)), some (.int (nI 0)), none, none] [.int (nI (t * 12 + 7 + b))] (σ.set (20) (.inl (0, 144, .inl (fun j => en ((va_up ty (t * 12 + 6) (some (b))) j))))) P
  refine er_istore d_Ma_actOnRow_64 (by decide) ?_
  show jl_E l G m_Ma_actOnRow (0, 0) 66 [some (.ref 13), some (.int (nI 22)), some (.int (nI 0)), some (.int (nI 0)), some (.int (nI (t * 12 + 7 + b))), none] [] (σ.set (20) (.inl (0, 144, .inl (fun j => en ((va_up ty (t * 12 + 6) (some (b))) j))))) P
  refine er_aload_n d_Ma_actOnRow_66 rfl ?_
  refine er_getf d_Ma_actOnRow_67 f_Ma_actOnRow_28 (jl_sn (by decide) hX) rfl ?_
  refine er_iload d_Ma_actOnRow_70 rfl ?_
  refine er_ialdQ (v := (nI (1))) d_Ma_actOnRow_72 (jl_ss t1) (by omega) (by omega) ((congrArg en ((va_up_ne _ _ (by omega)).trans (hT0))).trans (congrArg en hy)) ?_
  refine er_iconst ((nI (2))) d_Ma_actOnRow_73 (by decide) ?_
  refine er_icmp_ne 79 d_Ma_actOnRow_74 (by decide) (fun _ => ?_) (fun z => absurd z (by decide))
  refine er_aload_n d_Ma_actOnRow_79 rfl ?_
  refine er_getf d_Ma_actOnRow_80 f_Ma_actOnRow_31 (jl_sn (by decide) hX) rfl ?_
  refine er_iload d_Ma_actOnRow_83 rfl ?_
  refine er_ialdQ (v := (nI (q))) d_Ma_actOnRow_85 (jl_sn (by decide) t2) (by omega) (by omega) ((hV0).trans hv) ?_
  refine er_istore d_Ma_actOnRow_86 (by decide) ?_
  show jl_E l G m_Ma_actOnRow (0, 0) 88 [some (.ref 13), some (.int (nI 22)), some (.int (nI 0)), some (.int (nI 0)), some (.int (nI (t * 12 + 7 + b))), some (.int (nI q))] [] (σ.set (20) (.inl (0, 144, .inl (fun j => en ((va_up ty (t * 12 + 6) (some (b))) j))))) P
  refine er_iload_n d_Ma_actOnRow_88 rfl ?_
  refine er_bipush ((nI (22))) d_Ma_actOnRow_89 (by decide) ?_
  refine er_icmp_ne 111 d_Ma_actOnRow_91 (by decide) (fun z => absurd rfl z) (fun _ => ?_)
  refine er_aload_n d_Ma_actOnRow_94 rfl ?_
  refine er_iconst ((nI (0))) d_Ma_actOnRow_95 (by decide) ?_
  refine er_aload_n d_Ma_actOnRow_96 rfl ?_
  refine er_getf d_Ma_actOnRow_97 f_Ma_actOnRow_12 (jl_sn (by decide) hX) rfl ?_
  refine er_getf d_Ma_actOnRow_100 f_Ma_actOnRow_167 (jl_sn (by decide) s0) rfl ?_
  refine er_iload d_Ma_actOnRow_103 rfl ?_
  refine er_ialdN d_Ma_actOnRow_105 (jl_sn (by decide) s1) (by omega) (by omega) ?_
  refine er_callV (As := [.int (nI 0), .int (nI (H.sz (q)))]) d_Ma_actOnRow_106 k_Ma_actOnRow_133 (jl_sn (by decide) hX) rfl rfl rfl (Nat.le_of_ble_eq_true rfl) (by decide) (by decide) (ma_put (h := b) (y := (some (0))) (v := (nI (H.sz (q)))) hl (jl_sn (by decide) hX) (jl_ss t1) (jl_sn (by decide) t2) ht (va_up_self _ _ _) (by omega)) ?_
  show jl_E l G m_Ma_actOnRow (0, 0) 109 [some (.ref 13), some (.int (nI 22)), some (.int (nI 0)), some (.int (nI 0)), some (.int (nI (t * 12 + 7 + b))), some (.int (nI q))] [] ((((σ.set (20) (.inl (0, 144, .inl (fun j => en ((va_up ty (t * 12 + 6) (some (b))) j))))).set (20) (.inl (0, 144, .inl (fun j => en ((va_up (va_up ty (t * 12 + 6) (some (b))) (t * 12 + 7 + b) (some (0))) j))))).set (21) (.inl (0, 144, .inl (upd va (t * 12 + 7 + b) (nI (H.sz (q))))))).set (20) (.inl (0, 144, .inl (fun j => en ((va_up (va_up (va_up ty (t * 12 + 6) (some (b))) (t * 12 + 7 + b) (some (0))) (t * 12 + 6) (some (b + 1))) j))))) P
  refine er_iconst ((nI (0))) d_Ma_actOnRow_109 (by decide) ?_
  exact er_iret d_Ma_actOnRow_110 rfl (hT _ ⟨_, _, _, _, (jl_sn (by decide) (jl_sn (by decide) (jl_sn (by decide) (jl_sn (by decide) hX)))), (jl_sn (by decide) (jl_sn (by decide) (jl_sn (by decide) (jl_sn (by decide) u1)))), (jl_sn (by decide) (jl_sn (by decide) (jl_sn (by decide) (jl_sn (by decide) u2)))), (jl_ss (jl_sn (by decide) (jl_ss (jl_ss t1)))), (jl_sn (by decide) (jl_ss (jl_sn (by decide) (jl_sn (by decide) t2)))), ⟨(jl_sn (by decide) (jl_sn (by decide) (jl_sn (by decide) (jl_sn (by decide) s0)))), (jl_sn (by decide) (jl_sn (by decide) (jl_sn (by decide) (jl_sn (by decide) s1)))), (jl_sn (by decide) (jl_sn (by decide) (jl_sn (by decide) (jl_sn (by decide) s2)))), (jl_sn (by decide) (jl_sn (by decide) (jl_sn (by decide) (jl_sn (by decide) s3))))⟩, ((((((hx).six (y := some (b)) (ob_s (by omega)))).put (i := b) (y := (some (0))) (v := (nI (H.sz (q)))) (by omega) (by omega) (ob_s (by omega)))).cc (by first | rfl | simp only [psh_six, six_six]) (by first | rfl | simp only [psh_six, six_six])), hto, ((((hF.set (by omega)).set (by omega)).set (by omega)).set (by omega))⟩) (by decide) (by decide)
theorem ma_act_22 (hl : l.stackTraces = false) {P : jl_O → jl_S → Prop} {q : Nat} (hk : KB σ0 mt σ (7 + (b + 1)) t m p (R) (V) (fs) (H) su dt dq aw) (ht : t < 12) (hh : R 6 = some (b + 1)) (hb : b + 1 ≤ 5) (hy : R (7 + b) = some 1) (hv : V (7 + b) = nI q) (hq : q < 40) (hT : ∀ σ', KB σ0 mt σ' (8 + b) t m p (psh R b (some 0)) (va_up V (7 + b) (nI (H.sz q))) (fs) (H) su dt dq aw → P (.inl (some (.int (nI 0)))) σ') : jl_mE l G m_Ma_actOnStack [.ref 13, .int (nI 22), .int (x)] σ P := by
  obtain ⟨uw, ps, ty, va, hX, u1, u2, t1, t2, hS, hx, hto, hF⟩ := id hk
  obtain ⟨s0, s1, s2, s3⟩ := id hS
  obtain ⟨⟨⟨a, hma, hua⟩, hps, hty, hva⟩, hfs, hln, hob⟩ := id hx
  have hma : mt m = some a := hma
  have hps : ps t = p := hps
  have hty : ∀ j, j < _ → ty (t * 12 + j) = R j := hty
  have hva : ∀ j, j < _ → j ≠ 6 → va (t * 12 + j) = V j := hva
  have hRo := hx.rob
  refine jl_ofE (as := [.ref 13, .int (nI 22), .int (x)]) rfl (by decide) hl (jl_cc rfl (jl_cc rfl (jl_cc rfl jl_ca))) (Nat.le_of_ble_eq_true rfl) ?_
  show jl_E l G m_Ma_actOnStack (0, 0) 0 [some (.ref 13), some (.int (nI 22)), some (.int (x)), none, none] [] (σ) P
  refine er_iload_n d_Ma_actOnStack_0 rfl ?_
  refine er_tableIn (off := 246) 247 d_Ma_actOnStack_1 (by decide +kernel) (by decide +kernel) (by decide +kernel) (by decide) ?_
  refine er_aload_n d_Ma_actOnStack_247 rfl ?_
  refine er_iload_n d_Ma_actOnStack_248 rfl ?_
  refine er_callVE (As := [.int (nI 22)]) d_Ma_actOnStack_249 k_Ma_actOnStack_158 hX rfl rfl rfl (Nat.le_of_ble_eq_true rfl) (by decide) (by decide) (ma_row_22 hl hk ht hh hb hy hv hq (fun σ hk => ⟨_, rfl, ?_⟩))
  show jl_E l G m_Ma_actOnStack (0, 0) 252 [some (.ref 13), some (.int (nI 22)), some (.int (x)), none, none] [.int (nI 0)] (σ) P
  exact er_iret d_Ma_actOnStack_252 rfl (hT _ hk) (by decide) (by decide)
theorem d_Ma_makeRow_0 : decode m_Ma_makeRow.2.1 0 = .ok (.iload_n 1, 1) := by decide +kernel
theorem d_Ma_makeRow_1 : decode m_Ma_makeRow.2.1 1 = .ok (.ifCond .lt 9, 3) := by decide +kernel
theorem d_Ma_makeRow_10 : decode m_Ma_makeRow.2.1 10 = .ok (.iconst 3, 1) := by decide +kernel
theorem d_Ma_makeRow_11 : decode m_Ma_makeRow.2.1 11 = .ok (.ireturn, 1) := by decide +kernel
theorem ma_mkr_a (hl : l.stackTraces = false) {P : jl_O → jl_S → Prop} {v : Int32} (hk : KB σ0 mt σ (7 + b) t m p (R) (V) (fs) (H) su dt dq aw) (ht : t < 12) (hh : R 6 = some (b)) (hb : b ≤ 5) (h0 : v < 0) (hT : ∀ σ', KB σ0 mt σ' (6) t m p (R) (V) (fs) (H) su dt dq aw → P (.inl (some (.int (nI 3)))) σ') : jl_mE l G m_Ma_makeRow [.ref 13, .int (v)] σ P := by
  obtain ⟨uw, ps, ty, va, hX, u1, u2, t1, t2, hS, hx, hto, hF⟩ := id hk
  obtain ⟨s0, s1, s2, s3⟩ := id hS
  obtain ⟨⟨⟨a, hma, hua⟩, hps, hty, hva⟩, hfs, hln, hob⟩ := id hx
  have hma : mt m = some a := hma
  have hps : ps t = p := hps
  have hty : ∀ j, j < _ → ty (t * 12 + j) = R j := hty
  have hva : ∀ j, j < _ → j ≠ 6 → va (t * 12 + j) = V j := hva
  have hRo := hx.rob
  have hh6 : ty (t * 12 + 6) = some (b) := (hty 6 (by omega)).trans hh
  refine jl_ofE (as := [.ref 13, .int (v)]) rfl (by decide) hl (jl_cc rfl (jl_cc rfl jl_ca)) (Nat.le_of_ble_eq_true rfl) ?_
  show jl_E l G m_Ma_makeRow (0, 0) 0 [some (.ref 13), some (.int (v))] [] (σ) P
  refine er_iload_n d_Ma_makeRow_0 rfl ?_
  refine er_if_lt 10 d_Ma_makeRow_1 (by decide) (fun _ => ?_) (fun z => absurd (h0) z)
  refine er_iconst ((nI (3))) d_Ma_makeRow_10 (by decide) ?_
  exact er_iret d_Ma_makeRow_11 rfl (hT _ ⟨_, _, _, _, hX, u1, u2, t1, t2, ⟨s0, s1, s2, s3⟩, (hx).lo (by omega) (fun j hj => ⟨rfl, rfl⟩), hto, hF⟩) (by decide) (by decide)
theorem d_Ma_makeRow_4 : decode m_Ma_makeRow.2.1 4 = .ok (.iload_n 1, 1) := by decide +kernel
theorem d_Ma_makeRow_5 : decode m_Ma_makeRow.2.1 5 = .ok (.bipush 8, 2) := by decide +kernel
theorem d_Ma_makeRow_7 : decode m_Ma_makeRow.2.1 7 = .ok (.if_icmp .le 5, 3) := by decide +kernel
theorem ma_mkr_b (hl : l.stackTraces = false) {P : jl_O → jl_S → Prop} {v : Int32} (hk : KB σ0 mt σ (7 + b) t m p (R) (V) (fs) (H) su dt dq aw) (ht : t < 12) (hh : R 6 = some (b)) (hb : b ≤ 5) (h0 : ¬ v < 0) (h8 : nI 8 < v) (hT : ∀ σ', KB σ0 mt σ' (6) t m p (R) (V) (fs) (H) su dt dq aw → P (.inl (some (.int (nI 3)))) σ') : jl_mE l G m_Ma_makeRow [.ref 13, .int (v)] σ P := by
  obtain ⟨uw, ps, ty, va, hX, u1, u2, t1, t2, hS, hx, hto, hF⟩ := id hk
  obtain ⟨s0, s1, s2, s3⟩ := id hS
  obtain ⟨⟨⟨a, hma, hua⟩, hps, hty, hva⟩, hfs, hln, hob⟩ := id hx
  have hma : mt m = some a := hma
  have hps : ps t = p := hps
  have hty : ∀ j, j < _ → ty (t * 12 + j) = R j := hty
  have hva : ∀ j, j < _ → j ≠ 6 → va (t * 12 + j) = V j := hva
  have hRo := hx.rob
  have hh6 : ty (t * 12 + 6) = some (b) := (hty 6 (by omega)).trans hh
  refine jl_ofE (as := [.ref 13, .int (v)]) rfl (by decide) hl (jl_cc rfl (jl_cc rfl jl_ca)) (Nat.le_of_ble_eq_true rfl) ?_
  show jl_E l G m_Ma_makeRow (0, 0) 0 [some (.ref 13), some (.int (v))] [] (σ) P
  refine er_iload_n d_Ma_makeRow_0 rfl ?_
  refine er_if_lt 10 d_Ma_makeRow_1 (by decide) (fun z => absurd z (h0)) (fun _ => ?_)
  refine er_iload_n d_Ma_makeRow_4 rfl ?_
  refine er_bipush ((nI (8))) d_Ma_makeRow_5 (by decide) ?_
  refine er_icmp_le 12 d_Ma_makeRow_7 (by decide) (fun z => absurd z (Int32.not_le.mpr h8)) (fun _ => ?_)
  refine er_iconst ((nI (3))) d_Ma_makeRow_10 (by decide) ?_
  exact er_iret d_Ma_makeRow_11 rfl (hT _ ⟨_, _, _, _, hX, u1, u2, t1, t2, ⟨s0, s1, s2, s3⟩, (hx).lo (by omega) (fun j hj => ⟨rfl, rfl⟩), hto, hF⟩) (by decide) (by decide)
theorem d_Ma_makeRow_12 : decode m_Ma_makeRow.2.1 12 = .ok (.aload_n 0, 1) := by decide +kernel
theorem f_Ma_makeRow_12 : jl_fd m_Ma_makeRow 12 1 2 = true := by decide +kernel
theorem d_Ma_makeRow_13 : decode m_Ma_makeRow.2.1 13 = .ok (.getfield 12, 3) := by decide +kernel
theorem k_Ma_makeRow_177 : jl_cv m_Ma_makeRow m_St_isFull 177 0 = true := by decide +kernel
theorem d_Ma_makeRow_16 : decode m_Ma_makeRow.2.1 16 = .ok (.invokevirtual 177, 3) := by decide +kernel
theorem d_Ma_makeRow_19 : decode m_Ma_makeRow.2.1 19 = .ok (.ifCond .eq 13, 3) := by decide +kernel
theorem d_Ma_makeRow_22 : decode m_Ma_makeRow.2.1 22 = .ok (.aload_n 0, 1) := by decide +kernel
theorem d_Ma_makeRow_23 : decode m_Ma_makeRow.2.1 23 = .ok (.bipush 6, 2) := by decide +kernel
theorem d_Ma_makeRow_25 : decode m_Ma_makeRow.2.1 25 = .ok (.iconst 0, 1) := by decide +kernel
theorem k_Ma_makeRow_87 : jl_cv m_Ma_makeRow m_Ma_end 87 2 = true := by decide +kernel
theorem d_Ma_makeRow_26 : decode m_Ma_makeRow.2.1 26 = .ok (.invokevirtual 87, 3) := by decide +kernel
theorem d_Ma_makeRow_29 : decode m_Ma_makeRow.2.1 29 = .ok (.goto 16, 3) := by decide +kernel
theorem d_Ma_makeRow_45 : decode m_Ma_makeRow.2.1 45 = .ok (.iconst 0, 1) := by decide +kernel
theorem d_Ma_makeRow_46 : decode m_Ma_makeRow.2.1 46 = .ok (.ireturn, 1) := by decide +kernel
theorem ma_mkr_f (hl : l.stackTraces = false) {P : jl_O → jl_S → Prop} {n : Nat} (hk : KB σ0 mt σ (7 + b) t m p (R) (V) (fs) (H) su dt dq aw) (ht : t < 12) (hh : R 6 = some (b)) (hb : b ≤ 5) (hn : n ≤ 8) (hm40 : H.n ≤ 40) (h40 : 40 ≤ H.n) (hT : ∀ σ', KB σ0 mt σ' (6) t m p (R) (V) (fs) (H) (nI 6) (nI 0) dq aw → P (.inl (some (.int (nI 0)))) σ') : jl_mE l G m_Ma_makeRow [.ref 13, .int (nI n)] σ P := by
  obtain ⟨uw, ps, ty, va, hX, u1, u2, t1, t2, hS, hx, hto, hF⟩ := id hk
  obtain ⟨s0, s1, s2, s3⟩ := id hS
  obtain ⟨⟨⟨a, hma, hua⟩, hps, hty, hva⟩, hfs, hln, hob⟩ := id hx
  have hma : mt m = some a := hma
  have hps : ps t = p := hps
  have hty : ∀ j, j < _ → ty (t * 12 + j) = R j := hty
  have hva : ∀ j, j < _ → j ≠ 6 → va (t * 12 + j) = V j := hva
  have hRo := hx.rob
  have hh6 : ty (t * 12 + 6) = some (b) := (hty 6 (by omega)).trans hh
  refine jl_ofE (as := [.ref 13, .int (nI n)]) rfl (by decide) hl (jl_cc rfl (jl_cc rfl jl_ca)) (Nat.le_of_ble_eq_true rfl) ?_
  show jl_E l G m_Ma_makeRow (0, 0) 0 [some (.ref 13), some (.int (nI n))] [] (σ) P
  refine er_iload_n d_Ma_makeRow_0 rfl ?_
  refine er_if_lt 10 d_Ma_makeRow_1 (by decide) (fun z => absurd z (nI_pos (by omega))) (fun _ => ?_)
  refine er_iload_n d_Ma_makeRow_4 rfl ?_
  refine er_bipush ((nI (8))) d_Ma_makeRow_5 (by decide) ?_
  refine er_icmp_le 12 d_Ma_makeRow_7 (by decide) (fun _ => ?_) (fun z => absurd (Int32.not_lt.mp (fun z => by rw [nI_ltI (by omega) (by omega)] at z; omega)) z)
  refine er_aload_n d_Ma_makeRow_12 rfl ?_
  refine er_getf d_Ma_makeRow_13 f_Ma_makeRow_12 hX rfl ?_
  refine er_callV (As := []) d_Ma_makeRow_16 k_Ma_makeRow_177 s0 rfl rfl rfl (Nat.le_of_ble_eq_true rfl) (by decide) (by decide) (st_fullT hl ⟨s0, s1, s2, s3⟩ hm40 h40) ?_
  show jl_E l G m_Ma_makeRow (0, 0) 19 [some (.ref 13), some (.int (nI n))] [.int (nI 1)] (σ) P
  refine er_if_eq 32 d_Ma_makeRow_19 (by decide) (fun z => absurd z (by decide)) (fun _ => ?_)
  refine er_aload_n d_Ma_makeRow_22 rfl ?_
  refine er_bipush ((nI (6))) d_Ma_makeRow_23 (by decide) ?_
  refine er_iconst ((nI (0))) d_Ma_makeRow_25 (by decide) ?_
  refine er_callV (As := [.int (nI 6), .int (nI 0)]) d_Ma_makeRow_26 k_Ma_makeRow_87 hX rfl rfl rfl (Nat.le_of_ble_eq_true rfl) (by decide) (by decide) (ma_end hl hX) ?_
  show jl_E l G m_Ma_makeRow (0, 0) 29 [some (.ref 13), some (.int (nI n))] [] (σ.set (13) (.inr (1, [.ref 1, .ref 8, .ref 14, .ref 18, .ref 19, .ref 20, .ref 21, .int (nI t), .int (nI 6), .int (nI 0), .int (dq), .int (aw)]))) P
  refine er_goto 45 d_Ma_makeRow_29 (by decide) ?_
  refine er_iconst ((nI (0))) d_Ma_makeRow_45 (by decide) ?_
  exact er_iret d_Ma_makeRow_46 rfl (hT _ ⟨_, _, _, _, (jl_ss hX), (jl_sn (by decide) u1), (jl_sn (by decide) u2), (jl_sn (by decide) t1), (jl_sn (by decide) t2), ⟨(jl_sn (by decide) s0), (jl_sn (by decide) s1), (jl_sn (by decide) s2), (jl_sn (by decide) s3)⟩, (hx).lo (by omega) (fun j hj => ⟨rfl, rfl⟩), hto, (hF.set (by omega))⟩) (by decide) (by decide)
theorem d_Ma_makeRow_32 : decode m_Ma_makeRow.2.1 32 = .ok (.aload_n 0, 1) := by decide +kernel
theorem d_Ma_makeRow_33 : decode m_Ma_makeRow.2.1 33 = .ok (.iconst 1, 1) := by decide +kernel
theorem d_Ma_makeRow_34 : decode m_Ma_makeRow.2.1 34 = .ok (.aload_n 0, 1) := by decide +kernel
theorem d_Ma_makeRow_35 : decode m_Ma_makeRow.2.1 35 = .ok (.getfield 12, 3) := by decide +kernel
theorem d_Ma_makeRow_38 : decode m_Ma_makeRow.2.1 38 = .ok (.iload_n 1, 1) := by decide +kernel
theorem k_Ma_makeRow_181 : jl_cv m_Ma_makeRow m_St_makeRow 181 1 = true := by decide +kernel
theorem d_Ma_makeRow_39 : decode m_Ma_makeRow.2.1 39 = .ok (.invokevirtual 181, 3) := by decide +kernel
theorem k_Ma_makeRow_133 : jl_cv m_Ma_makeRow m_Ma_put 133 2 = true := by decide +kernel
theorem d_Ma_makeRow_42 : decode m_Ma_makeRow.2.1 42 = .ok (.invokevirtual 133, 3) := by decide +kernel
theorem ma_mkr_o (hl : l.stackTraces = false) {P : jl_O → jl_S → Prop} {n : Nat} (hk : KB σ0 mt σ (7 + b) t m p (R) (V) (fs) (H) su dt dq aw) (ht : t < 12) (hh : R 6 = some (b)) (hb : b ≤ 5) (hp : b < 5) (hn : n ≤ 8) (h40 : H.n < 40) (hT : ∀ σ', KB σ0 mt σ' (8 + b) t m p (psh R b (some 1)) (va_up V (7 + b) (nI H.n)) (fs) (mkR H n) su dt dq aw → P (.inl (some (.int (nI 0)))) σ') : jl_mE l G m_Ma_makeRow [.ref 13, .int (nI n)] σ P := by
  obtain ⟨uw, ps, ty, va, hX, u1, u2, t1, t2, hS, hx, hto, hF⟩ := id hk
  obtain ⟨s0, s1, s2, s3⟩ := id hS
  obtain ⟨⟨⟨a, hma, hua⟩, hps, hty, hva⟩, hfs, hln, hob⟩ := id hx
  have hma : mt m = some a := hma
  have hps : ps t = p := hps
  have hty : ∀ j, j < _ → ty (t * 12 + j) = R j := hty
  have hva : ∀ j, j < _ → j ≠ 6 → va (t * 12 + j) = V j := hva
  have hRo := hx.rob
  have hh6 : ty (t * 12 + 6) = some (b) := (hty 6 (by omega)).trans hh
  refine jl_ofE (as := [.ref 13, .int (nI n)]) rfl (by decide) hl (jl_cc rfl (jl_cc rfl jl_ca)) (Nat.le_of_ble_eq_true rfl) ?_
  show jl_E l G m_Ma_makeRow (0, 0) 0 [some (.ref 13), some (.int (nI n))] [] (σ) P
  refine er_iload_n d_Ma_makeRow_0 rfl ?_
  refine er_if_lt 10 d_Ma_makeRow_1 (by decide) (fun z => absurd z (nI_pos (by omega))) (fun _ => ?_)
  refine er_iload_n d_Ma_makeRow_4 rfl ?_
  refine er_bipush ((nI (8))) d_Ma_makeRow_5 (by decide) ?_
  refine er_icmp_le 12 d_Ma_makeRow_7 (by decide) (fun _ => ?_) (fun z => absurd (Int32.not_lt.mp (fun z => by rw [nI_ltI (by omega) (by omega)] at z; omega)) z)
  refine er_aload_n d_Ma_makeRow_12 rfl ?_
  refine er_getf d_Ma_makeRow_13 f_Ma_makeRow_12 hX rfl ?_
  refine er_callV (As := []) d_Ma_makeRow_16 k_Ma_makeRow_177 s0 rfl rfl rfl (Nat.le_of_ble_eq_true rfl) (by decide) (by decide) (st_fullF hl ⟨s0, s1, s2, s3⟩ h40) ?_
  show jl_E l G m_Ma_makeRow (0, 0) 19 [some (.ref 13), some (.int (nI n))] [.int (nI 0)] (σ) P
  refine er_if_eq 32 d_Ma_makeRow_19 (by decide) (fun _ => ?_) (fun z => absurd (by decide) z)
  refine er_aload_n d_Ma_makeRow_32 rfl ?_
  refine er_iconst ((nI (1))) d_Ma_makeRow_33 (by decide) ?_
  refine er_aload_n d_Ma_makeRow_34 rfl ?_
  refine er_getf d_Ma_makeRow_35 f_Ma_makeRow_12 hX rfl ?_
  refine er_iload_n d_Ma_makeRow_38 rfl ?_
  refine er_callVE (As := [.int (nI n)]) d_Ma_makeRow_39 k_Ma_makeRow_181 s0 rfl rfl rfl (Nat.le_of_ble_eq_true rfl) (by decide) (by decide) (st_row hl ⟨s0, s1, s2, s3⟩ h40 hn (fun sv1 σ hw1 hS1 hf1 => ⟨_, rfl, ?_⟩))
  have e1 := hw1.e
  subst e1
  have hX : MaAt σ (nI t) su dt dq aw := (hf1.2 13 (by omega)).trans hX
  have u1 := (hf1.2 18 (by omega)).trans u1
  have u2 := (hf1.2 19 (by omega)).trans u2
  have t1 := (hf1.2 20 (by omega)).trans t1
  have t2 := (hf1.2 21 (by omega)).trans t2
  have hF := hF.sto hf1
  obtain ⟨s0, s1, s2, s3⟩ := id hS1
  show jl_E l G m_Ma_makeRow (0, 0) 42 [some (.ref 13), some (.int (nI n))] [.int (nI (H.n)), .int (nI 1), .ref 13] (σ) P
  refine er_callV (As := [.int (nI 1), .int (nI (H.n))]) d_Ma_makeRow_42 k_Ma_makeRow_133 hX rfl rfl rfl (Nat.le_of_ble_eq_true rfl) (by decide) (by decide) (ma_put (h := b) (y := (some (1))) (v := (nI (H.n))) hl hX t1 t2 ht hh6 (by omega)) ?_
  show jl_E l G m_Ma_makeRow (0, 0) 45 [some (.ref 13), some (.int (nI n))] [] (((σ.set (20) (.inl (0, 144, .inl (fun j => en ((va_up ty (t * 12 + 7 + b) (some (1))) j))))).set (21) (.inl (0, 144, .inl (upd va (t * 12 + 7 + b) (nI (H.n)))))).set (20) (.inl (0, 144, .inl (fun j => en ((va_up (va_up ty (t * 12 + 7 + b) (some (1))) (t * 12 + 6) (some (b + 1))) j))))) P
  refine er_iconst ((nI (0))) d_Ma_makeRow_45 (by decide) ?_
  exact er_iret d_Ma_makeRow_46 rfl (hT _ ⟨_, _, _, _, (jl_sn (by decide) (jl_sn (by decide) (jl_sn (by decide) hX))), (jl_sn (by decide) (jl_sn (by decide) (jl_sn (by decide) u1))), (jl_sn (by decide) (jl_sn (by decide) (jl_sn (by decide) u2))), (jl_ss (jl_sn (by decide) (jl_ss t1))), (jl_sn (by decide) (jl_ss (jl_sn (by decide) t2))), ⟨(jl_sn (by decide) (jl_sn (by decide) (jl_sn (by decide) s0))), (jl_sn (by decide) (jl_sn (by decide) (jl_sn (by decide) s1))), (jl_sn (by decide) (jl_sn (by decide) (jl_sn (by decide) s2))), (jl_sn (by decide) (jl_sn (by decide) (jl_sn (by decide) s3)))⟩, ((((hx).put (i := b) (y := (some (1))) (v := (nI (H.n))) (by omega) (by omega) (ob_s (by omega)))).cc (by first | rfl | simp only [psh_six, six_six]) (by first | rfl | simp only [psh_six, six_six])), hto, (((hF.set (by omega)).set (by omega)).set (by omega))⟩) (by decide) (by decide)
theorem d_Ma_actOnRow_6 : decode m_Ma_actOnRow.2.1 6 = .ok (.aload_n 0, 1) := by decide +kernel
theorem d_Ma_actOnRow_7 : decode m_Ma_actOnRow.2.1 7 = .ok (.aload_n 0, 1) := by decide +kernel
theorem d_Ma_actOnRow_8 : decode m_Ma_actOnRow.2.1 8 = .ok (.getfield 31, 3) := by decide +kernel
theorem d_Ma_actOnRow_11 : decode m_Ma_actOnRow.2.1 11 = .ok (.aload_n 0, 1) := by decide +kernel
theorem d_Ma_actOnRow_12 : decode m_Ma_actOnRow.2.1 12 = .ok (.invokevirtual 121, 3) := by decide +kernel
theorem d_Ma_actOnRow_15 : decode m_Ma_actOnRow.2.1 15 = .ok (.iaload, 1) := by decide +kernel
theorem k_Ma_actOnRow_164 : jl_cv m_Ma_actOnRow m_Ma_makeRow 164 1 = true := by decide +kernel
theorem d_Ma_actOnRow_16 : decode m_Ma_actOnRow.2.1 16 = .ok (.invokevirtual 164, 3) := by decide +kernel
theorem d_Ma_actOnRow_19 : decode m_Ma_actOnRow.2.1 19 = .ok (.ireturn, 1) := by decide +kernel
theorem ma_row_19a (hl : l.stackTraces = false) {P : jl_O → jl_S → Prop}  (hk : KB σ0 mt σ (7 + (b + 1)) t m p (R) (V) (fs) (H) su dt dq aw) (ht : t < 12) (hh : R 6 = some (b + 1)) (hb : b + 1 ≤ 5) (h0 : V (7 + b) < 0) (hT : ∀ σ', KB σ0 mt σ' (6) t m p (R) (V) (fs) (H) su dt dq aw → P (.inl (some (.int (nI 3)))) σ') : jl_mE l G m_Ma_actOnRow [.ref 13, .int (nI 19)] σ P := by
  obtain ⟨uw, ps, ty, va, hX, u1, u2, t1, t2, hS, hx, hto, hF⟩ := id hk
  obtain ⟨s0, s1, s2, s3⟩ := id hS
  obtain ⟨⟨⟨a, hma, hua⟩, hps, hty, hva⟩, hfs, hln, hob⟩ := id hx
  have hma : mt m = some a := hma
  have hps : ps t = p := hps
  have hty : ∀ j, j < _ → ty (t * 12 + j) = R j := hty
  have hva : ∀ j, j < _ → j ≠ 6 → va (t * 12 + j) = V j := hva
  have hRo := hx.rob
  have hh6 : ty (t * 12 + 6) = some (b + 1) := (hty 6 (by omega)).trans hh
  have hT0 : ty (t * 12 + 7 + b) = R (7 + b) := by rw [show t * 12 + 7 + b = t * 12 + (7 + b) by omega]; exact hty _ (by omega)
  have hV0 : va (t * 12 + 7 + b) = V (7 + b) := by rw [show t * 12 + 7 + b = t * 12 + (7 + b) by omega]; exact hva _ (by omega) (by omega)
  refine jl_ofE (as := [.ref 13, .int (nI 19)]) rfl (by decide) hl (jl_cc rfl (jl_cc rfl jl_ca)) (Nat.le_of_ble_eq_true rfl) ?_
  show jl_E l G m_Ma_actOnRow (0, 0) 0 [some (.ref 13), some (.int (nI 19)), none, none, none, none] [] (σ) P
  refine er_iload_n d_Ma_actOnRow_0 rfl ?_
  refine er_bipush ((nI (19))) d_Ma_actOnRow_1 (by decide) ?_
  refine er_icmp_ne 20 d_Ma_actOnRow_3 (by decide) (fun z => absurd rfl z) (fun _ => ?_)
  refine er_aload_n d_Ma_actOnRow_6 rfl ?_
  refine er_aload_n d_Ma_actOnRow_7 rfl ?_
  refine er_getf d_Ma_actOnRow_8 f_Ma_actOnRow_31 hX rfl ?_
  refine er_aload_n d_Ma_actOnRow_11 rfl ?_
  refine er_callV (As := []) d_Ma_actOnRow_12 k_Ma_actOnRow_121 hX rfl rfl rfl (Nat.le_of_ble_eq_true rfl) (by decide) (by decide) (ma_takeA (h := b) hl hX t1 t2 ht hh6 (by omega)) ?_
  show jl_E l G m_Ma_actOnRow (0, 0) 15 [some (.ref 13), some (.int (nI 19)), none, none, none, none] [.int (nI (t * 12 + 7 + b)), .ref 21, .ref 13] (σ.set (20) (.inl (0, 144, .inl (fun j => en ((va_up ty (t * 12 + 6) (some (b))) j))))) P
  refine er_ialdQ (v := (V (7 + b))) d_Ma_actOnRow_15 (jl_sn (by decide) t2) (by omega) (by omega) (hV0) ?_
  refine er_callVE (As := [.int (V (7 + b))]) d_Ma_actOnRow_16 k_Ma_actOnRow_164 (jl_sn (by decide) hX) rfl rfl rfl (Nat.le_of_ble_eq_true rfl) (by decide) (by decide) (ma_mkr_a (R := va_up R 6 (some b)) (V := V) (H := H) hl ⟨_, _, _, _, (jl_sn (by decide) hX), (jl_sn (by decide) u1), (jl_sn (by decide) u2), (jl_ss t1), (jl_sn (by decide) t2), ⟨(jl_sn (by decide) s0), (jl_sn (by decide) s1), (jl_sn (by decide) s2), (jl_sn (by decide) s3)⟩, (((hx).six (y := some (b)) (ob_s (by omega)))).le (by omega), hto, (hF.set (by omega))⟩ ht (va_up_self _ _ _) (by omega) h0 (fun σ hk => ⟨_, rfl, ?_⟩))
  show jl_E l G m_Ma_actOnRow (0, 0) 19 [some (.ref 13), some (.int (nI 19)), none, none, none, none] [.int (nI 3)] (σ) P
  exact er_iret d_Ma_actOnRow_19 rfl (hT _ (hk.lo (by omega) (fun j hj => ⟨va_up_ne _ _ (by omega), rfl⟩))) (by decide) (by decide)
theorem ma_act_19a (hl : l.stackTraces = false) {P : jl_O → jl_S → Prop}  (hk : KB σ0 mt σ (7 + (b + 1)) t m p (R) (V) (fs) (H) su dt dq aw) (ht : t < 12) (hh : R 6 = some (b + 1)) (hb : b + 1 ≤ 5) (h0 : V (7 + b) < 0) (hT : ∀ σ', KB σ0 mt σ' (6) t m p (R) (V) (fs) (H) su dt dq aw → P (.inl (some (.int (nI 3)))) σ') : jl_mE l G m_Ma_actOnStack [.ref 13, .int (nI 19), .int (x)] σ P := by
  obtain ⟨uw, ps, ty, va, hX, u1, u2, t1, t2, hS, hx, hto, hF⟩ := id hk
  obtain ⟨s0, s1, s2, s3⟩ := id hS
  obtain ⟨⟨⟨a, hma, hua⟩, hps, hty, hva⟩, hfs, hln, hob⟩ := id hx
  have hma : mt m = some a := hma
  have hps : ps t = p := hps
  have hty : ∀ j, j < _ → ty (t * 12 + j) = R j := hty
  have hva : ∀ j, j < _ → j ≠ 6 → va (t * 12 + j) = V j := hva
  have hRo := hx.rob
  refine jl_ofE (as := [.ref 13, .int (nI 19), .int (x)]) rfl (by decide) hl (jl_cc rfl (jl_cc rfl (jl_cc rfl jl_ca))) (Nat.le_of_ble_eq_true rfl) ?_
  show jl_E l G m_Ma_actOnStack (0, 0) 0 [some (.ref 13), some (.int (nI 19)), some (.int (x)), none, none] [] (σ) P
  refine er_iload_n d_Ma_actOnStack_0 rfl ?_
  refine er_tableIn (off := 246) 247 d_Ma_actOnStack_1 (by decide +kernel) (by decide +kernel) (by decide +kernel) (by decide) ?_
  refine er_aload_n d_Ma_actOnStack_247 rfl ?_
  refine er_iload_n d_Ma_actOnStack_248 rfl ?_
  refine er_callVE (As := [.int (nI 19)]) d_Ma_actOnStack_249 k_Ma_actOnStack_158 hX rfl rfl rfl (Nat.le_of_ble_eq_true rfl) (by decide) (by decide) (ma_row_19a hl hk ht hh hb h0 (fun σ hk => ⟨_, rfl, ?_⟩))
  show jl_E l G m_Ma_actOnStack (0, 0) 252 [some (.ref 13), some (.int (nI 19)), some (.int (x)), none, none] [.int (nI 3)] (σ) P
  exact er_iret d_Ma_actOnStack_252 rfl (hT _ hk) (by decide) (by decide)
theorem ma_row_19b (hl : l.stackTraces = false) {P : jl_O → jl_S → Prop}  (hk : KB σ0 mt σ (7 + (b + 1)) t m p (R) (V) (fs) (H) su dt dq aw) (ht : t < 12) (hh : R 6 = some (b + 1)) (hb : b + 1 ≤ 5) (h0 : ¬ V (7 + b) < 0) (h8 : nI 8 < V (7 + b)) (hT : ∀ σ', KB σ0 mt σ' (6) t m p (R) (V) (fs) (H) su dt dq aw → P (.inl (some (.int (nI 3)))) σ') : jl_mE l G m_Ma_actOnRow [.ref 13, .int (nI 19)] σ P := by
  obtain ⟨uw, ps, ty, va, hX, u1, u2, t1, t2, hS, hx, hto, hF⟩ := id hk
  obtain ⟨s0, s1, s2, s3⟩ := id hS
  obtain ⟨⟨⟨a, hma, hua⟩, hps, hty, hva⟩, hfs, hln, hob⟩ := id hx
  have hma : mt m = some a := hma
  have hps : ps t = p := hps
  have hty : ∀ j, j < _ → ty (t * 12 + j) = R j := hty
  have hva : ∀ j, j < _ → j ≠ 6 → va (t * 12 + j) = V j := hva
  have hRo := hx.rob
  have hh6 : ty (t * 12 + 6) = some (b + 1) := (hty 6 (by omega)).trans hh
  have hT0 : ty (t * 12 + 7 + b) = R (7 + b) := by rw [show t * 12 + 7 + b = t * 12 + (7 + b) by omega]; exact hty _ (by omega)
  have hV0 : va (t * 12 + 7 + b) = V (7 + b) := by rw [show t * 12 + 7 + b = t * 12 + (7 + b) by omega]; exact hva _ (by omega) (by omega)
  refine jl_ofE (as := [.ref 13, .int (nI 19)]) rfl (by decide) hl (jl_cc rfl (jl_cc rfl jl_ca)) (Nat.le_of_ble_eq_true rfl) ?_
  show jl_E l G m_Ma_actOnRow (0, 0) 0 [some (.ref 13), some (.int (nI 19)), none, none, none, none] [] (σ) P
  refine er_iload_n d_Ma_actOnRow_0 rfl ?_
  refine er_bipush ((nI (19))) d_Ma_actOnRow_1 (by decide) ?_
  refine er_icmp_ne 20 d_Ma_actOnRow_3 (by decide) (fun z => absurd rfl z) (fun _ => ?_)
  refine er_aload_n d_Ma_actOnRow_6 rfl ?_
  refine er_aload_n d_Ma_actOnRow_7 rfl ?_
  refine er_getf d_Ma_actOnRow_8 f_Ma_actOnRow_31 hX rfl ?_
  refine er_aload_n d_Ma_actOnRow_11 rfl ?_
  refine er_callV (As := []) d_Ma_actOnRow_12 k_Ma_actOnRow_121 hX rfl rfl rfl (Nat.le_of_ble_eq_true rfl) (by decide) (by decide) (ma_takeA (h := b) hl hX t1 t2 ht hh6 (by omega)) ?_
  show jl_E l G m_Ma_actOnRow (0, 0) 15 [some (.ref 13), some (.int (nI 19)), none, none, none, none] [.int (nI (t * 12 + 7 + b)), .ref 21, .ref 13] (σ.set (20) (.inl (0, 144, .inl (fun j => en ((va_up ty (t * 12 + 6) (some (b))) j))))) P
  refine er_ialdQ (v := (V (7 + b))) d_Ma_actOnRow_15 (jl_sn (by decide) t2) (by omega) (by omega) (hV0) ?_
  refine er_callVE (As := [.int (V (7 + b))]) d_Ma_actOnRow_16 k_Ma_actOnRow_164 (jl_sn (by decide) hX) rfl rfl rfl (Nat.le_of_ble_eq_true rfl) (by decide) (by decide) (ma_mkr_b (R := va_up R 6 (some b)) (V := V) (H := H) hl ⟨_, _, _, _, (jl_sn (by decide) hX), (jl_sn (by decide) u1), (jl_sn (by decide) u2), (jl_ss t1), (jl_sn (by decide) t2), ⟨(jl_sn (by decide) s0), (jl_sn (by decide) s1), (jl_sn (by decide) s2), (jl_sn (by decide) s3)⟩, (((hx).six (y := some (b)) (ob_s (by omega)))).le (by omega), hto, (hF.set (by omega))⟩ ht (va_up_self _ _ _) (by omega) h0 h8 (fun σ hk => ⟨_, rfl, ?_⟩))
  show jl_E l G m_Ma_actOnRow (0, 0) 19 [some (.ref 13), some (.int (nI 19)), none, none, none, none] [.int (nI 3)] (σ) P
  exact er_iret d_Ma_actOnRow_19 rfl (hT _ (hk.lo (by omega) (fun j hj => ⟨va_up_ne _ _ (by omega), rfl⟩))) (by decide) (by decide)
theorem ma_act_19b (hl : l.stackTraces = false) {P : jl_O → jl_S → Prop}  (hk : KB σ0 mt σ (7 + (b + 1)) t m p (R) (V) (fs) (H) su dt dq aw) (ht : t < 12) (hh : R 6 = some (b + 1)) (hb : b + 1 ≤ 5) (h0 : ¬ V (7 + b) < 0) (h8 : nI 8 < V (7 + b)) (hT : ∀ σ', KB σ0 mt σ' (6) t m p (R) (V) (fs) (H) su dt dq aw → P (.inl (some (.int (nI 3)))) σ') : jl_mE l G m_Ma_actOnStack [.ref 13, .int (nI 19), .int (x)] σ P := by
  obtain ⟨uw, ps, ty, va, hX, u1, u2, t1, t2, hS, hx, hto, hF⟩ := id hk
  obtain ⟨s0, s1, s2, s3⟩ := id hS
  obtain ⟨⟨⟨a, hma, hua⟩, hps, hty, hva⟩, hfs, hln, hob⟩ := id hx
  have hma : mt m = some a := hma
  have hps : ps t = p := hps
  have hty : ∀ j, j < _ → ty (t * 12 + j) = R j := hty
  have hva : ∀ j, j < _ → j ≠ 6 → va (t * 12 + j) = V j := hva
  have hRo := hx.rob
  refine jl_ofE (as := [.ref 13, .int (nI 19), .int (x)]) rfl (by decide) hl (jl_cc rfl (jl_cc rfl (jl_cc rfl jl_ca))) (Nat.le_of_ble_eq_true rfl) ?_
  show jl_E l G m_Ma_actOnStack (0, 0) 0 [some (.ref 13), some (.int (nI 19)), some (.int (x)), none, none] [] (σ) P
  refine er_iload_n d_Ma_actOnStack_0 rfl ?_
  refine er_tableIn (off := 246) 247 d_Ma_actOnStack_1 (by decide +kernel) (by decide +kernel) (by decide +kernel) (by decide) ?_
  refine er_aload_n d_Ma_actOnStack_247 rfl ?_
  refine er_iload_n d_Ma_actOnStack_248 rfl ?_
  refine er_callVE (As := [.int (nI 19)]) d_Ma_actOnStack_249 k_Ma_actOnStack_158 hX rfl rfl rfl (Nat.le_of_ble_eq_true rfl) (by decide) (by decide) (ma_row_19b hl hk ht hh hb h0 h8 (fun σ hk => ⟨_, rfl, ?_⟩))
  show jl_E l G m_Ma_actOnStack (0, 0) 252 [some (.ref 13), some (.int (nI 19)), some (.int (x)), none, none] [.int (nI 3)] (σ) P
  exact er_iret d_Ma_actOnStack_252 rfl (hT _ hk) (by decide) (by decide)
theorem ma_row_19f (hl : l.stackTraces = false) {P : jl_O → jl_S → Prop} {n : Nat} (hk : KB σ0 mt σ (7 + (b + 1)) t m p (R) (V) (fs) (H) su dt dq aw) (ht : t < 12) (hh : R 6 = some (b + 1)) (hb : b + 1 ≤ 5) (hv : V (7 + b) = nI n) (hn : n ≤ 8) (hm40 : H.n ≤ 40) (h40 : 40 ≤ H.n) (hT : ∀ σ', KB σ0 mt σ' (6) t m p (R) (V) (fs) (H) (nI 6) (nI 0) dq aw → P (.inl (some (.int (nI 0)))) σ') : jl_mE l G m_Ma_actOnRow [.ref 13, .int (nI 19)] σ P := by
  obtain ⟨uw, ps, ty, va, hX, u1, u2, t1, t2, hS, hx, hto, hF⟩ := id hk
  obtain ⟨s0, s1, s2, s3⟩ := id hS
  obtain ⟨⟨⟨a, hma, hua⟩, hps, hty, hva⟩, hfs, hln, hob⟩ := id hx
  have hma : mt m = some a := hma
  have hps : ps t = p := hps
  have hty : ∀ j, j < _ → ty (t * 12 + j) = R j := hty
  have hva : ∀ j, j < _ → j ≠ 6 → va (t * 12 + j) = V j := hva
  have hRo := hx.rob
  have hh6 : ty (t * 12 + 6) = some (b + 1) := (hty 6 (by omega)).trans hh
  have hT0 : ty (t * 12 + 7 + b) = R (7 + b) := by rw [show t * 12 + 7 + b = t * 12 + (7 + b) by omega]; exact hty _ (by omega)
  have hV0 : va (t * 12 + 7 + b) = V (7 + b) := by rw [show t * 12 + 7 + b = t * 12 + (7 + b) by omega]; exact hva _ (by omega) (by omega)
  refine jl_ofE (as := [.ref 13, .int (nI 19)]) rfl (by decide) hl (jl_cc rfl (jl_cc rfl jl_ca)) (Nat.le_of_ble_eq_true rfl) ?_
  show jl_E l G m_Ma_actOnRow (0, 0) 0 [some (.ref 13), some (.int (nI 19)), none, none, none, none] [] (σ) P
  refine er_iload_n d_Ma_actOnRow_0 rfl ?_
  refine er_bipush ((nI (19))) d_Ma_actOnRow_1 (by decide) ?_
  refine er_icmp_ne 20 d_Ma_actOnRow_3 (by decide) (fun z => absurd rfl z) (fun _ => ?_)
  refine er_aload_n d_Ma_actOnRow_6 rfl ?_
  refine er_aload_n d_Ma_actOnRow_7 rfl ?_
  refine er_getf d_Ma_actOnRow_8 f_Ma_actOnRow_31 hX rfl ?_
  refine er_aload_n d_Ma_actOnRow_11 rfl ?_
  refine er_callV (As := []) d_Ma_actOnRow_12 k_Ma_actOnRow_121 hX rfl rfl rfl (Nat.le_of_ble_eq_true rfl) (by decide) (by decide) (ma_takeA (h := b) hl hX t1 t2 ht hh6 (by omega)) ?_
  show jl_E l G m_Ma_actOnRow (0, 0) 15 [some (.ref 13), some (.int (nI 19)), none, none, none, none] [.int (nI (t * 12 + 7 + b)), .ref 21, .ref 13] (σ.set (20) (.inl (0, 144, .inl (fun j => en ((va_up ty (t * 12 + 6) (some (b))) j))))) P
  refine er_ialdQ (v := (nI (n))) d_Ma_actOnRow_15 (jl_sn (by decide) t2) (by omega) (by omega) ((hV0).trans hv) ?_
  refine er_callVE (As := [.int (nI n)]) d_Ma_actOnRow_16 k_Ma_actOnRow_164 (jl_sn (by decide) hX) rfl rfl rfl (Nat.le_of_ble_eq_true rfl) (by decide) (by decide) (ma_mkr_f (R := va_up R 6 (some b)) (V := V) (H := H) hl ⟨_, _, _, _, (jl_sn (by decide) hX), (jl_sn (by decide) u1), (jl_sn (by decide) u2), (jl_ss t1), (jl_sn (by decide) t2), ⟨(jl_sn (by decide) s0), (jl_sn (by decide) s1), (jl_sn (by decide) s2), (jl_sn (by decide) s3)⟩, (((hx).six (y := some (b)) (ob_s (by omega)))).le (by omega), hto, (hF.set (by omega))⟩ ht (va_up_self _ _ _) (by omega) hn hm40 h40 (fun σ hk => ⟨_, rfl, ?_⟩))
  show jl_E l G m_Ma_actOnRow (0, 0) 19 [some (.ref 13), some (.int (nI 19)), none, none, none, none] [.int (nI 0)] (σ) P
  exact er_iret d_Ma_actOnRow_19 rfl (hT _ (hk.lo (by omega) (fun j hj => ⟨va_up_ne _ _ (by omega), rfl⟩))) (by decide) (by decide)
theorem ma_act_19f (hl : l.stackTraces = false) {P : jl_O → jl_S → Prop} {n : Nat} (hk : KB σ0 mt σ (7 + (b + 1)) t m p (R) (V) (fs) (H) su dt dq aw) (ht : t < 12) (hh : R 6 = some (b + 1)) (hb : b + 1 ≤ 5) (hv : V (7 + b) = nI n) (hn : n ≤ 8) (hm40 : H.n ≤ 40) (h40 : 40 ≤ H.n) (hT : ∀ σ', KB σ0 mt σ' (6) t m p (R) (V) (fs) (H) (nI 6) (nI 0) dq aw → P (.inl (some (.int (nI 0)))) σ') : jl_mE l G m_Ma_actOnStack [.ref 13, .int (nI 19), .int (x)] σ P := by
  obtain ⟨uw, ps, ty, va, hX, u1, u2, t1, t2, hS, hx, hto, hF⟩ := id hk
  obtain ⟨s0, s1, s2, s3⟩ := id hS
  obtain ⟨⟨⟨a, hma, hua⟩, hps, hty, hva⟩, hfs, hln, hob⟩ := id hx
  have hma : mt m = some a := hma
  have hps : ps t = p := hps
  have hty : ∀ j, j < _ → ty (t * 12 + j) = R j := hty
  have hva : ∀ j, j < _ → j ≠ 6 → va (t * 12 + j) = V j := hva
  have hRo := hx.rob
  refine jl_ofE (as := [.ref 13, .int (nI 19), .int (x)]) rfl (by decide) hl (jl_cc rfl (jl_cc rfl (jl_cc rfl jl_ca))) (Nat.le_of_ble_eq_true rfl) ?_
  show jl_E l G m_Ma_actOnStack (0, 0) 0 [some (.ref 13), some (.int (nI 19)), some (.int (x)), none, none] [] (σ) P
  refine er_iload_n d_Ma_actOnStack_0 rfl ?_
  refine er_tableIn (off := 246) 247 d_Ma_actOnStack_1 (by decide +kernel) (by decide +kernel) (by decide +kernel) (by decide) ?_
  refine er_aload_n d_Ma_actOnStack_247 rfl ?_
  refine er_iload_n d_Ma_actOnStack_248 rfl ?_
  refine er_callVE (As := [.int (nI 19)]) d_Ma_actOnStack_249 k_Ma_actOnStack_158 hX rfl rfl rfl (Nat.le_of_ble_eq_true rfl) (by decide) (by decide) (ma_row_19f hl hk ht hh hb hv hn hm40 h40 (fun σ hk => ⟨_, rfl, ?_⟩))
  show jl_E l G m_Ma_actOnStack (0, 0) 252 [some (.ref 13), some (.int (nI 19)), some (.int (x)), none, none] [.int (nI 0)] (σ) P
  exact er_iret d_Ma_actOnStack_252 rfl (hT _ hk) (by decide) (by decide)
theorem ma_row_19o (hl : l.stackTraces = false) {P : jl_O → jl_S → Prop} {n : Nat} (hk : KB σ0 mt σ (7 + (b + 1)) t m p (R) (V) (fs) (H) su dt dq aw) (ht : t < 12) (hh : R 6 = some (b + 1)) (hb : b + 1 ≤ 5) (hv : V (7 + b) = nI n) (hp : b < 5) (hn : n ≤ 8) (h40 : H.n < 40) (hT : ∀ σ', KB σ0 mt σ' (8 + b) t m p (psh R b (some 1)) (va_up V (7 + b) (nI H.n)) (fs) (mkR H n) su dt dq aw → P (.inl (some (.int (nI 0)))) σ') : jl_mE l G m_Ma_actOnRow [.ref 13, .int (nI 19)] σ P := by
  obtain ⟨uw, ps, ty, va, hX, u1, u2, t1, t2, hS, hx, hto, hF⟩ := id hk
  obtain ⟨s0, s1, s2, s3⟩ := id hS
  obtain ⟨⟨⟨a, hma, hua⟩, hps, hty, hva⟩, hfs, hln, hob⟩ := id hx
  have hma : mt m = some a := hma
  have hps : ps t = p := hps
  have hty : ∀ j, j < _ → ty (t * 12 + j) = R j := hty
  have hva : ∀ j, j < _ → j ≠ 6 → va (t * 12 + j) = V j := hva
  have hRo := hx.rob
  have hh6 : ty (t * 12 + 6) = some (b + 1) := (hty 6 (by omega)).trans hh
  have hT0 : ty (t * 12 + 7 + b) = R (7 + b) := by rw [show t * 12 + 7 + b = t * 12 + (7 + b) by omega]; exact hty _ (by omega)
  have hV0 : va (t * 12 + 7 + b) = V (7 + b) := by rw [show t * 12 + 7 + b = t * 12 + (7 + b) by omega]; exact hva _ (by omega) (by omega)
  refine jl_ofE (as := [.ref 13, .int (nI 19)]) rfl (by decide) hl (jl_cc rfl (jl_cc rfl jl_ca)) (Nat.le_of_ble_eq_true rfl) ?_
  show jl_E l G m_Ma_actOnRow (0, 0) 0 [some (.ref 13), some (.int (nI 19)), none, none, none, none] [] (σ) P
  refine er_iload_n d_Ma_actOnRow_0 rfl ?_
  refine er_bipush ((nI (19))) d_Ma_actOnRow_1 (by decide) ?_
  refine er_icmp_ne 20 d_Ma_actOnRow_3 (by decide) (fun z => absurd rfl z) (fun _ => ?_)
  refine er_aload_n d_Ma_actOnRow_6 rfl ?_
  refine er_aload_n d_Ma_actOnRow_7 rfl ?_
  refine er_getf d_Ma_actOnRow_8 f_Ma_actOnRow_31 hX rfl ?_
  refine er_aload_n d_Ma_actOnRow_11 rfl ?_
  refine er_callV (As := []) d_Ma_actOnRow_12 k_Ma_actOnRow_121 hX rfl rfl rfl (Nat.le_of_ble_eq_true rfl) (by decide) (by decide) (ma_takeA (h := b) hl hX t1 t2 ht hh6 (by omega)) ?_
  show jl_E l G m_Ma_actOnRow (0, 0) 15 [some (.ref 13), some (.int (nI 19)), none, none, none, none] [.int (nI (t * 12 + 7 + b)), .ref 21, .ref 13] (σ.set (20) (.inl (0, 144, .inl (fun j => en ((va_up ty (t * 12 + 6) (some (b))) j))))) P
  refine er_ialdQ (v := (nI (n))) d_Ma_actOnRow_15 (jl_sn (by decide) t2) (by omega) (by omega) ((hV0).trans hv) ?_
  refine er_callVE (As := [.int (nI n)]) d_Ma_actOnRow_16 k_Ma_actOnRow_164 (jl_sn (by decide) hX) rfl rfl rfl (Nat.le_of_ble_eq_true rfl) (by decide) (by decide) (ma_mkr_o (R := va_up R 6 (some b)) (V := V) (H := H) hl ⟨_, _, _, _, (jl_sn (by decide) hX), (jl_sn (by decide) u1), (jl_sn (by decide) u2), (jl_ss t1), (jl_sn (by decide) t2), ⟨(jl_sn (by decide) s0), (jl_sn (by decide) s1), (jl_sn (by decide) s2), (jl_sn (by decide) s3)⟩, (((hx).six (y := some (b)) (ob_s (by omega)))).le (by omega), hto, (hF.set (by omega))⟩ ht (va_up_self _ _ _) (by omega) hp hn h40 (fun σ hk => ⟨_, rfl, ?_⟩))
  show jl_E l G m_Ma_actOnRow (0, 0) 19 [some (.ref 13), some (.int (nI 19)), none, none, none, none] [.int (nI 0)] (σ) P
  exact er_iret d_Ma_actOnRow_19 rfl (hT _ (by have z := hk; simp only [psh_six] at z; exact z)) (by decide) (by decide)
theorem ma_act_19o (hl : l.stackTraces = false) {P : jl_O → jl_S → Prop} {n : Nat} (hk : KB σ0 mt σ (7 + (b + 1)) t m p (R) (V) (fs) (H) su dt dq aw) (ht : t < 12) (hh : R 6 = some (b + 1)) (hb : b + 1 ≤ 5) (hv : V (7 + b) = nI n) (hp : b < 5) (hn : n ≤ 8) (h40 : H.n < 40) (hT : ∀ σ', KB σ0 mt σ' (8 + b) t m p (psh R b (some 1)) (va_up V (7 + b) (nI H.n)) (fs) (mkR H n) su dt dq aw → P (.inl (some (.int (nI 0)))) σ') : jl_mE l G m_Ma_actOnStack [.ref 13, .int (nI 19), .int (x)] σ P := by
  obtain ⟨uw, ps, ty, va, hX, u1, u2, t1, t2, hS, hx, hto, hF⟩ := id hk
  obtain ⟨s0, s1, s2, s3⟩ := id hS
  obtain ⟨⟨⟨a, hma, hua⟩, hps, hty, hva⟩, hfs, hln, hob⟩ := id hx
  have hma : mt m = some a := hma
  have hps : ps t = p := hps
  have hty : ∀ j, j < _ → ty (t * 12 + j) = R j := hty
  have hva : ∀ j, j < _ → j ≠ 6 → va (t * 12 + j) = V j := hva
  have hRo := hx.rob
  refine jl_ofE (as := [.ref 13, .int (nI 19), .int (x)]) rfl (by decide) hl (jl_cc rfl (jl_cc rfl (jl_cc rfl jl_ca))) (Nat.le_of_ble_eq_true rfl) ?_
  show jl_E l G m_Ma_actOnStack (0, 0) 0 [some (.ref 13), some (.int (nI 19)), some (.int (x)), none, none] [] (σ) P
  refine er_iload_n d_Ma_actOnStack_0 rfl ?_
  refine er_tableIn (off := 246) 247 d_Ma_actOnStack_1 (by decide +kernel) (by decide +kernel) (by decide +kernel) (by decide) ?_
  refine er_aload_n d_Ma_actOnStack_247 rfl ?_
  refine er_iload_n d_Ma_actOnStack_248 rfl ?_
  refine er_callVE (As := [.int (nI 19)]) d_Ma_actOnStack_249 k_Ma_actOnStack_158 hX rfl rfl rfl (Nat.le_of_ble_eq_true rfl) (by decide) (by decide) (ma_row_19o hl hk ht hh hb hv hp hn h40 (fun σ hk => ⟨_, rfl, ?_⟩))
  show jl_E l G m_Ma_actOnStack (0, 0) 252 [some (.ref 13), some (.int (nI 19)), some (.int (x)), none, none] [.int (nI 0)] (σ) P
  exact er_iret d_Ma_actOnStack_252 rfl (hT _ hk) (by decide) (by decide)
end JMc
