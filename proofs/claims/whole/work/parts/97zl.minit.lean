/-! the model's constructor (wip/gen/p97zl.py) -/
section JNzl
variable {l : Launch} {G : jl_G} {σ : jl_S}
variable {tb : Nat → Bool} {pr : Nat → Option Nat} {ow fi ft : Nat → Nat} {hs : Nat → Bool} {fa vf wh wy hg dp md ov oh dn an : Int32}
variable {σ0 σ1 : jl_S}
/-- the model's arrays as they are made -/
def mAl : List (Nat × Nat) := [(1, 6), (0, 6), (0, 6), (0, 18), (1, 24), (0, 24), (0, 24), (0, 24), (0, 24), (0, 576), (0, 576), (0, 24), (0, 48), (0, 48), (0, 48), (0, 6912), (1, 24), (0, 6), (0, 8), (0, 8), (0, 13), (0, 13), (0, 13), (0, 78), (0, 78), (0, 65), (0, 65), (0, 41), (0, 41), (0, 738)]
def mA (i : Nat) : jl_C := match mAl[i]? with
  | some (k, n) => .inl (k, n, .inl fun _ => 0)
  | none => .inl (0, 0, .inl fun _ => 0)
/-- j of them are made -/
def IM (σ0 σ : jl_S) (j : Nat) (fs : List Value) : Prop := σ.length = 23 + j ∧ σ[22]? = some (.inr (7, fs)) ∧ (∀ i, i < 22 → σ[i]? = σ0[i]?) ∧ ∀ i, i < j → σ[23 + i]? = some (mA i)
theorem im_I {P : jl_O → jl_S → Prop} {j N idx kf pc : Nat} {fs : List Value} {u : Nat × Nat} {ls : List (Option Value)} (h : IM σ0 σ j fs) (hA : mA j = .inl (0, N, .inl fun _ => 0)) (hd1 : decode m_Mo_init.2.1 pc = .ok (.newarray .int, 2)) (hd2 : decode m_Mo_init.2.1 (pc + 2) = .ok (.putfield idx, 3)) (hf : jl_fp m_Mo_init idx 7 kf = true) (hN : N ≤ 100000) (h1 : u.1 + 1 ≤ m_Mo_init.2.2.2.2.1.cells) (h2 : u.2 + N ≤ m_Mo_init.2.2.2.2.1.slots) (hk : kf < fs.length) (hv : jl_fit (jl_ty 7 kf) (.ref (23 + j))) (k : ∀ σ', IM σ0 σ' (j + 1) (fs.set kf (.ref (23 + j))) → jl_E l G m_Mo_init (u.1 + 1, u.2 + N) (pc + 2 + 3) ls [] σ' P) : jl_E l G m_Mo_init u pc ls [.int (nI N), .ref 22] σ P := by
  refine er_newIL hd1 h.1 rfl hN h1 h2 (er_putf hd2 hf (jl_al h.2.1) hk hv (k _ ⟨?_, ?_, ?_, ?_⟩))
  · rw [List.length_set, List.length_append, h.1]; rfl
  · exact jl_ss (jl_al h.2.1)
  · intro i hi
    rw [List.getElem?_set_ne (by omega), List.getElem?_append_left (by rw [h.1]; omega)]
    exact h.2.2.1 i hi
  · intro i hi
    rw [List.getElem?_set_ne (by omega)]
    by_cases e : i = j
    · rw [e, List.getElem?_append_right (Nat.le_of_eq h.1), h.1, Nat.sub_self, hA]; rfl
    · rw [List.getElem?_append_left (by rw [h.1]; omega)]
      exact h.2.2.2 i (by omega)
theorem im_Z {P : jl_O → jl_S → Prop} {j N idx kf pc : Nat} {fs : List Value} {u : Nat × Nat} {ls : List (Option Value)} (h : IM σ0 σ j fs) (hA : mA j = .inl (1, N, .inl fun _ => 0)) (hd1 : decode m_Mo_init.2.1 pc = .ok (.newarray .boolean, 2)) (hd2 : decode m_Mo_init.2.1 (pc + 2) = .ok (.putfield idx, 3)) (hf : jl_fp m_Mo_init idx 7 kf = true) (hN : N ≤ 100000) (h1 : u.1 + 1 ≤ m_Mo_init.2.2.2.2.1.cells) (h2 : u.2 + N ≤ m_Mo_init.2.2.2.2.1.slots) (hk : kf < fs.length) (hv : jl_fit (jl_ty 7 kf) (.ref (23 + j))) (k : ∀ σ', IM σ0 σ' (j + 1) (fs.set kf (.ref (23 + j))) → jl_E l G m_Mo_init (u.1 + 1, u.2 + N) (pc + 2 + 3) ls [] σ' P) : jl_E l G m_Mo_init u pc ls [.int (nI N), .ref 22] σ P := by
  refine er_newZL hd1 h.1 rfl hN h1 h2 (er_putf hd2 hf (jl_al h.2.1) hk hv (k _ ⟨?_, ?_, ?_, ?_⟩))
  · rw [List.length_set, List.length_append, h.1]; rfl
  · exact jl_ss (jl_al h.2.1)
  · intro i hi
    rw [List.getElem?_set_ne (by omega), List.getElem?_append_left (by rw [h.1]; omega)]
    exact h.2.2.1 i hi
  · intro i hi
    rw [List.getElem?_set_ne (by omega)]
    by_cases e : i = j
    · rw [e, List.getElem?_append_right (Nat.le_of_eq h.1), h.1, Nat.sub_self, hA]; rfl
    · rw [List.getElem?_append_left (by rw [h.1]; omega)]
      exact h.2.2.2 i (by omega)
theorem im_P {j : Nat} {fs fs' : List Value} (h : IM σ0 σ j fs) : IM σ0 (σ.set 22 (.inr (7, fs'))) j fs' := by
  refine ⟨(List.length_set ..).trans h.1, jl_ss h.2.1, fun i hi => ?_, fun i hi => ?_⟩
  · rw [List.getElem?_set_ne (by omega)]; exact h.2.2.1 i hi
  · rw [List.getElem?_set_ne (by omega)]; exact h.2.2.2 i hi
def pr0 (j : Nat) : Option Nat := if j < 6 then none else some 0
theorem fl_s {f : Nat → Int32} {i : Nat} {v : Int32} (h : ∀ j, j < i → f j = v) : ∀ j, j < i + 1 → upd f i v j = v := by
  intro j hj
  rw [upd_up]
  by_cases e : j = i
  · rw [e, va_up_self]
  · rw [va_up_ne _ _ e]; exact h j (by omega)
theorem pp_s {pp : Nat → Option Nat} {i : Nat} (h : ∀ j, pp j = if j < i then none else some 0) : ∀ j, va_up pp i none j = if j < i + 1 then none else some 0 := by
  intro j
  by_cases e : j = i
  · rw [e, va_up_self, if_pos (by omega)]
  · rw [va_up_ne _ _ e, h j]
    by_cases z : j < i
    · rw [if_pos z, if_pos (by omega)]
    · rw [if_neg z, if_neg (by omega)]
theorem d_Mo_init_260 : decode m_Mo_init.2.1 260 = .ok (.iload_n 1, 1) := by decide +kernel
theorem d_Mo_init_261 : decode m_Mo_init.2.1 261 = .ok (.sipush 6912, 3) := by decide +kernel
theorem d_Mo_init_264 : decode m_Mo_init.2.1 264 = .ok (.if_icmp .ge 17, 3) := by decide +kernel
theorem d_Mo_init_267 : decode m_Mo_init.2.1 267 = .ok (.aload_n 0, 1) := by decide +kernel
theorem f_Mo_init_63 : jl_fd m_Mo_init 63 7 19 = true := by decide +kernel
theorem d_Mo_init_268 : decode m_Mo_init.2.1 268 = .ok (.getfield 63, 3) := by decide +kernel
theorem d_Mo_init_271 : decode m_Mo_init.2.1 271 = .ok (.iload_n 1, 1) := by decide +kernel
theorem d_Mo_init_272 : decode m_Mo_init.2.1 272 = .ok (.bipush (-2), 2) := by decide +kernel
theorem d_Mo_init_274 : decode m_Mo_init.2.1 274 = .ok (.iastore, 1) := by decide +kernel
theorem d_Mo_init_275 : decode m_Mo_init.2.1 275 = .ok (.iinc 1 1, 3) := by decide +kernel
theorem d_Mo_init_278 : decode m_Mo_init.2.1 278 = .ok (.goto (-18), 3) := by decide +kernel
theorem mo_il1 (hl : l.stackTraces = false) {P : jl_O → jl_S → Prop}   (hN : ∀ (f' : Nat → Int32) (σ' : jl_S), MoO σ' fa vf wh wy hg dp md ov oh dn an → σ'[38]? = some (.inl (0, 6912, .inl f')) → (∀ j, j < 6912 → f' j = -2) → σ'.length = σ1.length → (∀ j, j ≠ 38 → σ'[j]? = σ1[j]?) → jl_E l G m_Mo_init (30, 9579) 281 [some (.ref 22), none] [] σ' P) : ∀ (nn : Nat) (i : Nat) (σ : jl_S) (f : Nat → Int32), 6912 - i < nn → i ≤ 6912 → MoO σ fa vf wh wy hg dp md ov oh dn an → σ[38]? = some (.inl (0, 6912, .inl f)) → σ.length = σ1.length → (∀ j, j ≠ 38 → σ[j]? = σ1[j]?) → (∀ j, j < i → f j = -2) → jl_E l G m_Mo_init (30, 9579) 260 [some (.ref 22), some (.int (nI i))] [] σ P := by
  intro nn
  induction nn with
  | zero => intro i σ f hnn; exact absurd hnn (Nat.not_lt_zero _)
  | succ nn ihn =>
    intro i σ f hnn hi hO h38 hL hf hw
    refine er_iload_n d_Mo_init_260 rfl ?_
    refine er_sipush ((nI (6912))) d_Mo_init_261 (by decide) ?_
    refine er_icmp_geN 281 d_Mo_init_264 (by decide) (by omega) (by omega) (fun c1 => ?_) (fun c1 => ?_)
    · exact er_weak (ls' := [some (.ref 22), none]) (fun q v hv => by match q, hv with | 0, hv => exact hv | 1, hv => cases hv | q + 2, hv => cases hv) (hN f σ hO h38 (by have z := hw; rw [show i = 6912 by omega] at z; exact z) hL hf)
    · refine er_aload_n d_Mo_init_267 rfl ?_
      refine er_getf d_Mo_init_268 f_Mo_init_63 hO rfl ?_
      refine er_iload_n d_Mo_init_271 rfl ?_
      refine er_bipush ((-2)) d_Mo_init_272 (by decide) ?_
      refine er_iastN d_Mo_init_274 h38 (by omega) (by omega) ?_
      show jl_E l G m_Mo_init (30, 9579) 275 [some (.ref 22), some (.int (nI i))] [] (σ.set (38) (.inl (0, 6912, .inl (upd (f) (i) ((-2)))))) P
      refine er_iinc ((nI (i + 1))) d_Mo_init_275 (by decide) rfl (jl_inc _) ?_
      show jl_E l G m_Mo_init (30, 9579) 278 [some (.ref 22), some (.int (nI (i + 1)))] [] (σ.set (38) (.inl (0, 6912, .inl (upd (f) (i) ((-2)))))) P
      refine er_goto 260 d_Mo_init_278 (by decide) ?_
      exact ihn (i + 1) _ _ (by omega) (by omega) (jl_sn (by decide) hO) (jl_ss h38) (by rw [List.length_set]; exact hL) (fun j h1 => by rw [List.getElem?_set_ne (by omega)]; exact hf j h1) (fl_s hw)
theorem d_Mo_init_283 : decode m_Mo_init.2.1 283 = .ok (.iload_n 1, 1) := by decide +kernel
theorem d_Mo_init_284 : decode m_Mo_init.2.1 284 = .ok (.bipush 6, 2) := by decide +kernel
theorem d_Mo_init_286 : decode m_Mo_init.2.1 286 = .ok (.if_icmp .ge 16, 3) := by decide +kernel
theorem d_Mo_init_289 : decode m_Mo_init.2.1 289 = .ok (.aload_n 0, 1) := by decide +kernel
theorem f_Mo_init_13 : jl_fd m_Mo_init 13 7 2 = true := by decide +kernel
theorem d_Mo_init_290 : decode m_Mo_init.2.1 290 = .ok (.getfield 13, 3) := by decide +kernel
theorem d_Mo_init_293 : decode m_Mo_init.2.1 293 = .ok (.iload_n 1, 1) := by decide +kernel
theorem d_Mo_init_294 : decode m_Mo_init.2.1 294 = .ok (.iconst (-1), 1) := by decide +kernel
theorem d_Mo_init_295 : decode m_Mo_init.2.1 295 = .ok (.iastore, 1) := by decide +kernel
theorem d_Mo_init_296 : decode m_Mo_init.2.1 296 = .ok (.iinc 1 1, 3) := by decide +kernel
theorem d_Mo_init_299 : decode m_Mo_init.2.1 299 = .ok (.goto (-16), 3) := by decide +kernel
theorem mo_il2 (hl : l.stackTraces = false) {P : jl_O → jl_S → Prop}   (hN : ∀ σ', MoO σ' fa vf wh wy hg dp md ov oh dn an → σ'[24]? = some (.inl (0, 6, .inl fun j => en (pr0 j))) → σ'.length = σ1.length → (∀ j, j ≠ 24 → σ'[j]? = σ1[j]?) → jl_E l G m_Mo_init (30, 9579) 302 [some (.ref 22), none] [] σ' P) : ∀ (nn : Nat) (i : Nat) (σ : jl_S) (pp : Nat → Option Nat), 6 - i < nn → i ≤ 6 → MoO σ fa vf wh wy hg dp md ov oh dn an → σ[24]? = some (.inl (0, 6, .inl fun j => en (pp j))) → σ.length = σ1.length → (∀ j, j ≠ 24 → σ[j]? = σ1[j]?) → (∀ j, pp j = if j < i then none else some 0) → jl_E l G m_Mo_init (30, 9579) 283 [some (.ref 22), some (.int (nI i))] [] σ P := by
  intro nn
  induction nn with
  | zero => intro i σ pp hnn; exact absurd hnn (Nat.not_lt_zero _)
  | succ nn ihn =>
    intro i σ pp hnn hi hO h24 hL hf hw
    refine er_iload_n d_Mo_init_283 rfl ?_
    refine er_bipush ((nI (6))) d_Mo_init_284 (by decide) ?_
    refine er_icmp_geN 302 d_Mo_init_286 (by decide) (by omega) (by omega) (fun c1 => ?_) (fun c1 => ?_)
    · have z : pp = pr0 := funext fun j => (by rw [hw j, show i = 6 by omega]; rfl)
      subst z
      exact er_weak (ls' := [some (.ref 22), none]) (fun q v hv => by match q, hv with | 0, hv => exact hv | 1, hv => cases hv | q + 2, hv => cases hv) (hN σ hO h24 hL hf)
    · refine er_aload_n d_Mo_init_289 rfl ?_
      refine er_getf d_Mo_init_290 f_Mo_init_13 hO rfl ?_
      refine er_iload_n d_Mo_init_293 rfl ?_
      refine er_iconst ((-1)) d_Mo_init_294 (by decide) ?_
      refine er_iastN d_Mo_init_295 h24 (by omega) (by omega) ?_
      rw [show upd (fun j => en (pp j)) (i) ((-1)) = (fun j => en ((va_up pp (i) (none)) j)) from en_up pp (i) (none)]
      show jl_E l G m_Mo_init (30, 9579) 296 [some (.ref 22), some (.int (nI i))] [] (σ.set (24) (.inl (0, 6, .inl (fun j => en ((va_up pp (i) (none)) j))))) P
      refine er_iinc ((nI (i + 1))) d_Mo_init_296 (by decide) rfl (jl_inc _) ?_
      show jl_E l G m_Mo_init (30, 9579) 299 [some (.ref 22), some (.int (nI (i + 1)))] [] (σ.set (24) (.inl (0, 6, .inl (fun j => en ((va_up pp (i) (none)) j))))) P
      refine er_goto 283 d_Mo_init_299 (by decide) ?_
      exact ihn (i + 1) _ _ (by omega) (by omega) (jl_sn (by decide) hO) (jl_ss h24) (by rw [List.length_set]; exact hL) (fun j h1 => by rw [List.getElem?_set_ne (by omega)]; exact hf j h1) (pp_s hw)
theorem d_Mo_init_0 : decode m_Mo_init.2.1 0 = .ok (.aload_n 0, 1) := by decide +kernel
theorem d_Mo_init_1 : decode m_Mo_init.2.1 1 = .ok (.invokespecial 1, 3) := by decide +kernel
theorem p_Mo_init_7 : jl_fp m_Mo_init 7 7 1 = true := by decide +kernel
theorem d_Mo_init_4 : decode m_Mo_init.2.1 4 = .ok (.aload_n 0, 1) := by decide +kernel
theorem d_Mo_init_5 : decode m_Mo_init.2.1 5 = .ok (.bipush 6, 2) := by decide +kernel
theorem d_Mo_init_7 : decode m_Mo_init.2.1 7 = .ok (.newarray .boolean, 2) := by decide +kernel
theorem d_Mo_init_9 : decode m_Mo_init.2.1 9 = .ok (.putfield 7, 3) := by decide +kernel
theorem p_Mo_init_13 : jl_fp m_Mo_init 13 7 2 = true := by decide +kernel
theorem d_Mo_init_12 : decode m_Mo_init.2.1 12 = .ok (.aload_n 0, 1) := by decide +kernel
theorem d_Mo_init_13 : decode m_Mo_init.2.1 13 = .ok (.bipush 6, 2) := by decide +kernel
theorem d_Mo_init_15 : decode m_Mo_init.2.1 15 = .ok (.newarray .int, 2) := by decide +kernel
theorem d_Mo_init_17 : decode m_Mo_init.2.1 17 = .ok (.putfield 13, 3) := by decide +kernel
theorem p_Mo_init_17 : jl_fp m_Mo_init 17 7 3 = true := by decide +kernel
theorem d_Mo_init_20 : decode m_Mo_init.2.1 20 = .ok (.aload_n 0, 1) := by decide +kernel
theorem d_Mo_init_21 : decode m_Mo_init.2.1 21 = .ok (.bipush 6, 2) := by decide +kernel
theorem d_Mo_init_23 : decode m_Mo_init.2.1 23 = .ok (.newarray .int, 2) := by decide +kernel
theorem d_Mo_init_25 : decode m_Mo_init.2.1 25 = .ok (.putfield 17, 3) := by decide +kernel
theorem p_Mo_init_20 : jl_fp m_Mo_init 20 7 4 = true := by decide +kernel
theorem d_Mo_init_28 : decode m_Mo_init.2.1 28 = .ok (.aload_n 0, 1) := by decide +kernel
theorem d_Mo_init_29 : decode m_Mo_init.2.1 29 = .ok (.bipush 18, 2) := by decide +kernel
theorem d_Mo_init_31 : decode m_Mo_init.2.1 31 = .ok (.newarray .int, 2) := by decide +kernel
theorem d_Mo_init_33 : decode m_Mo_init.2.1 33 = .ok (.putfield 20, 3) := by decide +kernel
theorem p_Mo_init_23 : jl_fp m_Mo_init 23 7 5 = true := by decide +kernel
theorem d_Mo_init_36 : decode m_Mo_init.2.1 36 = .ok (.aload_n 0, 1) := by decide +kernel
theorem d_Mo_init_37 : decode m_Mo_init.2.1 37 = .ok (.bipush 24, 2) := by decide +kernel
theorem d_Mo_init_39 : decode m_Mo_init.2.1 39 = .ok (.newarray .boolean, 2) := by decide +kernel
theorem d_Mo_init_41 : decode m_Mo_init.2.1 41 = .ok (.putfield 23, 3) := by decide +kernel
theorem p_Mo_init_26 : jl_fp m_Mo_init 26 7 6 = true := by decide +kernel
theorem d_Mo_init_44 : decode m_Mo_init.2.1 44 = .ok (.aload_n 0, 1) := by decide +kernel
theorem d_Mo_init_45 : decode m_Mo_init.2.1 45 = .ok (.bipush 24, 2) := by decide +kernel
theorem d_Mo_init_47 : decode m_Mo_init.2.1 47 = .ok (.newarray .int, 2) := by decide +kernel
theorem d_Mo_init_49 : decode m_Mo_init.2.1 49 = .ok (.putfield 26, 3) := by decide +kernel
theorem p_Mo_init_29 : jl_fp m_Mo_init 29 7 7 = true := by decide +kernel
theorem d_Mo_init_52 : decode m_Mo_init.2.1 52 = .ok (.aload_n 0, 1) := by decide +kernel
theorem d_Mo_init_53 : decode m_Mo_init.2.1 53 = .ok (.bipush 24, 2) := by decide +kernel
theorem d_Mo_init_55 : decode m_Mo_init.2.1 55 = .ok (.newarray .int, 2) := by decide +kernel
theorem d_Mo_init_57 : decode m_Mo_init.2.1 57 = .ok (.putfield 29, 3) := by decide +kernel
theorem p_Mo_init_32 : jl_fp m_Mo_init 32 7 8 = true := by decide +kernel
theorem d_Mo_init_60 : decode m_Mo_init.2.1 60 = .ok (.aload_n 0, 1) := by decide +kernel
theorem d_Mo_init_61 : decode m_Mo_init.2.1 61 = .ok (.bipush 24, 2) := by decide +kernel
theorem d_Mo_init_63 : decode m_Mo_init.2.1 63 = .ok (.newarray .int, 2) := by decide +kernel
theorem d_Mo_init_65 : decode m_Mo_init.2.1 65 = .ok (.putfield 32, 3) := by decide +kernel
theorem p_Mo_init_35 : jl_fp m_Mo_init 35 7 9 = true := by decide +kernel
theorem d_Mo_init_68 : decode m_Mo_init.2.1 68 = .ok (.aload_n 0, 1) := by decide +kernel
theorem d_Mo_init_69 : decode m_Mo_init.2.1 69 = .ok (.bipush 24, 2) := by decide +kernel
theorem d_Mo_init_71 : decode m_Mo_init.2.1 71 = .ok (.newarray .int, 2) := by decide +kernel
theorem d_Mo_init_73 : decode m_Mo_init.2.1 73 = .ok (.putfield 35, 3) := by decide +kernel
theorem p_Mo_init_38 : jl_fp m_Mo_init 38 7 10 = true := by decide +kernel
theorem d_Mo_init_76 : decode m_Mo_init.2.1 76 = .ok (.aload_n 0, 1) := by decide +kernel
theorem d_Mo_init_77 : decode m_Mo_init.2.1 77 = .ok (.sipush 576, 3) := by decide +kernel
theorem d_Mo_init_80 : decode m_Mo_init.2.1 80 = .ok (.newarray .int, 2) := by decide +kernel
theorem d_Mo_init_82 : decode m_Mo_init.2.1 82 = .ok (.putfield 38, 3) := by decide +kernel
theorem p_Mo_init_41 : jl_fp m_Mo_init 41 7 11 = true := by decide +kernel
theorem d_Mo_init_85 : decode m_Mo_init.2.1 85 = .ok (.aload_n 0, 1) := by decide +kernel
theorem d_Mo_init_86 : decode m_Mo_init.2.1 86 = .ok (.sipush 576, 3) := by decide +kernel
theorem d_Mo_init_89 : decode m_Mo_init.2.1 89 = .ok (.newarray .int, 2) := by decide +kernel
theorem d_Mo_init_91 : decode m_Mo_init.2.1 91 = .ok (.putfield 41, 3) := by decide +kernel
theorem p_Mo_init_44 : jl_fp m_Mo_init 44 7 12 = true := by decide +kernel
theorem d_Mo_init_94 : decode m_Mo_init.2.1 94 = .ok (.aload_n 0, 1) := by decide +kernel
theorem d_Mo_init_95 : decode m_Mo_init.2.1 95 = .ok (.bipush 24, 2) := by decide +kernel
theorem d_Mo_init_97 : decode m_Mo_init.2.1 97 = .ok (.newarray .int, 2) := by decide +kernel
theorem d_Mo_init_99 : decode m_Mo_init.2.1 99 = .ok (.putfield 44, 3) := by decide +kernel
theorem p_Mo_init_47 : jl_fp m_Mo_init 47 7 13 = true := by decide +kernel
theorem d_Mo_init_102 : decode m_Mo_init.2.1 102 = .ok (.aload_n 0, 1) := by decide +kernel
theorem d_Mo_init_103 : decode m_Mo_init.2.1 103 = .ok (.bipush 48, 2) := by decide +kernel
theorem d_Mo_init_105 : decode m_Mo_init.2.1 105 = .ok (.newarray .int, 2) := by decide +kernel
theorem d_Mo_init_107 : decode m_Mo_init.2.1 107 = .ok (.putfield 47, 3) := by decide +kernel
theorem p_Mo_init_50 : jl_fp m_Mo_init 50 7 14 = true := by decide +kernel
theorem d_Mo_init_110 : decode m_Mo_init.2.1 110 = .ok (.aload_n 0, 1) := by decide +kernel
theorem d_Mo_init_111 : decode m_Mo_init.2.1 111 = .ok (.bipush 48, 2) := by decide +kernel
theorem d_Mo_init_113 : decode m_Mo_init.2.1 113 = .ok (.newarray .int, 2) := by decide +kernel
theorem d_Mo_init_115 : decode m_Mo_init.2.1 115 = .ok (.putfield 50, 3) := by decide +kernel
theorem p_Mo_init_53 : jl_fp m_Mo_init 53 7 15 = true := by decide +kernel
theorem d_Mo_init_118 : decode m_Mo_init.2.1 118 = .ok (.aload_n 0, 1) := by decide +kernel
theorem d_Mo_init_119 : decode m_Mo_init.2.1 119 = .ok (.bipush 48, 2) := by decide +kernel
theorem d_Mo_init_121 : decode m_Mo_init.2.1 121 = .ok (.newarray .int, 2) := by decide +kernel
theorem d_Mo_init_123 : decode m_Mo_init.2.1 123 = .ok (.putfield 53, 3) := by decide +kernel
theorem p_Mo_init_56 : jl_fp m_Mo_init 56 7 17 = true := by decide +kernel
theorem d_Mo_init_126 : decode m_Mo_init.2.1 126 = .ok (.aload_n 0, 1) := by decide +kernel
theorem d_Mo_init_127 : decode m_Mo_init.2.1 127 = .ok (.iconst (-1), 1) := by decide +kernel
theorem d_Mo_init_128 : decode m_Mo_init.2.1 128 = .ok (.putfield 56, 3) := by decide +kernel
theorem p_Mo_init_60 : jl_fp m_Mo_init 60 7 18 = true := by decide +kernel
theorem d_Mo_init_131 : decode m_Mo_init.2.1 131 = .ok (.aload_n 0, 1) := by decide +kernel
theorem d_Mo_init_132 : decode m_Mo_init.2.1 132 = .ok (.iconst (-1), 1) := by decide +kernel
theorem d_Mo_init_133 : decode m_Mo_init.2.1 133 = .ok (.putfield 60, 3) := by decide +kernel
theorem p_Mo_init_63 : jl_fp m_Mo_init 63 7 19 = true := by decide +kernel
theorem d_Mo_init_136 : decode m_Mo_init.2.1 136 = .ok (.aload_n 0, 1) := by decide +kernel
theorem d_Mo_init_137 : decode m_Mo_init.2.1 137 = .ok (.sipush 6912, 3) := by decide +kernel
theorem d_Mo_init_140 : decode m_Mo_init.2.1 140 = .ok (.newarray .int, 2) := by decide +kernel
theorem d_Mo_init_142 : decode m_Mo_init.2.1 142 = .ok (.putfield 63, 3) := by decide +kernel
theorem p_Mo_init_66 : jl_fp m_Mo_init 66 7 20 = true := by decide +kernel
theorem d_Mo_init_145 : decode m_Mo_init.2.1 145 = .ok (.aload_n 0, 1) := by decide +kernel
theorem d_Mo_init_146 : decode m_Mo_init.2.1 146 = .ok (.bipush 24, 2) := by decide +kernel
theorem d_Mo_init_148 : decode m_Mo_init.2.1 148 = .ok (.newarray .boolean, 2) := by decide +kernel
theorem d_Mo_init_150 : decode m_Mo_init.2.1 150 = .ok (.putfield 66, 3) := by decide +kernel
theorem p_Mo_init_69 : jl_fp m_Mo_init 69 7 21 = true := by decide +kernel
theorem d_Mo_init_153 : decode m_Mo_init.2.1 153 = .ok (.aload_n 0, 1) := by decide +kernel
theorem d_Mo_init_154 : decode m_Mo_init.2.1 154 = .ok (.bipush 6, 2) := by decide +kernel
theorem d_Mo_init_156 : decode m_Mo_init.2.1 156 = .ok (.newarray .int, 2) := by decide +kernel
theorem d_Mo_init_158 : decode m_Mo_init.2.1 158 = .ok (.putfield 69, 3) := by decide +kernel
theorem p_Mo_init_72 : jl_fp m_Mo_init 72 7 22 = true := by decide +kernel
theorem d_Mo_init_161 : decode m_Mo_init.2.1 161 = .ok (.aload_n 0, 1) := by decide +kernel
theorem d_Mo_init_162 : decode m_Mo_init.2.1 162 = .ok (.bipush 8, 2) := by decide +kernel
theorem d_Mo_init_164 : decode m_Mo_init.2.1 164 = .ok (.newarray .int, 2) := by decide +kernel
theorem d_Mo_init_166 : decode m_Mo_init.2.1 166 = .ok (.putfield 72, 3) := by decide +kernel
theorem p_Mo_init_75 : jl_fp m_Mo_init 75 7 24 = true := by decide +kernel
theorem d_Mo_init_169 : decode m_Mo_init.2.1 169 = .ok (.aload_n 0, 1) := by decide +kernel
theorem d_Mo_init_170 : decode m_Mo_init.2.1 170 = .ok (.bipush 8, 2) := by decide +kernel
theorem d_Mo_init_172 : decode m_Mo_init.2.1 172 = .ok (.newarray .int, 2) := by decide +kernel
theorem d_Mo_init_174 : decode m_Mo_init.2.1 174 = .ok (.putfield 75, 3) := by decide +kernel
theorem p_Mo_init_78 : jl_fp m_Mo_init 78 7 25 = true := by decide +kernel
theorem d_Mo_init_177 : decode m_Mo_init.2.1 177 = .ok (.aload_n 0, 1) := by decide +kernel
theorem d_Mo_init_178 : decode m_Mo_init.2.1 178 = .ok (.bipush 13, 2) := by decide +kernel
theorem d_Mo_init_180 : decode m_Mo_init.2.1 180 = .ok (.newarray .int, 2) := by decide +kernel
theorem d_Mo_init_182 : decode m_Mo_init.2.1 182 = .ok (.putfield 78, 3) := by decide +kernel
theorem p_Mo_init_81 : jl_fp m_Mo_init 81 7 26 = true := by decide +kernel
theorem d_Mo_init_185 : decode m_Mo_init.2.1 185 = .ok (.aload_n 0, 1) := by decide +kernel
theorem d_Mo_init_186 : decode m_Mo_init.2.1 186 = .ok (.bipush 13, 2) := by decide +kernel
theorem d_Mo_init_188 : decode m_Mo_init.2.1 188 = .ok (.newarray .int, 2) := by decide +kernel
theorem d_Mo_init_190 : decode m_Mo_init.2.1 190 = .ok (.putfield 81, 3) := by decide +kernel
theorem p_Mo_init_84 : jl_fp m_Mo_init 84 7 27 = true := by decide +kernel
theorem d_Mo_init_193 : decode m_Mo_init.2.1 193 = .ok (.aload_n 0, 1) := by decide +kernel
theorem d_Mo_init_194 : decode m_Mo_init.2.1 194 = .ok (.bipush 13, 2) := by decide +kernel
theorem d_Mo_init_196 : decode m_Mo_init.2.1 196 = .ok (.newarray .int, 2) := by decide +kernel
theorem d_Mo_init_198 : decode m_Mo_init.2.1 198 = .ok (.putfield 84, 3) := by decide +kernel
theorem p_Mo_init_87 : jl_fp m_Mo_init 87 7 28 = true := by decide +kernel
theorem d_Mo_init_201 : decode m_Mo_init.2.1 201 = .ok (.aload_n 0, 1) := by decide +kernel
theorem d_Mo_init_202 : decode m_Mo_init.2.1 202 = .ok (.bipush 78, 2) := by decide +kernel
theorem d_Mo_init_204 : decode m_Mo_init.2.1 204 = .ok (.newarray .int, 2) := by decide +kernel
theorem d_Mo_init_206 : decode m_Mo_init.2.1 206 = .ok (.putfield 87, 3) := by decide +kernel
theorem p_Mo_init_90 : jl_fp m_Mo_init 90 7 29 = true := by decide +kernel
theorem d_Mo_init_209 : decode m_Mo_init.2.1 209 = .ok (.aload_n 0, 1) := by decide +kernel
theorem d_Mo_init_210 : decode m_Mo_init.2.1 210 = .ok (.bipush 78, 2) := by decide +kernel
theorem d_Mo_init_212 : decode m_Mo_init.2.1 212 = .ok (.newarray .int, 2) := by decide +kernel
theorem d_Mo_init_214 : decode m_Mo_init.2.1 214 = .ok (.putfield 90, 3) := by decide +kernel
theorem p_Mo_init_93 : jl_fp m_Mo_init 93 7 30 = true := by decide +kernel
theorem d_Mo_init_217 : decode m_Mo_init.2.1 217 = .ok (.aload_n 0, 1) := by decide +kernel
theorem d_Mo_init_218 : decode m_Mo_init.2.1 218 = .ok (.bipush 65, 2) := by decide +kernel
theorem d_Mo_init_220 : decode m_Mo_init.2.1 220 = .ok (.newarray .int, 2) := by decide +kernel
theorem d_Mo_init_222 : decode m_Mo_init.2.1 222 = .ok (.putfield 93, 3) := by decide +kernel
theorem p_Mo_init_96 : jl_fp m_Mo_init 96 7 31 = true := by decide +kernel
theorem d_Mo_init_225 : decode m_Mo_init.2.1 225 = .ok (.aload_n 0, 1) := by decide +kernel
theorem d_Mo_init_226 : decode m_Mo_init.2.1 226 = .ok (.bipush 65, 2) := by decide +kernel
theorem d_Mo_init_228 : decode m_Mo_init.2.1 228 = .ok (.newarray .int, 2) := by decide +kernel
theorem d_Mo_init_230 : decode m_Mo_init.2.1 230 = .ok (.putfield 96, 3) := by decide +kernel
theorem p_Mo_init_99 : jl_fp m_Mo_init 99 7 33 = true := by decide +kernel
theorem d_Mo_init_233 : decode m_Mo_init.2.1 233 = .ok (.aload_n 0, 1) := by decide +kernel
theorem d_Mo_init_234 : decode m_Mo_init.2.1 234 = .ok (.bipush 41, 2) := by decide +kernel
theorem d_Mo_init_236 : decode m_Mo_init.2.1 236 = .ok (.newarray .int, 2) := by decide +kernel
theorem d_Mo_init_238 : decode m_Mo_init.2.1 238 = .ok (.putfield 99, 3) := by decide +kernel
theorem p_Mo_init_102 : jl_fp m_Mo_init 102 7 34 = true := by decide +kernel
theorem d_Mo_init_241 : decode m_Mo_init.2.1 241 = .ok (.aload_n 0, 1) := by decide +kernel
theorem d_Mo_init_242 : decode m_Mo_init.2.1 242 = .ok (.bipush 41, 2) := by decide +kernel
theorem d_Mo_init_244 : decode m_Mo_init.2.1 244 = .ok (.newarray .int, 2) := by decide +kernel
theorem d_Mo_init_246 : decode m_Mo_init.2.1 246 = .ok (.putfield 102, 3) := by decide +kernel
theorem p_Mo_init_105 : jl_fp m_Mo_init 105 7 35 = true := by decide +kernel
theorem d_Mo_init_249 : decode m_Mo_init.2.1 249 = .ok (.aload_n 0, 1) := by decide +kernel
theorem d_Mo_init_250 : decode m_Mo_init.2.1 250 = .ok (.sipush 738, 3) := by decide +kernel
theorem d_Mo_init_253 : decode m_Mo_init.2.1 253 = .ok (.newarray .int, 2) := by decide +kernel
theorem d_Mo_init_255 : decode m_Mo_init.2.1 255 = .ok (.putfield 105, 3) := by decide +kernel
theorem d_Mo_init_258 : decode m_Mo_init.2.1 258 = .ok (.iconst 0, 1) := by decide +kernel
theorem d_Mo_init_259 : decode m_Mo_init.2.1 259 = .ok (.istore_n 1, 1) := by decide +kernel
theorem d_Mo_init_281 : decode m_Mo_init.2.1 281 = .ok (.iconst 0, 1) := by decide +kernel
theorem d_Mo_init_282 : decode m_Mo_init.2.1 282 = .ok (.istore_n 1, 1) := by decide +kernel
theorem d_Mo_init_302 : decode m_Mo_init.2.1 302 = .ok (.aload_n 0, 1) := by decide +kernel
theorem d_Mo_init_303 : decode m_Mo_init.2.1 303 = .ok (.iconst (-1), 1) := by decide +kernel
theorem p_Mo_init_108 : jl_fp m_Mo_init 108 7 37 = true := by decide +kernel
theorem d_Mo_init_304 : decode m_Mo_init.2.1 304 = .ok (.putfield 108, 3) := by decide +kernel
theorem d_Mo_init_307 : decode m_Mo_init.2.1 307 = .ok (.return_, 1) := by decide +kernel
theorem mo_init (hl : l.stackTraces = false) {P : jl_O → jl_S → Prop} (hN : σ.length = 23) (hM : σ[22]? = some (.inr (7, [.int (0), .null, .null, .null, .null, .null, .null, .null, .null, .null, .null, .null, .null, .null, .null, .null, .int (0), .int (0), .int (0), .null, .null, .null, .null, .int (0), .null, .null, .null, .null, .null, .null, .null, .null, .int (0), .null, .null, .null, .int (0), .int (0), .int (0), .int (0), .int (0)]))) (hT : ∀ σ', σ'.length = 53 → MoO σ' 0 0 (-1) (-1) 0 0 0 (-1) 0 0 0 → σ'[24]? = some (.inl (0, 6, .inl fun j => en (pr0 j))) → (∃ mm : Nat → Int32, σ'[38]? = some (.inl (0, 6912, .inl mm)) ∧ ∀ j, j < 6912 → mm j = -2) → (∀ i, i < 22 → σ'[i]? = σ[i]?) → (∀ i, i < 30 → i ≠ 1 → i ≠ 15 → σ'[23 + i]? = some (mA i)) → P (.inl none) σ') : jl_mE l G m_Mo_init [.ref 22] σ P := by
  refine jl_ofE (as := [.ref 22]) rfl (by decide) hl (jl_cc rfl jl_ca) (Nat.le_of_ble_eq_true rfl) ?_
  show jl_E l G m_Mo_init (0, 0) 0 [some (.ref 22), none] [] σ P
  have h : IM σ σ 0 [.int (0), .null, .null, .null, .null, .null, .null, .null, .null, .null, .null, .null, .null, .null, .null, .null, .int (0), .int (0), .int (0), .null, .null, .null, .null, .int (0), .null, .null, .null, .null, .null, .null, .null, .null, .int (0), .null, .null, .null, .int (0), .int (0), .int (0), .int (0), .int (0)] := ⟨hN, hM, fun _ _ => rfl, fun i hi => absurd hi (Nat.not_lt_zero _)⟩
  refine er_aload_n d_Mo_init_0 rfl ?_
  refine er_obj d_Mo_init_1 (by decide +kernel) (by decide) (by decide) (by decide) ?_
  show jl_E l G m_Mo_init (0, 0) 4 [some (.ref 22), none] [] σ P
  revert h
  suffices hh : ∀ σ2, IM σ σ2 0 [.int (0), .null, .null, .null, .null, .null, .null, .null, .null, .null, .null, .null, .null, .null, .null, .null, .int (0), .int (0), .int (0), .null, .null, .null, .null, .int (0), .null, .null, .null, .null, .null, .null, .null, .null, .int (0), .null, .null, .null, .int (0), .int (0), .int (0), .int (0), .int (0)] → jl_E l G m_Mo_init (0, 0) 4 [some (.ref 22), none] [] σ2 P from hh σ
  intro σ2 h
  refine er_aload_n d_Mo_init_4 rfl ?_
  refine er_bipush (nI 6) d_Mo_init_5 (by decide) ?_
  refine im_Z (j := 0) (N := 6) h rfl d_Mo_init_7 d_Mo_init_9 p_Mo_init_7 (by decide) (by decide) (by decide) (Nat.le_of_ble_eq_true rfl) jl_fit_arr (fun σ2 h => ?_)
  replace h : IM σ σ2 1 [.int (0), .ref 23, .null, .null, .null, .null, .null, .null, .null, .null, .null, .null, .null, .null, .null, .null, .int (0), .int (0), .int (0), .null, .null, .null, .null, .int (0), .null, .null, .null, .null, .null, .null, .null, .null, .int (0), .null, .null, .null, .int (0), .int (0), .int (0), .int (0), .int (0)] := h
  show jl_E l G m_Mo_init (1, 6) 12 [some (.ref 22), none] [] σ2 P
  refine er_aload_n d_Mo_init_12 rfl ?_
  refine er_bipush (nI 6) d_Mo_init_13 (by decide) ?_
  refine im_I (j := 1) (N := 6) h rfl d_Mo_init_15 d_Mo_init_17 p_Mo_init_13 (by decide) (by decide) (by decide) (Nat.le_of_ble_eq_true rfl) jl_fit_arr (fun σ2 h => ?_)
  replace h : IM σ σ2 2 [.int (0), .ref 23, .ref 24, .null, .null, .null, .null, .null, .null, .null, .null, .null, .null, .null, .null, .null, .int (0), .int (0), .int (0), .null, .null, .null, .null, .int (0), .null, .null, .null, .null, .null, .null, .null, .null, .int (0), .null, .null, .null, .int (0), .int (0), .int (0), .int (0), .int (0)] := h
  show jl_E l G m_Mo_init (2, 12) 20 [some (.ref 22), none] [] σ2 P
  refine er_aload_n d_Mo_init_20 rfl ?_
  refine er_bipush (nI 6) d_Mo_init_21 (by decide) ?_
  refine im_I (j := 2) (N := 6) h rfl d_Mo_init_23 d_Mo_init_25 p_Mo_init_17 (by decide) (by decide) (by decide) (Nat.le_of_ble_eq_true rfl) jl_fit_arr (fun σ2 h => ?_)
  replace h : IM σ σ2 3 [.int (0), .ref 23, .ref 24, .ref 25, .null, .null, .null, .null, .null, .null, .null, .null, .null, .null, .null, .null, .int (0), .int (0), .int (0), .null, .null, .null, .null, .int (0), .null, .null, .null, .null, .null, .null, .null, .null, .int (0), .null, .null, .null, .int (0), .int (0), .int (0), .int (0), .int (0)] := h
  show jl_E l G m_Mo_init (3, 18) 28 [some (.ref 22), none] [] σ2 P
  refine er_aload_n d_Mo_init_28 rfl ?_
  refine er_bipush (nI 18) d_Mo_init_29 (by decide) ?_
  refine im_I (j := 3) (N := 18) h rfl d_Mo_init_31 d_Mo_init_33 p_Mo_init_20 (by decide) (by decide) (by decide) (Nat.le_of_ble_eq_true rfl) jl_fit_arr (fun σ2 h => ?_)
  replace h : IM σ σ2 4 [.int (0), .ref 23, .ref 24, .ref 25, .ref 26, .null, .null, .null, .null, .null, .null, .null, .null, .null, .null, .null, .int (0), .int (0), .int (0), .null, .null, .null, .null, .int (0), .null, .null, .null, .null, .null, .null, .null, .null, .int (0), .null, .null, .null, .int (0), .int (0), .int (0), .int (0), .int (0)] := h
  show jl_E l G m_Mo_init (4, 36) 36 [some (.ref 22), none] [] σ2 P
  refine er_aload_n d_Mo_init_36 rfl ?_
  refine er_bipush (nI 24) d_Mo_init_37 (by decide) ?_
  refine im_Z (j := 4) (N := 24) h rfl d_Mo_init_39 d_Mo_init_41 p_Mo_init_23 (by decide) (by decide) (by decide) (Nat.le_of_ble_eq_true rfl) jl_fit_arr (fun σ2 h => ?_)
  replace h : IM σ σ2 5 [.int (0), .ref 23, .ref 24, .ref 25, .ref 26, .ref 27, .null, .null, .null, .null, .null, .null, .null, .null, .null, .null, .int (0), .int (0), .int (0), .null, .null, .null, .null, .int (0), .null, .null, .null, .null, .null, .null, .null, .null, .int (0), .null, .null, .null, .int (0), .int (0), .int (0), .int (0), .int (0)] := h
  show jl_E l G m_Mo_init (5, 60) 44 [some (.ref 22), none] [] σ2 P
  refine er_aload_n d_Mo_init_44 rfl ?_
  refine er_bipush (nI 24) d_Mo_init_45 (by decide) ?_
  refine im_I (j := 5) (N := 24) h rfl d_Mo_init_47 d_Mo_init_49 p_Mo_init_26 (by decide) (by decide) (by decide) (Nat.le_of_ble_eq_true rfl) jl_fit_arr (fun σ2 h => ?_)
  replace h : IM σ σ2 6 [.int (0), .ref 23, .ref 24, .ref 25, .ref 26, .ref 27, .ref 28, .null, .null, .null, .null, .null, .null, .null, .null, .null, .int (0), .int (0), .int (0), .null, .null, .null, .null, .int (0), .null, .null, .null, .null, .null, .null, .null, .null, .int (0), .null, .null, .null, .int (0), .int (0), .int (0), .int (0), .int (0)] := h
  show jl_E l G m_Mo_init (6, 84) 52 [some (.ref 22), none] [] σ2 P
  refine er_aload_n d_Mo_init_52 rfl ?_
  refine er_bipush (nI 24) d_Mo_init_53 (by decide) ?_
  refine im_I (j := 6) (N := 24) h rfl d_Mo_init_55 d_Mo_init_57 p_Mo_init_29 (by decide) (by decide) (by decide) (Nat.le_of_ble_eq_true rfl) jl_fit_arr (fun σ2 h => ?_)
  replace h : IM σ σ2 7 [.int (0), .ref 23, .ref 24, .ref 25, .ref 26, .ref 27, .ref 28, .ref 29, .null, .null, .null, .null, .null, .null, .null, .null, .int (0), .int (0), .int (0), .null, .null, .null, .null, .int (0), .null, .null, .null, .null, .null, .null, .null, .null, .int (0), .null, .null, .null, .int (0), .int (0), .int (0), .int (0), .int (0)] := h
  show jl_E l G m_Mo_init (7, 108) 60 [some (.ref 22), none] [] σ2 P
  refine er_aload_n d_Mo_init_60 rfl ?_
  refine er_bipush (nI 24) d_Mo_init_61 (by decide) ?_
  refine im_I (j := 7) (N := 24) h rfl d_Mo_init_63 d_Mo_init_65 p_Mo_init_32 (by decide) (by decide) (by decide) (Nat.le_of_ble_eq_true rfl) jl_fit_arr (fun σ2 h => ?_)
  replace h : IM σ σ2 8 [.int (0), .ref 23, .ref 24, .ref 25, .ref 26, .ref 27, .ref 28, .ref 29, .ref 30, .null, .null, .null, .null, .null, .null, .null, .int (0), .int (0), .int (0), .null, .null, .null, .null, .int (0), .null, .null, .null, .null, .null, .null, .null, .null, .int (0), .null, .null, .null, .int (0), .int (0), .int (0), .int (0), .int (0)] := h
  show jl_E l G m_Mo_init (8, 132) 68 [some (.ref 22), none] [] σ2 P
  refine er_aload_n d_Mo_init_68 rfl ?_
  refine er_bipush (nI 24) d_Mo_init_69 (by decide) ?_
  refine im_I (j := 8) (N := 24) h rfl d_Mo_init_71 d_Mo_init_73 p_Mo_init_35 (by decide) (by decide) (by decide) (Nat.le_of_ble_eq_true rfl) jl_fit_arr (fun σ2 h => ?_)
  replace h : IM σ σ2 9 [.int (0), .ref 23, .ref 24, .ref 25, .ref 26, .ref 27, .ref 28, .ref 29, .ref 30, .ref 31, .null, .null, .null, .null, .null, .null, .int (0), .int (0), .int (0), .null, .null, .null, .null, .int (0), .null, .null, .null, .null, .null, .null, .null, .null, .int (0), .null, .null, .null, .int (0), .int (0), .int (0), .int (0), .int (0)] := h
  show jl_E l G m_Mo_init (9, 156) 76 [some (.ref 22), none] [] σ2 P
  refine er_aload_n d_Mo_init_76 rfl ?_
  refine er_sipush (nI 576) d_Mo_init_77 (by decide) ?_
  refine im_I (j := 9) (N := 576) h rfl d_Mo_init_80 d_Mo_init_82 p_Mo_init_38 (by decide) (by decide) (by decide) (Nat.le_of_ble_eq_true rfl) jl_fit_arr (fun σ2 h => ?_)
  replace h : IM σ σ2 10 [.int (0), .ref 23, .ref 24, .ref 25, .ref 26, .ref 27, .ref 28, .ref 29, .ref 30, .ref 31, .ref 32, .null, .null, .null, .null, .null, .int (0), .int (0), .int (0), .null, .null, .null, .null, .int (0), .null, .null, .null, .null, .null, .null, .null, .null, .int (0), .null, .null, .null, .int (0), .int (0), .int (0), .int (0), .int (0)] := h
  show jl_E l G m_Mo_init (10, 732) 85 [some (.ref 22), none] [] σ2 P
  refine er_aload_n d_Mo_init_85 rfl ?_
  refine er_sipush (nI 576) d_Mo_init_86 (by decide) ?_
  refine im_I (j := 10) (N := 576) h rfl d_Mo_init_89 d_Mo_init_91 p_Mo_init_41 (by decide) (by decide) (by decide) (Nat.le_of_ble_eq_true rfl) jl_fit_arr (fun σ2 h => ?_)
  replace h : IM σ σ2 11 [.int (0), .ref 23, .ref 24, .ref 25, .ref 26, .ref 27, .ref 28, .ref 29, .ref 30, .ref 31, .ref 32, .ref 33, .null, .null, .null, .null, .int (0), .int (0), .int (0), .null, .null, .null, .null, .int (0), .null, .null, .null, .null, .null, .null, .null, .null, .int (0), .null, .null, .null, .int (0), .int (0), .int (0), .int (0), .int (0)] := h
  show jl_E l G m_Mo_init (11, 1308) 94 [some (.ref 22), none] [] σ2 P
  refine er_aload_n d_Mo_init_94 rfl ?_
  refine er_bipush (nI 24) d_Mo_init_95 (by decide) ?_
  refine im_I (j := 11) (N := 24) h rfl d_Mo_init_97 d_Mo_init_99 p_Mo_init_44 (by decide) (by decide) (by decide) (Nat.le_of_ble_eq_true rfl) jl_fit_arr (fun σ2 h => ?_)
  replace h : IM σ σ2 12 [.int (0), .ref 23, .ref 24, .ref 25, .ref 26, .ref 27, .ref 28, .ref 29, .ref 30, .ref 31, .ref 32, .ref 33, .ref 34, .null, .null, .null, .int (0), .int (0), .int (0), .null, .null, .null, .null, .int (0), .null, .null, .null, .null, .null, .null, .null, .null, .int (0), .null, .null, .null, .int (0), .int (0), .int (0), .int (0), .int (0)] := h
  show jl_E l G m_Mo_init (12, 1332) 102 [some (.ref 22), none] [] σ2 P
  refine er_aload_n d_Mo_init_102 rfl ?_
  refine er_bipush (nI 48) d_Mo_init_103 (by decide) ?_
  refine im_I (j := 12) (N := 48) h rfl d_Mo_init_105 d_Mo_init_107 p_Mo_init_47 (by decide) (by decide) (by decide) (Nat.le_of_ble_eq_true rfl) jl_fit_arr (fun σ2 h => ?_)
  replace h : IM σ σ2 13 [.int (0), .ref 23, .ref 24, .ref 25, .ref 26, .ref 27, .ref 28, .ref 29, .ref 30, .ref 31, .ref 32, .ref 33, .ref 34, .ref 35, .null, .null, .int (0), .int (0), .int (0), .null, .null, .null, .null, .int (0), .null, .null, .null, .null, .null, .null, .null, .null, .int (0), .null, .null, .null, .int (0), .int (0), .int (0), .int (0), .int (0)] := h
  show jl_E l G m_Mo_init (13, 1380) 110 [some (.ref 22), none] [] σ2 P
  refine er_aload_n d_Mo_init_110 rfl ?_
  refine er_bipush (nI 48) d_Mo_init_111 (by decide) ?_
  refine im_I (j := 13) (N := 48) h rfl d_Mo_init_113 d_Mo_init_115 p_Mo_init_50 (by decide) (by decide) (by decide) (Nat.le_of_ble_eq_true rfl) jl_fit_arr (fun σ2 h => ?_)
  replace h : IM σ σ2 14 [.int (0), .ref 23, .ref 24, .ref 25, .ref 26, .ref 27, .ref 28, .ref 29, .ref 30, .ref 31, .ref 32, .ref 33, .ref 34, .ref 35, .ref 36, .null, .int (0), .int (0), .int (0), .null, .null, .null, .null, .int (0), .null, .null, .null, .null, .null, .null, .null, .null, .int (0), .null, .null, .null, .int (0), .int (0), .int (0), .int (0), .int (0)] := h
  show jl_E l G m_Mo_init (14, 1428) 118 [some (.ref 22), none] [] σ2 P
  refine er_aload_n d_Mo_init_118 rfl ?_
  refine er_bipush (nI 48) d_Mo_init_119 (by decide) ?_
  refine im_I (j := 14) (N := 48) h rfl d_Mo_init_121 d_Mo_init_123 p_Mo_init_53 (by decide) (by decide) (by decide) (Nat.le_of_ble_eq_true rfl) jl_fit_arr (fun σ2 h => ?_)
  replace h : IM σ σ2 15 [.int (0), .ref 23, .ref 24, .ref 25, .ref 26, .ref 27, .ref 28, .ref 29, .ref 30, .ref 31, .ref 32, .ref 33, .ref 34, .ref 35, .ref 36, .ref 37, .int (0), .int (0), .int (0), .null, .null, .null, .null, .int (0), .null, .null, .null, .null, .null, .null, .null, .null, .int (0), .null, .null, .null, .int (0), .int (0), .int (0), .int (0), .int (0)] := h
  show jl_E l G m_Mo_init (15, 1476) 126 [some (.ref 22), none] [] σ2 P
  refine er_aload_n d_Mo_init_126 rfl ?_
  refine er_iconst (-1) d_Mo_init_127 (by decide) ?_
  refine er_putf d_Mo_init_128 p_Mo_init_56 h.2.1 (Nat.le_of_ble_eq_true rfl) jl_fit_int ?_
  suffices hh : ∀ σ3, IM σ σ3 15 [.int (0), .ref 23, .ref 24, .ref 25, .ref 26, .ref 27, .ref 28, .ref 29, .ref 30, .ref 31, .ref 32, .ref 33, .ref 34, .ref 35, .ref 36, .ref 37, .int (0), .int (-1), .int (0), .null, .null, .null, .null, .int (0), .null, .null, .null, .null, .null, .null, .null, .null, .int (0), .null, .null, .null, .int (0), .int (0), .int (0), .int (0), .int (0)] → jl_E l G m_Mo_init (15, 1476) 131 [some (.ref 22), none] [] σ3 P from hh _ (im_P h)
  clear h
  intro σ2 h
  refine er_aload_n d_Mo_init_131 rfl ?_
  refine er_iconst (-1) d_Mo_init_132 (by decide) ?_
  refine er_putf d_Mo_init_133 p_Mo_init_60 h.2.1 (Nat.le_of_ble_eq_true rfl) jl_fit_int ?_
  suffices hh : ∀ σ3, IM σ σ3 15 [.int (0), .ref 23, .ref 24, .ref 25, .ref 26, .ref 27, .ref 28, .ref 29, .ref 30, .ref 31, .ref 32, .ref 33, .ref 34, .ref 35, .ref 36, .ref 37, .int (0), .int (-1), .int (-1), .null, .null, .null, .null, .int (0), .null, .null, .null, .null, .null, .null, .null, .null, .int (0), .null, .null, .null, .int (0), .int (0), .int (0), .int (0), .int (0)] → jl_E l G m_Mo_init (15, 1476) 136 [some (.ref 22), none] [] σ3 P from hh _ (im_P h)
  clear h
  intro σ2 h
  refine er_aload_n d_Mo_init_136 rfl ?_
  refine er_sipush (nI 6912) d_Mo_init_137 (by decide) ?_
  refine im_I (j := 15) (N := 6912) h rfl d_Mo_init_140 d_Mo_init_142 p_Mo_init_63 (by decide) (by decide) (by decide) (Nat.le_of_ble_eq_true rfl) jl_fit_arr (fun σ2 h => ?_)
  replace h : IM σ σ2 16 [.int (0), .ref 23, .ref 24, .ref 25, .ref 26, .ref 27, .ref 28, .ref 29, .ref 30, .ref 31, .ref 32, .ref 33, .ref 34, .ref 35, .ref 36, .ref 37, .int (0), .int (-1), .int (-1), .ref 38, .null, .null, .null, .int (0), .null, .null, .null, .null, .null, .null, .null, .null, .int (0), .null, .null, .null, .int (0), .int (0), .int (0), .int (0), .int (0)] := h
  show jl_E l G m_Mo_init (16, 8388) 145 [some (.ref 22), none] [] σ2 P
  refine er_aload_n d_Mo_init_145 rfl ?_
  refine er_bipush (nI 24) d_Mo_init_146 (by decide) ?_
  refine im_Z (j := 16) (N := 24) h rfl d_Mo_init_148 d_Mo_init_150 p_Mo_init_66 (by decide) (by decide) (by decide) (Nat.le_of_ble_eq_true rfl) jl_fit_arr (fun σ2 h => ?_)
  replace h : IM σ σ2 17 [.int (0), .ref 23, .ref 24, .ref 25, .ref 26, .ref 27, .ref 28, .ref 29, .ref 30, .ref 31, .ref 32, .ref 33, .ref 34, .ref 35, .ref 36, .ref 37, .int (0), .int (-1), .int (-1), .ref 38, .ref 39, .null, .null, .int (0), .null, .null, .null, .null, .null, .null, .null, .null, .int (0), .null, .null, .null, .int (0), .int (0), .int (0), .int (0), .int (0)] := h
  show jl_E l G m_Mo_init (17, 8412) 153 [some (.ref 22), none] [] σ2 P
  refine er_aload_n d_Mo_init_153 rfl ?_
  refine er_bipush (nI 6) d_Mo_init_154 (by decide) ?_
  refine im_I (j := 17) (N := 6) h rfl d_Mo_init_156 d_Mo_init_158 p_Mo_init_69 (by decide) (by decide) (by decide) (Nat.le_of_ble_eq_true rfl) jl_fit_arr (fun σ2 h => ?_)
  replace h : IM σ σ2 18 [.int (0), .ref 23, .ref 24, .ref 25, .ref 26, .ref 27, .ref 28, .ref 29, .ref 30, .ref 31, .ref 32, .ref 33, .ref 34, .ref 35, .ref 36, .ref 37, .int (0), .int (-1), .int (-1), .ref 38, .ref 39, .ref 40, .null, .int (0), .null, .null, .null, .null, .null, .null, .null, .null, .int (0), .null, .null, .null, .int (0), .int (0), .int (0), .int (0), .int (0)] := h
  show jl_E l G m_Mo_init (18, 8418) 161 [some (.ref 22), none] [] σ2 P
  refine er_aload_n d_Mo_init_161 rfl ?_
  refine er_bipush (nI 8) d_Mo_init_162 (by decide) ?_
  refine im_I (j := 18) (N := 8) h rfl d_Mo_init_164 d_Mo_init_166 p_Mo_init_72 (by decide) (by decide) (by decide) (Nat.le_of_ble_eq_true rfl) jl_fit_arr (fun σ2 h => ?_)
  replace h : IM σ σ2 19 [.int (0), .ref 23, .ref 24, .ref 25, .ref 26, .ref 27, .ref 28, .ref 29, .ref 30, .ref 31, .ref 32, .ref 33, .ref 34, .ref 35, .ref 36, .ref 37, .int (0), .int (-1), .int (-1), .ref 38, .ref 39, .ref 40, .ref 41, .int (0), .null, .null, .null, .null, .null, .null, .null, .null, .int (0), .null, .null, .null, .int (0), .int (0), .int (0), .int (0), .int (0)] := h
  show jl_E l G m_Mo_init (19, 8426) 169 [some (.ref 22), none] [] σ2 P
  refine er_aload_n d_Mo_init_169 rfl ?_
  refine er_bipush (nI 8) d_Mo_init_170 (by decide) ?_
  refine im_I (j := 19) (N := 8) h rfl d_Mo_init_172 d_Mo_init_174 p_Mo_init_75 (by decide) (by decide) (by decide) (Nat.le_of_ble_eq_true rfl) jl_fit_arr (fun σ2 h => ?_)
  replace h : IM σ σ2 20 [.int (0), .ref 23, .ref 24, .ref 25, .ref 26, .ref 27, .ref 28, .ref 29, .ref 30, .ref 31, .ref 32, .ref 33, .ref 34, .ref 35, .ref 36, .ref 37, .int (0), .int (-1), .int (-1), .ref 38, .ref 39, .ref 40, .ref 41, .int (0), .ref 42, .null, .null, .null, .null, .null, .null, .null, .int (0), .null, .null, .null, .int (0), .int (0), .int (0), .int (0), .int (0)] := h
  show jl_E l G m_Mo_init (20, 8434) 177 [some (.ref 22), none] [] σ2 P
  refine er_aload_n d_Mo_init_177 rfl ?_
  refine er_bipush (nI 13) d_Mo_init_178 (by decide) ?_
  refine im_I (j := 20) (N := 13) h rfl d_Mo_init_180 d_Mo_init_182 p_Mo_init_78 (by decide) (by decide) (by decide) (Nat.le_of_ble_eq_true rfl) jl_fit_arr (fun σ2 h => ?_)
  replace h : IM σ σ2 21 [.int (0), .ref 23, .ref 24, .ref 25, .ref 26, .ref 27, .ref 28, .ref 29, .ref 30, .ref 31, .ref 32, .ref 33, .ref 34, .ref 35, .ref 36, .ref 37, .int (0), .int (-1), .int (-1), .ref 38, .ref 39, .ref 40, .ref 41, .int (0), .ref 42, .ref 43, .null, .null, .null, .null, .null, .null, .int (0), .null, .null, .null, .int (0), .int (0), .int (0), .int (0), .int (0)] := h
  show jl_E l G m_Mo_init (21, 8447) 185 [some (.ref 22), none] [] σ2 P
  refine er_aload_n d_Mo_init_185 rfl ?_
  refine er_bipush (nI 13) d_Mo_init_186 (by decide) ?_
  refine im_I (j := 21) (N := 13) h rfl d_Mo_init_188 d_Mo_init_190 p_Mo_init_81 (by decide) (by decide) (by decide) (Nat.le_of_ble_eq_true rfl) jl_fit_arr (fun σ2 h => ?_)
  replace h : IM σ σ2 22 [.int (0), .ref 23, .ref 24, .ref 25, .ref 26, .ref 27, .ref 28, .ref 29, .ref 30, .ref 31, .ref 32, .ref 33, .ref 34, .ref 35, .ref 36, .ref 37, .int (0), .int (-1), .int (-1), .ref 38, .ref 39, .ref 40, .ref 41, .int (0), .ref 42, .ref 43, .ref 44, .null, .null, .null, .null, .null, .int (0), .null, .null, .null, .int (0), .int (0), .int (0), .int (0), .int (0)] := h
  show jl_E l G m_Mo_init (22, 8460) 193 [some (.ref 22), none] [] σ2 P
  refine er_aload_n d_Mo_init_193 rfl ?_
  refine er_bipush (nI 13) d_Mo_init_194 (by decide) ?_
  refine im_I (j := 22) (N := 13) h rfl d_Mo_init_196 d_Mo_init_198 p_Mo_init_84 (by decide) (by decide) (by decide) (Nat.le_of_ble_eq_true rfl) jl_fit_arr (fun σ2 h => ?_)
  replace h : IM σ σ2 23 [.int (0), .ref 23, .ref 24, .ref 25, .ref 26, .ref 27, .ref 28, .ref 29, .ref 30, .ref 31, .ref 32, .ref 33, .ref 34, .ref 35, .ref 36, .ref 37, .int (0), .int (-1), .int (-1), .ref 38, .ref 39, .ref 40, .ref 41, .int (0), .ref 42, .ref 43, .ref 44, .ref 45, .null, .null, .null, .null, .int (0), .null, .null, .null, .int (0), .int (0), .int (0), .int (0), .int (0)] := h
  show jl_E l G m_Mo_init (23, 8473) 201 [some (.ref 22), none] [] σ2 P
  refine er_aload_n d_Mo_init_201 rfl ?_
  refine er_bipush (nI 78) d_Mo_init_202 (by decide) ?_
  refine im_I (j := 23) (N := 78) h rfl d_Mo_init_204 d_Mo_init_206 p_Mo_init_87 (by decide) (by decide) (by decide) (Nat.le_of_ble_eq_true rfl) jl_fit_arr (fun σ2 h => ?_)
  replace h : IM σ σ2 24 [.int (0), .ref 23, .ref 24, .ref 25, .ref 26, .ref 27, .ref 28, .ref 29, .ref 30, .ref 31, .ref 32, .ref 33, .ref 34, .ref 35, .ref 36, .ref 37, .int (0), .int (-1), .int (-1), .ref 38, .ref 39, .ref 40, .ref 41, .int (0), .ref 42, .ref 43, .ref 44, .ref 45, .ref 46, .null, .null, .null, .int (0), .null, .null, .null, .int (0), .int (0), .int (0), .int (0), .int (0)] := h
  show jl_E l G m_Mo_init (24, 8551) 209 [some (.ref 22), none] [] σ2 P
  refine er_aload_n d_Mo_init_209 rfl ?_
  refine er_bipush (nI 78) d_Mo_init_210 (by decide) ?_
  refine im_I (j := 24) (N := 78) h rfl d_Mo_init_212 d_Mo_init_214 p_Mo_init_90 (by decide) (by decide) (by decide) (Nat.le_of_ble_eq_true rfl) jl_fit_arr (fun σ2 h => ?_)
  replace h : IM σ σ2 25 [.int (0), .ref 23, .ref 24, .ref 25, .ref 26, .ref 27, .ref 28, .ref 29, .ref 30, .ref 31, .ref 32, .ref 33, .ref 34, .ref 35, .ref 36, .ref 37, .int (0), .int (-1), .int (-1), .ref 38, .ref 39, .ref 40, .ref 41, .int (0), .ref 42, .ref 43, .ref 44, .ref 45, .ref 46, .ref 47, .null, .null, .int (0), .null, .null, .null, .int (0), .int (0), .int (0), .int (0), .int (0)] := h
  show jl_E l G m_Mo_init (25, 8629) 217 [some (.ref 22), none] [] σ2 P
  refine er_aload_n d_Mo_init_217 rfl ?_
  refine er_bipush (nI 65) d_Mo_init_218 (by decide) ?_
  refine im_I (j := 25) (N := 65) h rfl d_Mo_init_220 d_Mo_init_222 p_Mo_init_93 (by decide) (by decide) (by decide) (Nat.le_of_ble_eq_true rfl) jl_fit_arr (fun σ2 h => ?_)
  replace h : IM σ σ2 26 [.int (0), .ref 23, .ref 24, .ref 25, .ref 26, .ref 27, .ref 28, .ref 29, .ref 30, .ref 31, .ref 32, .ref 33, .ref 34, .ref 35, .ref 36, .ref 37, .int (0), .int (-1), .int (-1), .ref 38, .ref 39, .ref 40, .ref 41, .int (0), .ref 42, .ref 43, .ref 44, .ref 45, .ref 46, .ref 47, .ref 48, .null, .int (0), .null, .null, .null, .int (0), .int (0), .int (0), .int (0), .int (0)] := h
  show jl_E l G m_Mo_init (26, 8694) 225 [some (.ref 22), none] [] σ2 P
  refine er_aload_n d_Mo_init_225 rfl ?_
  refine er_bipush (nI 65) d_Mo_init_226 (by decide) ?_
  refine im_I (j := 26) (N := 65) h rfl d_Mo_init_228 d_Mo_init_230 p_Mo_init_96 (by decide) (by decide) (by decide) (Nat.le_of_ble_eq_true rfl) jl_fit_arr (fun σ2 h => ?_)
  replace h : IM σ σ2 27 [.int (0), .ref 23, .ref 24, .ref 25, .ref 26, .ref 27, .ref 28, .ref 29, .ref 30, .ref 31, .ref 32, .ref 33, .ref 34, .ref 35, .ref 36, .ref 37, .int (0), .int (-1), .int (-1), .ref 38, .ref 39, .ref 40, .ref 41, .int (0), .ref 42, .ref 43, .ref 44, .ref 45, .ref 46, .ref 47, .ref 48, .ref 49, .int (0), .null, .null, .null, .int (0), .int (0), .int (0), .int (0), .int (0)] := h
  show jl_E l G m_Mo_init (27, 8759) 233 [some (.ref 22), none] [] σ2 P
  refine er_aload_n d_Mo_init_233 rfl ?_
  refine er_bipush (nI 41) d_Mo_init_234 (by decide) ?_
  refine im_I (j := 27) (N := 41) h rfl d_Mo_init_236 d_Mo_init_238 p_Mo_init_99 (by decide) (by decide) (by decide) (Nat.le_of_ble_eq_true rfl) jl_fit_arr (fun σ2 h => ?_)
  replace h : IM σ σ2 28 [.int (0), .ref 23, .ref 24, .ref 25, .ref 26, .ref 27, .ref 28, .ref 29, .ref 30, .ref 31, .ref 32, .ref 33, .ref 34, .ref 35, .ref 36, .ref 37, .int (0), .int (-1), .int (-1), .ref 38, .ref 39, .ref 40, .ref 41, .int (0), .ref 42, .ref 43, .ref 44, .ref 45, .ref 46, .ref 47, .ref 48, .ref 49, .int (0), .ref 50, .null, .null, .int (0), .int (0), .int (0), .int (0), .int (0)] := h
  show jl_E l G m_Mo_init (28, 8800) 241 [some (.ref 22), none] [] σ2 P
  refine er_aload_n d_Mo_init_241 rfl ?_
  refine er_bipush (nI 41) d_Mo_init_242 (by decide) ?_
  refine im_I (j := 28) (N := 41) h rfl d_Mo_init_244 d_Mo_init_246 p_Mo_init_102 (by decide) (by decide) (by decide) (Nat.le_of_ble_eq_true rfl) jl_fit_arr (fun σ2 h => ?_)
  replace h : IM σ σ2 29 [.int (0), .ref 23, .ref 24, .ref 25, .ref 26, .ref 27, .ref 28, .ref 29, .ref 30, .ref 31, .ref 32, .ref 33, .ref 34, .ref 35, .ref 36, .ref 37, .int (0), .int (-1), .int (-1), .ref 38, .ref 39, .ref 40, .ref 41, .int (0), .ref 42, .ref 43, .ref 44, .ref 45, .ref 46, .ref 47, .ref 48, .ref 49, .int (0), .ref 50, .ref 51, .null, .int (0), .int (0), .int (0), .int (0), .int (0)] := h
  show jl_E l G m_Mo_init (29, 8841) 249 [some (.ref 22), none] [] σ2 P
  refine er_aload_n d_Mo_init_249 rfl ?_
  refine er_sipush (nI 738) d_Mo_init_250 (by decide) ?_
  refine im_I (j := 29) (N := 738) h rfl d_Mo_init_253 d_Mo_init_255 p_Mo_init_105 (by decide) (by decide) (by decide) (Nat.le_of_ble_eq_true rfl) jl_fit_arr (fun σ2 h => ?_)
  replace h : IM σ σ2 30 [.int (0), .ref 23, .ref 24, .ref 25, .ref 26, .ref 27, .ref 28, .ref 29, .ref 30, .ref 31, .ref 32, .ref 33, .ref 34, .ref 35, .ref 36, .ref 37, .int (0), .int (-1), .int (-1), .ref 38, .ref 39, .ref 40, .ref 41, .int (0), .ref 42, .ref 43, .ref 44, .ref 45, .ref 46, .ref 47, .ref 48, .ref 49, .int (0), .ref 50, .ref 51, .ref 52, .int (0), .int (0), .int (0), .int (0), .int (0)] := h
  show jl_E l G m_Mo_init (30, 9579) 258 [some (.ref 22), none] [] σ2 P
  refine er_iconst (nI 0) d_Mo_init_258 (by decide) ?_
  refine er_istore_n d_Mo_init_259 (by decide) ?_
  show jl_E l G m_Mo_init (30, 9579) 260 [some (.ref 22), some (.int (nI 0))] [] σ2 P
  refine mo_il1 (σ1 := σ2) hl (fun f' σ3 hO h38 hf2 hL3 hf3 => ?_) 6913 0 σ2 (fun _ => 0) (by omega) (by omega) (show MoO σ2 0 0 (-1) (-1) 0 0 0 0 0 0 0 from h.2.1) (h.2.2.2 15 (by decide)) rfl (fun _ _ => rfl) (fun j hj => absurd hj (Nat.not_lt_zero _))
  refine er_iconst (nI 0) d_Mo_init_281 (by decide) ?_
  refine er_istore_n d_Mo_init_282 (by decide) ?_
  show jl_E l G m_Mo_init (30, 9579) 283 [some (.ref 22), some (.int (nI 0))] [] σ3 P
  refine mo_il2 (σ1 := σ3) hl (fun σ4 hO4 h24 hL4 hf4 => ?_) 7 0 σ3 (fun _ => some 0) (by omega) (by omega) hO ((hf3 24 (by decide)).trans (h.2.2.2 1 (by decide))) rfl (fun _ _ => rfl) (fun j => by rw [if_neg (Nat.not_lt_zero _)])
  refine er_aload_n d_Mo_init_302 rfl ?_
  refine er_iconst (-1) d_Mo_init_303 (by decide) ?_
  refine er_putf d_Mo_init_304 p_Mo_init_108 hO4 (Nat.le_of_ble_eq_true rfl) jl_fit_int ?_
  refine er_vret d_Mo_init_307 rfl (hT _ ?_ (jl_ss hO4) (jl_sn (by decide) h24) ⟨f', ?_, hf2⟩ ?_ ?_) (by decide) (by decide)
  · rw [List.length_set, hL4, hL3, h.1]
  · rw [List.getElem?_set_ne (by decide), hf4 38 (by decide)]; exact h38
  · intro i hi; rw [List.getElem?_set_ne (by omega), hf4 i (by omega), hf3 i (by omega)]; exact h.2.2.1 i hi
  · intro i hi h1 h2; rw [List.getElem?_set_ne (by omega), hf4 (23 + i) (by omega), hf3 (23 + i) (by omega)]; exact h.2.2.2 i hi
end JNzl
