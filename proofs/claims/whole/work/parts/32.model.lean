/-! the model, on (wip/gen/p32.py) -/
section JMq
variable {l : Launch} {G : jl_G} {σ : jl_S} {tb : Nat → Bool} {pr : Nat → Option Nat} {ow fi ft : Nat → Nat} {hs : Nat → Bool} {fa vf wh wy hg dp md ov oh dn an : Int32}
theorem MoO.sx {a : Nat} {c : jl_C} (h : MoO σ fa vf wh wy hg dp md ov oh dn an) (ha : a ≠ 22) : MoO (σ.set a c) fa vf wh wy hg dp md ov oh dn an := jl_sn ha h
theorem MoO.s {fa' vf' wh' wy' hg' dp' md' ov' oh' dn' an' : Int32} (h : MoO σ fa vf wh wy hg dp md ov oh dn an) : MoO (σ.set 22 (.inr (7, MoF fa' vf' wh' wy' hg' dp' md' ov' oh' dn' an'))) fa' vf' wh' wy' hg' dp' md' ov' oh' dn' an' := jl_ss h
theorem MoW.s23 {tb' : Nat → Bool} (h : MoW σ tb pr ow ft hs) : MoW (σ.set 23 (.inl (1, 6, .inl fun j => bi (tb' j)))) tb' pr ow ft hs := ⟨jl_ss (h.1), jl_sn (by decide) (h.2.1), jl_sn (by decide) (h.2.2.1), jl_sn (by decide) (h.2.2.2.1), jl_sn (by decide) (h.2.2.2.2)⟩
theorem MoW.s24 {pr' : Nat → Option Nat} (h : MoW σ tb pr ow ft hs) : MoW (σ.set 24 (.inl (0, 6, .inl fun j => en (pr' j)))) tb pr' ow ft hs := ⟨jl_sn (by decide) (h.1), jl_ss (h.2.1), jl_sn (by decide) (h.2.2.1), jl_sn (by decide) (h.2.2.2.1), jl_sn (by decide) (h.2.2.2.2)⟩
theorem MoW.s25 {ow' : Nat → Nat} (h : MoW σ tb pr ow ft hs) : MoW (σ.set 25 (.inl (0, 6, .inl fun j => nI (ow' j)))) tb pr ow' ft hs := ⟨jl_sn (by decide) (h.1), jl_sn (by decide) (h.2.1), jl_ss (h.2.2.1), jl_sn (by decide) (h.2.2.2.1), jl_sn (by decide) (h.2.2.2.2)⟩
theorem MoW.s26 {ft' : Nat → Nat} (h : MoW σ tb pr ow ft hs) : MoW (σ.set 26 (.inl (0, 18, .inl fun j => nI (ft' j)))) tb pr ow ft' hs := ⟨jl_sn (by decide) (h.1), jl_sn (by decide) (h.2.1), jl_sn (by decide) (h.2.2.1), jl_ss (h.2.2.2.1), jl_sn (by decide) (h.2.2.2.2)⟩
theorem MoW.s27 {hs' : Nat → Bool} (h : MoW σ tb pr ow ft hs) : MoW (σ.set 27 (.inl (1, 24, .inl fun j => bi (hs' j)))) tb pr ow ft hs' := ⟨jl_sn (by decide) (h.1), jl_sn (by decide) (h.2.1), jl_sn (by decide) (h.2.2.1), jl_sn (by decide) (h.2.2.2.1), jl_ss (h.2.2.2.2)⟩
theorem MoW.sx {a : Nat} {d : jl_C} (h : MoW σ tb pr ow ft hs) (ha : a < 23 ∨ 27 < a) : MoW (σ.set a d) tb pr ow ft hs := ⟨jl_sn (by omega) (h.1), jl_sn (by omega) (h.2.1), jl_sn (by omega) (h.2.2.1), jl_sn (by omega) (h.2.2.2.1), jl_sn (by omega) (h.2.2.2.2)⟩
theorem nI_back (y b c : Nat) : nI (y + b) - nI (b + c) + nI c = nI y := by
  rw [← nI_add, ← nI_add]
  grind
def jmp (o : Nat) : Bool := decide (7 ≤ o ∧ o ≤ 9 ∨ o = 16)
def fal (o : Nat) : Bool := decide (o ≠ 7 ∧ o ≠ 17 ∧ o ≠ 18)
def isR (t : Nat) : Bool := decide (t = 1 ∨ t = 2 ∨ 10 ≤ t)
def pts (o : Nat) : Nat := if o = 24 then 2 else if o = 2 ∨ 7 ≤ o ∧ o ≤ 9 ∨ o = 13 ∨ 16 ≤ o ∧ o ≤ 18 ∨ o = 21 ∨ o = 23 then 0 else 1
def miss (tb : Nat → Bool) (x : Option Nat) : Bool := !tyOk tb x
theorem d_Mo_typeOfField_2 : decode m_Mo_typeOfField.2.1 2 = .ok (.iload_n 2, 1) := by decide +kernel
theorem d_Mo_typeOfField_3 : decode m_Mo_typeOfField.2.1 3 = .ok (.aload_n 0, 1) := by decide +kernel
theorem d_Mo_typeOfField_4 : decode m_Mo_typeOfField.2.1 4 = .ok (.iload_n 3, 1) := by decide +kernel
theorem k_Mo_typeOfField_126 : jl_cv m_Mo_typeOfField m_Mo_fieldsOf 126 1 = true := by decide +kernel
theorem d_Mo_typeOfField_5 : decode m_Mo_typeOfField.2.1 5 = .ok (.invokevirtual 126, 3) := by decide +kernel
theorem d_Mo_typeOfField_8 : decode m_Mo_typeOfField.2.1 8 = .ok (.aload_n 0, 1) := by decide +kernel
theorem f_Mo_typeOfField_17 : jl_fd m_Mo_typeOfField 17 7 3 = true := by decide +kernel
theorem d_Mo_typeOfField_9 : decode m_Mo_typeOfField.2.1 9 = .ok (.getfield 17, 3) := by decide +kernel
theorem d_Mo_typeOfField_12 : decode m_Mo_typeOfField.2.1 12 = .ok (.iload_n 3, 1) := by decide +kernel
theorem d_Mo_typeOfField_13 : decode m_Mo_typeOfField.2.1 13 = .ok (.iaload, 1) := by decide +kernel
theorem d_Mo_typeOfField_14 : decode m_Mo_typeOfField.2.1 14 = .ok (.isub, 1) := by decide +kernel
theorem d_Mo_typeOfField_15 : decode m_Mo_typeOfField.2.1 15 = .ok (.if_icmp .ge 13, 3) := by decide +kernel
theorem d_Mo_typeOfField_28 : decode m_Mo_typeOfField.2.1 28 = .ok (.aload_n 0, 1) := by decide +kernel
theorem f_Mo_typeOfField_20 : jl_fd m_Mo_typeOfField 20 7 4 = true := by decide +kernel
theorem d_Mo_typeOfField_29 : decode m_Mo_typeOfField.2.1 29 = .ok (.getfield 20, 3) := by decide +kernel
theorem d_Mo_typeOfField_32 : decode m_Mo_typeOfField.2.1 32 = .ok (.iconst 3, 1) := by decide +kernel
theorem d_Mo_typeOfField_33 : decode m_Mo_typeOfField.2.1 33 = .ok (.iload_n 3, 1) := by decide +kernel
theorem d_Mo_typeOfField_34 : decode m_Mo_typeOfField.2.1 34 = .ok (.imul, 1) := by decide +kernel
theorem d_Mo_typeOfField_35 : decode m_Mo_typeOfField.2.1 35 = .ok (.iload_n 2, 1) := by decide +kernel
theorem d_Mo_typeOfField_36 : decode m_Mo_typeOfField.2.1 36 = .ok (.iadd, 1) := by decide +kernel
theorem d_Mo_typeOfField_37 : decode m_Mo_typeOfField.2.1 37 = .ok (.aload_n 0, 1) := by decide +kernel
theorem d_Mo_typeOfField_38 : decode m_Mo_typeOfField.2.1 38 = .ok (.iload_n 3, 1) := by decide +kernel
theorem d_Mo_typeOfField_39 : decode m_Mo_typeOfField.2.1 39 = .ok (.invokevirtual 126, 3) := by decide +kernel
theorem d_Mo_typeOfField_42 : decode m_Mo_typeOfField.2.1 42 = .ok (.isub, 1) := by decide +kernel
theorem d_Mo_typeOfField_43 : decode m_Mo_typeOfField.2.1 43 = .ok (.aload_n 0, 1) := by decide +kernel
theorem d_Mo_typeOfField_44 : decode m_Mo_typeOfField.2.1 44 = .ok (.getfield 17, 3) := by decide +kernel
theorem d_Mo_typeOfField_47 : decode m_Mo_typeOfField.2.1 47 = .ok (.iload_n 3, 1) := by decide +kernel
theorem d_Mo_typeOfField_48 : decode m_Mo_typeOfField.2.1 48 = .ok (.iaload, 1) := by decide +kernel
theorem d_Mo_typeOfField_49 : decode m_Mo_typeOfField.2.1 49 = .ok (.iadd, 1) := by decide +kernel
theorem d_Mo_typeOfField_50 : decode m_Mo_typeOfField.2.1 50 = .ok (.iaload, 1) := by decide +kernel
theorem d_Mo_typeOfField_51 : decode m_Mo_typeOfField.2.1 51 = .ok (.ireturn, 1) := by decide +kernel
theorem d_Mo_typeOfField_18 : decode m_Mo_typeOfField.2.1 18 = .ok (.aload_n 0, 1) := by decide +kernel
theorem f_Mo_typeOfField_13 : jl_fd m_Mo_typeOfField 13 7 2 = true := by decide +kernel
theorem d_Mo_typeOfField_19 : decode m_Mo_typeOfField.2.1 19 = .ok (.getfield 13, 3) := by decide +kernel
theorem d_Mo_typeOfField_22 : decode m_Mo_typeOfField.2.1 22 = .ok (.iload_n 3, 1) := by decide +kernel
theorem d_Mo_typeOfField_23 : decode m_Mo_typeOfField.2.1 23 = .ok (.iaload, 1) := by decide +kernel
theorem d_Mo_typeOfField_24 : decode m_Mo_typeOfField.2.1 24 = .ok (.istore_n 3, 1) := by decide +kernel
theorem d_Mo_typeOfField_25 : decode m_Mo_typeOfField.2.1 25 = .ok (.goto (-23), 3) := by decide +kernel
theorem fi3 {tb : Nat → Bool} {pr : Nat → Option Nat} {ow fi : Nat → Nat} (h : WoOk tb pr ow fi) : ∀ o, o < 6 → fi o ≤ o * 3 := by
  intro o
  induction o using Nat.strongRecOn with
  | _ o ih =>
    intro ho
    cases hp : pr o with
    | none => rw [h.2.2.2.2.1 o ho hp]; exact Nat.zero_le _
    | some p =>
      obtain ⟨h1, h2, -⟩ := h.2.2.2.1 o ho p hp
      have h3 := ih p h1 (by omega)
      have h4 := h.2.1 p (by omega)
      omega
theorem mo_tf_loop (hl : l.stackTraces = false) {k f : Nat} (hO : MoO σ fa vf wh wy hg dp md ov oh dn an) (hw : MoW σ tb pr ow ft hs) (hok : WoOk tb pr ow fi) : ∀ (nn : Nat) (i o : Nat), 6 - i < nn → o + i ≤ 5 → f < fi o + ow o → jl_W l G m_Mo_typeOfField (0, 0) 2 [some (.ref 22), some (.int (nI k)), some (.int (nI f)), some (.int (nI o))] [] σ (.inl (some (.int (nI (ft (fow pr fi f (6 - i) o * 3 + f - fi (fow pr fi f (6 - i) o))))))) (σ) := by
  obtain ⟨h23, h24, h25, h26, h27⟩ := id hw
  have hst : ∀ o, o < 6 → f < fi o → ∃ p, pr o = some p ∧ p < o ∧ fi o = fi p + ow p := fun o ho hf => by
    cases hp : pr o with
    | none => exact absurd hf (by rw [hok.2.2.2.2.1 o ho hp]; exact Nat.not_lt_zero _)
    | some p => exact ⟨p, rfl, (hok.2.2.2.1 o ho p hp).1, (hok.2.2.2.1 o ho p hp).2.1⟩
  have h3 : ∀ o, o < 6 → fi o ≤ o * 3 := fi3 hok
  intro nn
  induction nn with
  | zero => intro i o hnn; exact absurd hnn (Nat.not_lt_zero _)
  | succ nn ihn =>
    intro i o hnn hi hf
    have ho : o < 6 := by omega
    have how := hok.2.1 o ho
    have hfi := hok.2.2.1 o ho
    have hf3 := h3 o ho
    refine jr_iload_n d_Mo_typeOfField_2 rfl ?_
    refine jr_aload_n d_Mo_typeOfField_3 rfl ?_
    refine jr_iload_n d_Mo_typeOfField_4 rfl ?_
    refine jr_callV (As := [.int (nI o)]) d_Mo_typeOfField_5 k_Mo_typeOfField_126 hO rfl rfl rfl (Nat.le_of_ble_eq_true rfl) (by decide) (by decide) (mo_fields (x := some o) hl hO hw hok (fun z hz => by cases hz; exact ho)) ?_
    show jl_W l G m_Mo_typeOfField (0, 0) 8 [some (.ref 22), some (.int (nI k)), some (.int (nI f)), some (.int (nI o))] [.int (nI (fi o + ow o)), .int (nI f)] (σ) (.inl (some (.int (nI (ft (fow pr fi f (6 - i) o * 3 + f - fi (fow pr fi f (6 - i) o))))))) (σ)
    refine jr_aload_n d_Mo_typeOfField_8 rfl ?_
    refine jr_getf d_Mo_typeOfField_9 f_Mo_typeOfField_17 hO rfl ?_
    refine jr_iload_n d_Mo_typeOfField_12 rfl ?_
    refine jr_ialdN d_Mo_typeOfField_13 h25 (by omega) (by omega) ?_
    refine jr_isubN d_Mo_typeOfField_14 (by omega) ?_
    refine jr_icmp_geN 28 d_Mo_typeOfField_15 (by decide) (by omega) (by omega) (fun c1 => ?_) (fun c1 => ?_)
    · refine jr_aload_n d_Mo_typeOfField_28 rfl ?_
      refine jr_getf d_Mo_typeOfField_29 f_Mo_typeOfField_20 hO rfl ?_
      refine jr_iconst ((nI (3))) d_Mo_typeOfField_32 (by decide) ?_
      refine jr_iload_n d_Mo_typeOfField_33 rfl ?_
      refine jr_imulN d_Mo_typeOfField_34 ?_
      refine jr_iload_n d_Mo_typeOfField_35 rfl ?_
      refine jr_iaddN d_Mo_typeOfField_36 ?_
      refine jr_aload_n d_Mo_typeOfField_37 rfl ?_
      refine jr_iload_n d_Mo_typeOfField_38 rfl ?_
      refine jr_callV (As := [.int (nI o)]) d_Mo_typeOfField_39 k_Mo_typeOfField_126 hO rfl rfl rfl (Nat.le_of_ble_eq_true rfl) (by decide) (by decide) (mo_fields (x := some o) hl hO hw hok (fun z hz => by cases hz; exact ho)) ?_
      show jl_W l G m_Mo_typeOfField (0, 0) 42 [some (.ref 22), some (.int (nI k)), some (.int (nI f)), some (.int (nI o))] [.int (nI (fi o + ow o)), .int (nI (((3) * (o)) + (f))), .ref 26] (σ) (.inl (some (.int (nI (ft (fow pr fi f (6 - i) o * 3 + f - fi (fow pr fi f (6 - i) o))))))) (σ)
      refine jr_isub d_Mo_typeOfField_42 ?_
      refine jr_aload_n d_Mo_typeOfField_43 rfl ?_
      refine jr_getf d_Mo_typeOfField_44 f_Mo_typeOfField_17 hO rfl ?_
      refine jr_iload_n d_Mo_typeOfField_47 rfl ?_
      refine jr_ialdN d_Mo_typeOfField_48 h25 (by omega) (by omega) ?_
      refine jr_iadd d_Mo_typeOfField_49 ?_
      rw [show (((nI (((3) * (o)) + (f))) - (nI (fi o + ow o))) + (nI (ow (o)))) = nI (o * 3 + f - fi o) by have q := nI_back (o * 3 + f - fi o) (fi o) (ow o); rw [show o * 3 + f - fi o + fi o = 3 * o + f by omega] at q; exact q]
      show jl_W l G m_Mo_typeOfField (0, 0) 50 [some (.ref 22), some (.int (nI k)), some (.int (nI f)), some (.int (nI o))] [.int (nI (o * 3 + f - fi o)), .ref 26] (σ) (.inl (some (.int (nI (ft (fow pr fi f (6 - i) o * 3 + f - fi (fow pr fi f (6 - i) o))))))) (σ)
      refine jr_ialdN d_Mo_typeOfField_50 h26 (by omega) (by omega) ?_
      exact jr_iretE d_Mo_typeOfField_51 rfl (by rw [show 6 - i = (6 - (i + 1)) + 1 by omega]; simp only [fow]; rw [if_neg (by omega)]) (rfl) (by decide) (by decide)
    · refine jr_aload_n d_Mo_typeOfField_18 rfl ?_
      refine jr_getf d_Mo_typeOfField_19 f_Mo_typeOfField_13 hO rfl ?_
      refine jr_iload_n d_Mo_typeOfField_22 rfl ?_
      refine jr_ialdN d_Mo_typeOfField_23 h24 (by omega) (by omega) ?_
      obtain ⟨p, hp, hp1, hp2⟩ := hst o ho (by omega)
      rw [hp]
      show jl_W l G m_Mo_typeOfField (0, 0) 24 [some (.ref 22), some (.int (nI k)), some (.int (nI f)), some (.int (nI o))] [.int (nI p)] (σ) (.inl (some (.int (nI (ft (fow pr fi f (6 - i) o * 3 + f - fi (fow pr fi f (6 - i) o))))))) (σ)
      refine jr_istore_n d_Mo_typeOfField_24 (by decide) ?_
      show jl_W l G m_Mo_typeOfField (0, 0) 25 [some (.ref 22), some (.int (nI k)), some (.int (nI f)), some (.int (nI p))] [] (σ) (.inl (some (.int (nI (ft (fow pr fi f (6 - i) o * 3 + f - fi (fow pr fi f (6 - i) o))))))) (σ)
      refine jr_goto 2 d_Mo_typeOfField_25 (by decide) ?_
      exact jl_oeq (by rw [show 6 - i = (6 - (i + 1)) + 1 by omega]; simp only [fow]; rw [if_pos (by omega), hp]) (ihn (i + 1) p (by omega) (by omega) (by omega))

theorem d_Mo_typeOfField_0 : decode m_Mo_typeOfField.2.1 0 = .ok (.iload_n 1, 1) := by decide +kernel
theorem d_Mo_typeOfField_1 : decode m_Mo_typeOfField.2.1 1 = .ok (.istore_n 3, 1) := by decide +kernel
theorem mo_tf (hl : l.stackTraces = false) {k f : Nat} (hO : MoO σ fa vf wh wy hg dp md ov oh dn an) (hw : MoW σ tb pr ow ft hs) (hok : WoOk tb pr ow fi) (hk : k < 6) (hf : f < fi k + ow k) : jl_m l G m_Mo_typeOfField [.ref 22, .int (nI k), .int (nI f)] σ (.inl (some (.int (nI (fty pr fi ft k f))))) (σ) := by
  obtain ⟨h23, h24, h25, h26, h27⟩ := id hw
  refine jl_of (as := [.ref 22, .int (nI k), .int (nI f)]) rfl (by decide) hl (jl_cc rfl (jl_cc rfl (jl_cc rfl jl_ca))) (Nat.le_of_ble_eq_true rfl) ?_
  show jl_W l G m_Mo_typeOfField (0, 0) 0 [some (.ref 22), some (.int (nI k)), some (.int (nI f)), none] [] (σ) (.inl (some (.int (nI (fty pr fi ft k f))))) (σ)
  refine jr_iload_n d_Mo_typeOfField_0 rfl ?_
  refine jr_istore_n d_Mo_typeOfField_1 (by decide) ?_
  show jl_W l G m_Mo_typeOfField (0, 0) 2 [some (.ref 22), some (.int (nI k)), some (.int (nI f)), some (.int (nI k))] [] (σ) (.inl (some (.int (nI (fty pr fi ft k f))))) (σ)
  exact mo_tf_loop hl hO hw hok 7 0 k (by omega) (by omega) hf
theorem d_Mo_jumps_0 : decode m_Mo_jumps.2.1 0 = .ok (.iload_n 1, 1) := by decide +kernel
theorem d_Mo_jumps_1 : decode m_Mo_jumps.2.1 1 = .ok (.bipush 7, 2) := by decide +kernel
theorem d_Mo_jumps_3 : decode m_Mo_jumps.2.1 3 = .ok (.if_icmp .lt 9, 3) := by decide +kernel
theorem d_Mo_jumps_12 : decode m_Mo_jumps.2.1 12 = .ok (.iload_n 1, 1) := by decide +kernel
theorem d_Mo_jumps_13 : decode m_Mo_jumps.2.1 13 = .ok (.bipush 16, 2) := by decide +kernel
theorem d_Mo_jumps_15 : decode m_Mo_jumps.2.1 15 = .ok (.if_icmp .ne 7, 3) := by decide +kernel
theorem d_Mo_jumps_22 : decode m_Mo_jumps.2.1 22 = .ok (.iconst 0, 1) := by decide +kernel
theorem d_Mo_jumps_23 : decode m_Mo_jumps.2.1 23 = .ok (.ireturn, 1) := by decide +kernel
theorem d_Mo_jumps_18 : decode m_Mo_jumps.2.1 18 = .ok (.iconst 1, 1) := by decide +kernel
theorem d_Mo_jumps_19 : decode m_Mo_jumps.2.1 19 = .ok (.goto 4, 3) := by decide +kernel
theorem d_Mo_jumps_6 : decode m_Mo_jumps.2.1 6 = .ok (.iload_n 1, 1) := by decide +kernel
theorem d_Mo_jumps_7 : decode m_Mo_jumps.2.1 7 = .ok (.bipush 9, 2) := by decide +kernel
theorem d_Mo_jumps_9 : decode m_Mo_jumps.2.1 9 = .ok (.if_icmp .le 9, 3) := by decide +kernel
theorem mo_jumps (hl : l.stackTraces = false) {o : Nat} (hO : MoO σ fa vf wh wy hg dp md ov oh dn an) (hw : MoW σ tb pr ow ft hs) (ho : o < 26) : jl_m l G m_Mo_jumps [.ref 22, .int (nI o)] σ (.inl (some (.int (bi (jmp o))))) (σ) := by
  obtain ⟨h23, h24, h25, h26, h27⟩ := id hw
  refine jl_of (as := [.ref 22, .int (nI o)]) rfl (by decide) hl (jl_cc rfl (jl_cc rfl jl_ca)) (Nat.le_of_ble_eq_true rfl) ?_
  show jl_W l G m_Mo_jumps (0, 0) 0 [some (.ref 22), some (.int (nI o))] [] (σ) (.inl (some (.int (bi (jmp o))))) (σ)
  refine jr_iload_n d_Mo_jumps_0 rfl ?_
  refine jr_bipush ((nI (7))) d_Mo_jumps_1 (by decide) ?_
  refine jr_icmp_ltN 12 d_Mo_jumps_3 (by decide) (by omega) (by omega) (fun c1 => ?_) (fun c1 => ?_)
  · refine jr_iload_n d_Mo_jumps_12 rfl ?_
    refine jr_bipush ((nI (16))) d_Mo_jumps_13 (by decide) ?_
    refine jr_icmp_neN 22 d_Mo_jumps_15 (by decide) (by omega) (by omega) (fun c2 => ?_) (fun c2 => ?_)
    · refine jr_iconst ((nI (0))) d_Mo_jumps_22 (by decide) ?_
      exact jr_zretE d_Mo_jumps_23 rfl (by decide) (by unfold jmp; rw [decide_eq_false (by omega)]; rfl) (rfl) (by decide) (by decide)
    · refine jr_iconst ((nI (1))) d_Mo_jumps_18 (by decide) ?_
      refine jr_goto 23 d_Mo_jumps_19 (by decide) ?_
      exact jr_zretE d_Mo_jumps_23 rfl (by decide) (by unfold jmp; rw [decide_eq_true (by omega)]; rfl) (rfl) (by decide) (by decide)
  · refine jr_iload_n d_Mo_jumps_6 rfl ?_
    refine jr_bipush ((nI (9))) d_Mo_jumps_7 (by decide) ?_
    refine jr_icmp_leN 18 d_Mo_jumps_9 (by decide) (by omega) (by omega) (fun c3 => ?_) (fun c3 => ?_)
    · refine jr_iconst ((nI (1))) d_Mo_jumps_18 (by decide) ?_
      refine jr_goto 23 d_Mo_jumps_19 (by decide) ?_
      exact jr_zretE d_Mo_jumps_23 rfl (by decide) (by unfold jmp; rw [decide_eq_true (by omega)]; rfl) (rfl) (by decide) (by decide)
    · refine jr_iload_n d_Mo_jumps_12 rfl ?_
      refine jr_bipush ((nI (16))) d_Mo_jumps_13 (by decide) ?_
      refine jr_icmp_neN 22 d_Mo_jumps_15 (by decide) (by omega) (by omega) (fun c4 => ?_) (fun c4 => ?_)
      · refine jr_iconst ((nI (0))) d_Mo_jumps_22 (by decide) ?_
        exact jr_zretE d_Mo_jumps_23 rfl (by decide) (by unfold jmp; rw [decide_eq_false (by omega)]; rfl) (rfl) (by decide) (by decide)
      · refine jr_iconst ((nI (1))) d_Mo_jumps_18 (by decide) ?_
        refine jr_goto 23 d_Mo_jumps_19 (by decide) ?_
        exact jr_zretE d_Mo_jumps_23 rfl (by decide) (by unfold jmp; rw [decide_eq_true (by omega)]; rfl) (rfl) (by decide) (by decide)
theorem d_Mo_falls_0 : decode m_Mo_falls.2.1 0 = .ok (.iload_n 1, 1) := by decide +kernel
theorem d_Mo_falls_1 : decode m_Mo_falls.2.1 1 = .ok (.bipush 7, 2) := by decide +kernel
theorem d_Mo_falls_3 : decode m_Mo_falls.2.1 3 = .ok (.if_icmp .eq 19, 3) := by decide +kernel
theorem d_Mo_falls_22 : decode m_Mo_falls.2.1 22 = .ok (.iconst 0, 1) := by decide +kernel
theorem d_Mo_falls_23 : decode m_Mo_falls.2.1 23 = .ok (.ireturn, 1) := by decide +kernel
theorem d_Mo_falls_6 : decode m_Mo_falls.2.1 6 = .ok (.iload_n 1, 1) := by decide +kernel
theorem d_Mo_falls_7 : decode m_Mo_falls.2.1 7 = .ok (.bipush 17, 2) := by decide +kernel
theorem d_Mo_falls_9 : decode m_Mo_falls.2.1 9 = .ok (.if_icmp .eq 13, 3) := by decide +kernel
theorem d_Mo_falls_12 : decode m_Mo_falls.2.1 12 = .ok (.iload_n 1, 1) := by decide +kernel
theorem d_Mo_falls_13 : decode m_Mo_falls.2.1 13 = .ok (.bipush 18, 2) := by decide +kernel
theorem d_Mo_falls_15 : decode m_Mo_falls.2.1 15 = .ok (.if_icmp .eq 7, 3) := by decide +kernel
theorem d_Mo_falls_18 : decode m_Mo_falls.2.1 18 = .ok (.iconst 1, 1) := by decide +kernel
theorem d_Mo_falls_19 : decode m_Mo_falls.2.1 19 = .ok (.goto 4, 3) := by decide +kernel
theorem mo_falls (hl : l.stackTraces = false) {o : Nat} (hO : MoO σ fa vf wh wy hg dp md ov oh dn an) (hw : MoW σ tb pr ow ft hs) (ho : o < 26) : jl_m l G m_Mo_falls [.ref 22, .int (nI o)] σ (.inl (some (.int (bi (fal o))))) (σ) := by
  obtain ⟨h23, h24, h25, h26, h27⟩ := id hw
  refine jl_of (as := [.ref 22, .int (nI o)]) rfl (by decide) hl (jl_cc rfl (jl_cc rfl jl_ca)) (Nat.le_of_ble_eq_true rfl) ?_
  show jl_W l G m_Mo_falls (0, 0) 0 [some (.ref 22), some (.int (nI o))] [] (σ) (.inl (some (.int (bi (fal o))))) (σ)
  refine jr_iload_n d_Mo_falls_0 rfl ?_
  refine jr_bipush ((nI (7))) d_Mo_falls_1 (by decide) ?_
  refine jr_icmp_eqN 22 d_Mo_falls_3 (by decide) (by omega) (by omega) (fun c1 => ?_) (fun c1 => ?_)
  · refine jr_iconst ((nI (0))) d_Mo_falls_22 (by decide) ?_
    exact jr_zretE d_Mo_falls_23 rfl (by decide) (by unfold fal; rw [decide_eq_false (by omega)]; rfl) (rfl) (by decide) (by decide)
  · refine jr_iload_n d_Mo_falls_6 rfl ?_
    refine jr_bipush ((nI (17))) d_Mo_falls_7 (by decide) ?_
    refine jr_icmp_eqN 22 d_Mo_falls_9 (by decide) (by omega) (by omega) (fun c2 => ?_) (fun c2 => ?_)
    · refine jr_iconst ((nI (0))) d_Mo_falls_22 (by decide) ?_
      exact jr_zretE d_Mo_falls_23 rfl (by decide) (by unfold fal; rw [decide_eq_false (by omega)]; rfl) (rfl) (by decide) (by decide)
    · refine jr_iload_n d_Mo_falls_12 rfl ?_
      refine jr_bipush ((nI (18))) d_Mo_falls_13 (by decide) ?_
      refine jr_icmp_eqN 22 d_Mo_falls_15 (by decide) (by omega) (by omega) (fun c3 => ?_) (fun c3 => ?_)
      · refine jr_iconst ((nI (0))) d_Mo_falls_22 (by decide) ?_
        exact jr_zretE d_Mo_falls_23 rfl (by decide) (by unfold fal; rw [decide_eq_false (by omega)]; rfl) (rfl) (by decide) (by decide)
      · refine jr_iconst ((nI (1))) d_Mo_falls_18 (by decide) ?_
        refine jr_goto 23 d_Mo_falls_19 (by decide) ?_
        exact jr_zretE d_Mo_falls_23 rfl (by decide) (by unfold fal; rw [decide_eq_true (by omega)]; rfl) (rfl) (by decide) (by decide)
theorem d_Mo_isReference_0 : decode m_Mo_isReference.2.1 0 = .ok (.iload_n 1, 1) := by decide +kernel
theorem d_Mo_isReference_1 : decode m_Mo_isReference.2.1 1 = .ok (.iconst 1, 1) := by decide +kernel
theorem d_Mo_isReference_2 : decode m_Mo_isReference.2.1 2 = .ok (.if_icmp .eq 14, 3) := by decide +kernel
theorem d_Mo_isReference_16 : decode m_Mo_isReference.2.1 16 = .ok (.iconst 1, 1) := by decide +kernel
theorem d_Mo_isReference_17 : decode m_Mo_isReference.2.1 17 = .ok (.goto 4, 3) := by decide +kernel
theorem d_Mo_isReference_21 : decode m_Mo_isReference.2.1 21 = .ok (.ireturn, 1) := by decide +kernel
theorem d_Mo_isReference_5 : decode m_Mo_isReference.2.1 5 = .ok (.iload_n 1, 1) := by decide +kernel
theorem d_Mo_isReference_6 : decode m_Mo_isReference.2.1 6 = .ok (.iconst 2, 1) := by decide +kernel
theorem d_Mo_isReference_7 : decode m_Mo_isReference.2.1 7 = .ok (.if_icmp .eq 9, 3) := by decide +kernel
theorem d_Mo_isReference_10 : decode m_Mo_isReference.2.1 10 = .ok (.iload_n 1, 1) := by decide +kernel
theorem d_Mo_isReference_11 : decode m_Mo_isReference.2.1 11 = .ok (.bipush 10, 2) := by decide +kernel
theorem d_Mo_isReference_13 : decode m_Mo_isReference.2.1 13 = .ok (.if_icmp .lt 7, 3) := by decide +kernel
theorem d_Mo_isReference_20 : decode m_Mo_isReference.2.1 20 = .ok (.iconst 0, 1) := by decide +kernel
theorem mo_isRef (hl : l.stackTraces = false) {t : Nat} (hO : MoO σ fa vf wh wy hg dp md ov oh dn an) (hw : MoW σ tb pr ow ft hs) (ht : t < 16) : jl_m l G m_Mo_isReference [.ref 22, .int (nI t)] σ (.inl (some (.int (bi (isR t))))) (σ) := by
  obtain ⟨h23, h24, h25, h26, h27⟩ := id hw
  refine jl_of (as := [.ref 22, .int (nI t)]) rfl (by decide) hl (jl_cc rfl (jl_cc rfl jl_ca)) (Nat.le_of_ble_eq_true rfl) ?_
  show jl_W l G m_Mo_isReference (0, 0) 0 [some (.ref 22), some (.int (nI t))] [] (σ) (.inl (some (.int (bi (isR t))))) (σ)
  refine jr_iload_n d_Mo_isReference_0 rfl ?_
  refine jr_iconst ((nI (1))) d_Mo_isReference_1 (by decide) ?_
  refine jr_icmp_eqN 16 d_Mo_isReference_2 (by decide) (by omega) (by omega) (fun c1 => ?_) (fun c1 => ?_)
  · refine jr_iconst ((nI (1))) d_Mo_isReference_16 (by decide) ?_
    refine jr_goto 21 d_Mo_isReference_17 (by decide) ?_
    exact jr_zretE d_Mo_isReference_21 rfl (by decide) (by unfold isR; rw [decide_eq_true (by omega)]; rfl) (rfl) (by decide) (by decide)
  · refine jr_iload_n d_Mo_isReference_5 rfl ?_
    refine jr_iconst ((nI (2))) d_Mo_isReference_6 (by decide) ?_
    refine jr_icmp_eqN 16 d_Mo_isReference_7 (by decide) (by omega) (by omega) (fun c2 => ?_) (fun c2 => ?_)
    · refine jr_iconst ((nI (1))) d_Mo_isReference_16 (by decide) ?_
      refine jr_goto 21 d_Mo_isReference_17 (by decide) ?_
      exact jr_zretE d_Mo_isReference_21 rfl (by decide) (by unfold isR; rw [decide_eq_true (by omega)]; rfl) (rfl) (by decide) (by decide)
    · refine jr_iload_n d_Mo_isReference_10 rfl ?_
      refine jr_bipush ((nI (10))) d_Mo_isReference_11 (by decide) ?_
      refine jr_icmp_ltN 20 d_Mo_isReference_13 (by decide) (by omega) (by omega) (fun c3 => ?_) (fun c3 => ?_)
      · refine jr_iconst ((nI (0))) d_Mo_isReference_20 (by decide) ?_
        exact jr_zretE d_Mo_isReference_21 rfl (by decide) (by unfold isR; rw [decide_eq_false (by omega)]; rfl) (rfl) (by decide) (by decide)
      · refine jr_iconst ((nI (1))) d_Mo_isReference_16 (by decide) ?_
        refine jr_goto 21 d_Mo_isReference_17 (by decide) ?_
        exact jr_zretE d_Mo_isReference_21 rfl (by decide) (by unfold isR; rw [decide_eq_true (by omega)]; rfl) (rfl) (by decide) (by decide)
theorem d_Mo_puts_0 : decode m_Mo_puts.2.1 0 = .ok (.iload_n 1, 1) := by decide +kernel
theorem d_Mo_puts_1 : decode m_Mo_puts.2.1 1 = .ok (.bipush 24, 2) := by decide +kernel
theorem d_Mo_puts_3 : decode m_Mo_puts.2.1 3 = .ok (.if_icmp .ne 5, 3) := by decide +kernel
theorem d_Mo_puts_8 : decode m_Mo_puts.2.1 8 = .ok (.iload_n 1, 1) := by decide +kernel
theorem d_Mo_puts_9 : decode m_Mo_puts.2.1 9 = .ok (.iconst 2, 1) := by decide +kernel
theorem d_Mo_puts_10 : decode m_Mo_puts.2.1 10 = .ok (.if_icmp .eq 45, 3) := by decide +kernel
theorem d_Mo_puts_55 : decode m_Mo_puts.2.1 55 = .ok (.iconst 0, 1) := by decide +kernel
theorem d_Mo_puts_56 : decode m_Mo_puts.2.1 56 = .ok (.goto 4, 3) := by decide +kernel
theorem d_Mo_puts_60 : decode m_Mo_puts.2.1 60 = .ok (.ireturn, 1) := by decide +kernel
theorem d_Mo_puts_13 : decode m_Mo_puts.2.1 13 = .ok (.iload_n 1, 1) := by decide +kernel
theorem d_Mo_puts_14 : decode m_Mo_puts.2.1 14 = .ok (.bipush 7, 2) := by decide +kernel
theorem d_Mo_puts_16 : decode m_Mo_puts.2.1 16 = .ok (.if_icmp .lt 9, 3) := by decide +kernel
theorem d_Mo_puts_25 : decode m_Mo_puts.2.1 25 = .ok (.iload_n 1, 1) := by decide +kernel
theorem d_Mo_puts_26 : decode m_Mo_puts.2.1 26 = .ok (.bipush 13, 2) := by decide +kernel
theorem d_Mo_puts_28 : decode m_Mo_puts.2.1 28 = .ok (.if_icmp .eq 27, 3) := by decide +kernel
theorem d_Mo_puts_31 : decode m_Mo_puts.2.1 31 = .ok (.iload_n 1, 1) := by decide +kernel
theorem d_Mo_puts_32 : decode m_Mo_puts.2.1 32 = .ok (.bipush 16, 2) := by decide +kernel
theorem d_Mo_puts_34 : decode m_Mo_puts.2.1 34 = .ok (.if_icmp .lt 9, 3) := by decide +kernel
theorem d_Mo_puts_43 : decode m_Mo_puts.2.1 43 = .ok (.iload_n 1, 1) := by decide +kernel
theorem d_Mo_puts_44 : decode m_Mo_puts.2.1 44 = .ok (.bipush 21, 2) := by decide +kernel
theorem d_Mo_puts_46 : decode m_Mo_puts.2.1 46 = .ok (.if_icmp .eq 9, 3) := by decide +kernel
theorem d_Mo_puts_49 : decode m_Mo_puts.2.1 49 = .ok (.iload_n 1, 1) := by decide +kernel
theorem d_Mo_puts_50 : decode m_Mo_puts.2.1 50 = .ok (.bipush 23, 2) := by decide +kernel
theorem d_Mo_puts_52 : decode m_Mo_puts.2.1 52 = .ok (.if_icmp .ne 7, 3) := by decide +kernel
theorem d_Mo_puts_59 : decode m_Mo_puts.2.1 59 = .ok (.iconst 1, 1) := by decide +kernel
theorem d_Mo_puts_37 : decode m_Mo_puts.2.1 37 = .ok (.iload_n 1, 1) := by decide +kernel
theorem d_Mo_puts_38 : decode m_Mo_puts.2.1 38 = .ok (.bipush 18, 2) := by decide +kernel
theorem d_Mo_puts_40 : decode m_Mo_puts.2.1 40 = .ok (.if_icmp .le 15, 3) := by decide +kernel
theorem d_Mo_puts_19 : decode m_Mo_puts.2.1 19 = .ok (.iload_n 1, 1) := by decide +kernel
theorem d_Mo_puts_20 : decode m_Mo_puts.2.1 20 = .ok (.bipush 9, 2) := by decide +kernel
theorem d_Mo_puts_22 : decode m_Mo_puts.2.1 22 = .ok (.if_icmp .le 33, 3) := by decide +kernel
theorem d_Mo_puts_6 : decode m_Mo_puts.2.1 6 = .ok (.iconst 2, 1) := by decide +kernel
theorem d_Mo_puts_7 : decode m_Mo_puts.2.1 7 = .ok (.ireturn, 1) := by decide +kernel
theorem mo_puts (hl : l.stackTraces = false) {o : Nat} (hO : MoO σ fa vf wh wy hg dp md ov oh dn an) (hw : MoW σ tb pr ow ft hs) (ho : o < 26) : jl_m l G m_Mo_puts [.ref 22, .int (nI o)] σ (.inl (some (.int (nI (pts o))))) (σ) := by
  obtain ⟨h23, h24, h25, h26, h27⟩ := id hw
  refine jl_of (as := [.ref 22, .int (nI o)]) rfl (by decide) hl (jl_cc rfl (jl_cc rfl jl_ca)) (Nat.le_of_ble_eq_true rfl) ?_
  show jl_W l G m_Mo_puts (0, 0) 0 [some (.ref 22), some (.int (nI o))] [] (σ) (.inl (some (.int (nI (pts o))))) (σ)
  refine jr_iload_n d_Mo_puts_0 rfl ?_
  refine jr_bipush ((nI (24))) d_Mo_puts_1 (by decide) ?_
  refine jr_icmp_neN 8 d_Mo_puts_3 (by decide) (by omega) (by omega) (fun c1 => ?_) (fun c1 => ?_)
  · refine jr_iload_n d_Mo_puts_8 rfl ?_
    refine jr_iconst ((nI (2))) d_Mo_puts_9 (by decide) ?_
    refine jr_icmp_eqN 55 d_Mo_puts_10 (by decide) (by omega) (by omega) (fun c2 => ?_) (fun c2 => ?_)
    · refine jr_iconst ((nI (0))) d_Mo_puts_55 (by decide) ?_
      refine jr_goto 60 d_Mo_puts_56 (by decide) ?_
      exact jr_iretE d_Mo_puts_60 rfl (by unfold pts; rw [if_neg (by omega), if_pos (by omega)]) (rfl) (by decide) (by decide)
    · refine jr_iload_n d_Mo_puts_13 rfl ?_
      refine jr_bipush ((nI (7))) d_Mo_puts_14 (by decide) ?_
      refine jr_icmp_ltN 25 d_Mo_puts_16 (by decide) (by omega) (by omega) (fun c3 => ?_) (fun c3 => ?_)
      · refine jr_iload_n d_Mo_puts_25 rfl ?_
        refine jr_bipush ((nI (13))) d_Mo_puts_26 (by decide) ?_
        refine jr_icmp_eqN 55 d_Mo_puts_28 (by decide) (by omega) (by omega) (fun c4 => ?_) (fun c4 => ?_)
        · refine jr_iconst ((nI (0))) d_Mo_puts_55 (by decide) ?_
          refine jr_goto 60 d_Mo_puts_56 (by decide) ?_
          exact jr_iretE d_Mo_puts_60 rfl (by unfold pts; rw [if_neg (by omega), if_pos (by omega)]) (rfl) (by decide) (by decide)
        · refine jr_iload_n d_Mo_puts_31 rfl ?_
          refine jr_bipush ((nI (16))) d_Mo_puts_32 (by decide) ?_
          refine jr_icmp_ltN 43 d_Mo_puts_34 (by decide) (by omega) (by omega) (fun c5 => ?_) (fun c5 => ?_)
          · refine jr_iload_n d_Mo_puts_43 rfl ?_
            refine jr_bipush ((nI (21))) d_Mo_puts_44 (by decide) ?_
            refine jr_icmp_eqN 55 d_Mo_puts_46 (by decide) (by omega) (by omega) (fun c6 => ?_) (fun c6 => ?_)
            · refine jr_iconst ((nI (0))) d_Mo_puts_55 (by decide) ?_
              refine jr_goto 60 d_Mo_puts_56 (by decide) ?_
              exact jr_iretE d_Mo_puts_60 rfl (by unfold pts; rw [if_neg (by omega), if_pos (by omega)]) (rfl) (by decide) (by decide)
            · refine jr_iload_n d_Mo_puts_49 rfl ?_
              refine jr_bipush ((nI (23))) d_Mo_puts_50 (by decide) ?_
              refine jr_icmp_neN 59 d_Mo_puts_52 (by decide) (by omega) (by omega) (fun c7 => ?_) (fun c7 => ?_)
              · refine jr_iconst ((nI (1))) d_Mo_puts_59 (by decide) ?_
                exact jr_iretE d_Mo_puts_60 rfl (by unfold pts; rw [if_neg (by omega), if_neg (by omega)]) (rfl) (by decide) (by decide)
              · refine jr_iconst ((nI (0))) d_Mo_puts_55 (by decide) ?_
                refine jr_goto 60 d_Mo_puts_56 (by decide) ?_
                exact jr_iretE d_Mo_puts_60 rfl (by unfold pts; rw [if_neg (by omega), if_pos (by omega)]) (rfl) (by decide) (by decide)
          · refine jr_iload_n d_Mo_puts_37 rfl ?_
            refine jr_bipush ((nI (18))) d_Mo_puts_38 (by decide) ?_
            refine jr_icmp_leN 55 d_Mo_puts_40 (by decide) (by omega) (by omega) (fun c8 => ?_) (fun c8 => ?_)
            · refine jr_iconst ((nI (0))) d_Mo_puts_55 (by decide) ?_
              refine jr_goto 60 d_Mo_puts_56 (by decide) ?_
              exact jr_iretE d_Mo_puts_60 rfl (by unfold pts; rw [if_neg (by omega), if_pos (by omega)]) (rfl) (by decide) (by decide)
            · refine jr_iload_n d_Mo_puts_43 rfl ?_
              refine jr_bipush ((nI (21))) d_Mo_puts_44 (by decide) ?_
              refine jr_icmp_eqN 55 d_Mo_puts_46 (by decide) (by omega) (by omega) (fun c9 => ?_) (fun c9 => ?_)
              · refine jr_iconst ((nI (0))) d_Mo_puts_55 (by decide) ?_
                refine jr_goto 60 d_Mo_puts_56 (by decide) ?_
                exact jr_iretE d_Mo_puts_60 rfl (by unfold pts; rw [if_neg (by omega), if_pos (by omega)]) (rfl) (by decide) (by decide)
              · refine jr_iload_n d_Mo_puts_49 rfl ?_
                refine jr_bipush ((nI (23))) d_Mo_puts_50 (by decide) ?_
                refine jr_icmp_neN 59 d_Mo_puts_52 (by decide) (by omega) (by omega) (fun c10 => ?_) (fun c10 => ?_)
                · refine jr_iconst ((nI (1))) d_Mo_puts_59 (by decide) ?_
                  exact jr_iretE d_Mo_puts_60 rfl (by unfold pts; rw [if_neg (by omega), if_neg (by omega)]) (rfl) (by decide) (by decide)
                · refine jr_iconst ((nI (0))) d_Mo_puts_55 (by decide) ?_
                  refine jr_goto 60 d_Mo_puts_56 (by decide) ?_
                  exact jr_iretE d_Mo_puts_60 rfl (by unfold pts; rw [if_neg (by omega), if_pos (by omega)]) (rfl) (by decide) (by decide)
      · refine jr_iload_n d_Mo_puts_19 rfl ?_
        refine jr_bipush ((nI (9))) d_Mo_puts_20 (by decide) ?_
        refine jr_icmp_leN 55 d_Mo_puts_22 (by decide) (by omega) (by omega) (fun c11 => ?_) (fun c11 => ?_)
        · refine jr_iconst ((nI (0))) d_Mo_puts_55 (by decide) ?_
          refine jr_goto 60 d_Mo_puts_56 (by decide) ?_
          exact jr_iretE d_Mo_puts_60 rfl (by unfold pts; rw [if_neg (by omega), if_pos (by omega)]) (rfl) (by decide) (by decide)
        · refine jr_iload_n d_Mo_puts_25 rfl ?_
          refine jr_bipush ((nI (13))) d_Mo_puts_26 (by decide) ?_
          refine jr_icmp_eqN 55 d_Mo_puts_28 (by decide) (by omega) (by omega) (fun c12 => ?_) (fun c12 => ?_)
          · refine jr_iconst ((nI (0))) d_Mo_puts_55 (by decide) ?_
            refine jr_goto 60 d_Mo_puts_56 (by decide) ?_
            exact jr_iretE d_Mo_puts_60 rfl (by unfold pts; rw [if_neg (by omega), if_pos (by omega)]) (rfl) (by decide) (by decide)
          · refine jr_iload_n d_Mo_puts_31 rfl ?_
            refine jr_bipush ((nI (16))) d_Mo_puts_32 (by decide) ?_
            refine jr_icmp_ltN 43 d_Mo_puts_34 (by decide) (by omega) (by omega) (fun c13 => ?_) (fun c13 => ?_)
            · refine jr_iload_n d_Mo_puts_43 rfl ?_
              refine jr_bipush ((nI (21))) d_Mo_puts_44 (by decide) ?_
              refine jr_icmp_eqN 55 d_Mo_puts_46 (by decide) (by omega) (by omega) (fun c14 => ?_) (fun c14 => ?_)
              · refine jr_iconst ((nI (0))) d_Mo_puts_55 (by decide) ?_
                refine jr_goto 60 d_Mo_puts_56 (by decide) ?_
                exact jr_iretE d_Mo_puts_60 rfl (by unfold pts; rw [if_neg (by omega), if_pos (by omega)]) (rfl) (by decide) (by decide)
              · refine jr_iload_n d_Mo_puts_49 rfl ?_
                refine jr_bipush ((nI (23))) d_Mo_puts_50 (by decide) ?_
                refine jr_icmp_neN 59 d_Mo_puts_52 (by decide) (by omega) (by omega) (fun c15 => ?_) (fun c15 => ?_)
                · refine jr_iconst ((nI (1))) d_Mo_puts_59 (by decide) ?_
                  exact jr_iretE d_Mo_puts_60 rfl (by unfold pts; rw [if_neg (by omega), if_neg (by omega)]) (rfl) (by decide) (by decide)
                · refine jr_iconst ((nI (0))) d_Mo_puts_55 (by decide) ?_
                  refine jr_goto 60 d_Mo_puts_56 (by decide) ?_
                  exact jr_iretE d_Mo_puts_60 rfl (by unfold pts; rw [if_neg (by omega), if_pos (by omega)]) (rfl) (by decide) (by decide)
            · refine jr_iload_n d_Mo_puts_37 rfl ?_
              refine jr_bipush ((nI (18))) d_Mo_puts_38 (by decide) ?_
              refine jr_icmp_leN 55 d_Mo_puts_40 (by decide) (by omega) (by omega) (fun c16 => ?_) (fun c16 => ?_)
              · refine jr_iconst ((nI (0))) d_Mo_puts_55 (by decide) ?_
                refine jr_goto 60 d_Mo_puts_56 (by decide) ?_
                exact jr_iretE d_Mo_puts_60 rfl (by unfold pts; rw [if_neg (by omega), if_pos (by omega)]) (rfl) (by decide) (by decide)
              · refine jr_iload_n d_Mo_puts_43 rfl ?_
                refine jr_bipush ((nI (21))) d_Mo_puts_44 (by decide) ?_
                refine jr_icmp_eqN 55 d_Mo_puts_46 (by decide) (by omega) (by omega) (fun c17 => ?_) (fun c17 => ?_)
                · refine jr_iconst ((nI (0))) d_Mo_puts_55 (by decide) ?_
                  refine jr_goto 60 d_Mo_puts_56 (by decide) ?_
                  exact jr_iretE d_Mo_puts_60 rfl (by unfold pts; rw [if_neg (by omega), if_pos (by omega)]) (rfl) (by decide) (by decide)
                · refine jr_iload_n d_Mo_puts_49 rfl ?_
                  refine jr_bipush ((nI (23))) d_Mo_puts_50 (by decide) ?_
                  refine jr_icmp_neN 59 d_Mo_puts_52 (by decide) (by omega) (by omega) (fun c18 => ?_) (fun c18 => ?_)
                  · refine jr_iconst ((nI (1))) d_Mo_puts_59 (by decide) ?_
                    exact jr_iretE d_Mo_puts_60 rfl (by unfold pts; rw [if_neg (by omega), if_neg (by omega)]) (rfl) (by decide) (by decide)
                  · refine jr_iconst ((nI (0))) d_Mo_puts_55 (by decide) ?_
                    refine jr_goto 60 d_Mo_puts_56 (by decide) ?_
                    exact jr_iretE d_Mo_puts_60 rfl (by unfold pts; rw [if_neg (by omega), if_pos (by omega)]) (rfl) (by decide) (by decide)
  · refine jr_iconst ((nI (2))) d_Mo_puts_6 (by decide) ?_
    exact jr_iretE d_Mo_puts_7 rfl (by unfold pts; rw [if_pos (by omega)]) (rfl) (by decide) (by decide)
theorem d_Mo_missing_0 : decode m_Mo_missing.2.1 0 = .ok (.iload_n 1, 1) := by decide +kernel
theorem d_Mo_missing_1 : decode m_Mo_missing.2.1 1 = .ok (.bipush 10, 2) := by decide +kernel
theorem d_Mo_missing_3 : decode m_Mo_missing.2.1 3 = .ok (.if_icmp .lt 19, 3) := by decide +kernel
theorem d_Mo_missing_22 : decode m_Mo_missing.2.1 22 = .ok (.iconst 0, 1) := by decide +kernel
theorem d_Mo_missing_23 : decode m_Mo_missing.2.1 23 = .ok (.ireturn, 1) := by decide +kernel
theorem d_Mo_missing_6 : decode m_Mo_missing.2.1 6 = .ok (.aload_n 0, 1) := by decide +kernel
theorem f_Mo_missing_7 : jl_fd m_Mo_missing 7 7 1 = true := by decide +kernel
theorem d_Mo_missing_7 : decode m_Mo_missing.2.1 7 = .ok (.getfield 7, 3) := by decide +kernel
theorem d_Mo_missing_10 : decode m_Mo_missing.2.1 10 = .ok (.iload_n 1, 1) := by decide +kernel
theorem d_Mo_missing_11 : decode m_Mo_missing.2.1 11 = .ok (.bipush 10, 2) := by decide +kernel
theorem d_Mo_missing_13 : decode m_Mo_missing.2.1 13 = .ok (.isub, 1) := by decide +kernel
theorem d_Mo_missing_14 : decode m_Mo_missing.2.1 14 = .ok (.baload, 1) := by decide +kernel
theorem d_Mo_missing_15 : decode m_Mo_missing.2.1 15 = .ok (.ifCond .ne 7, 3) := by decide +kernel
theorem d_Mo_missing_18 : decode m_Mo_missing.2.1 18 = .ok (.iconst 1, 1) := by decide +kernel
theorem d_Mo_missing_19 : decode m_Mo_missing.2.1 19 = .ok (.goto 4, 3) := by decide +kernel
theorem mo_missing (hl : l.stackTraces = false) {x : Option Nat} (hO : MoO σ fa vf wh wy hg dp md ov oh dn an) (hw : MoW σ tb pr ow ft hs) (hx : ob 16 x) : jl_m l G m_Mo_missing [.ref 22, .int (en x)] σ (.inl (some (.int (bi (miss tb x))))) (σ) := by
  obtain ⟨h23, h24, h25, h26, h27⟩ := id hw
  refine jl_of (as := [.ref 22, .int (en x)]) rfl (by decide) hl (jl_cc rfl (jl_cc rfl jl_ca)) (Nat.le_of_ble_eq_true rfl) ?_
  show jl_W l G m_Mo_missing (0, 0) 0 [some (.ref 22), some (.int (en x))] [] (σ) (.inl (some (.int (bi (miss tb x))))) (σ)
  cases x with
  | none =>
    show jl_W l G m_Mo_missing (0, 0) 0 [some (.ref 22), some (.int (-1))] [] (σ) (.inl (some (.int (bi (miss tb none))))) (σ)
    refine jr_iload_n d_Mo_missing_0 rfl ?_
    refine jr_bipush ((nI (10))) d_Mo_missing_1 (by decide) ?_
    refine jr_icmp_lt 22 d_Mo_missing_3 (by decide) (fun _ => ?_) (fun z => absurd (en_m1lt (by omega)) z)
    refine jr_iconst ((nI (0))) d_Mo_missing_22 (by decide) ?_
    exact jr_zretE d_Mo_missing_23 rfl (by decide) (rfl) (rfl) (by decide) (by decide)
  | some t =>
    have ht := hx t rfl
    show jl_W l G m_Mo_missing (0, 0) 0 [some (.ref 22), some (.int (nI t))] [] (σ) (.inl (some (.int (bi (miss tb (some t)))))) (σ)
    refine jr_iload_n d_Mo_missing_0 rfl ?_
    refine jr_bipush ((nI (10))) d_Mo_missing_1 (by decide) ?_
    refine jr_icmp_ltN 22 d_Mo_missing_3 (by decide) (by omega) (by omega) (fun c1 => ?_) (fun c1 => ?_)
    · refine jr_iconst ((nI (0))) d_Mo_missing_22 (by decide) ?_
      exact jr_zretE d_Mo_missing_23 rfl (by decide) (by simp [miss, tyOk, bi, nI_0, show t < 10 by omega]) (rfl) (by decide) (by decide)
    · refine jr_aload_n d_Mo_missing_6 rfl ?_
      refine jr_getf d_Mo_missing_7 f_Mo_missing_7 hO rfl ?_
      refine jr_iload_n d_Mo_missing_10 rfl ?_
      refine jr_bipush ((nI (10))) d_Mo_missing_11 (by decide) ?_
      refine jr_isubN d_Mo_missing_13 (by omega) ?_
      refine jr_baldN d_Mo_missing_14 h23 (by omega) (by omega) ?_
      refine jr_if_ne 22 d_Mo_missing_15 (by decide) (fun c2 => ?_) (fun c2 => ?_)
      · refine jr_iconst ((nI (0))) d_Mo_missing_22 (by decide) ?_
        exact jr_zretE d_Mo_missing_23 rfl (by decide) (by simp [miss, tyOk, bi, nI_0, nI_one, show ¬ t < 10 by omega, bi_nf c2]) (rfl) (by decide) (by decide)
      · refine jr_iconst ((nI (1))) d_Mo_missing_18 (by decide) ?_
        refine jr_goto 23 d_Mo_missing_19 (by decide) ?_
        exact jr_zretE d_Mo_missing_23 rfl (by decide) (by simp [miss, tyOk, bi, nI_0, nI_one, show ¬ t < 10 by omega, bi_0.mp c2]) (rfl) (by decide) (by decide)
theorem outB_t {k : Int32} {n : Nat} (hn : n < 2 ^ 31) (h : outB k (nI n) = false) : ∃ j, j < n ∧ k = nI j := by
  unfold outB at h
  by_cases h1 : k < 0
  · rw [if_pos h1] at h; cases h
  · rw [if_neg h1] at h
    by_cases h2 : k < nI n
    · exact jl_rng h1 h2 hn
    · rw [if_neg h2] at h; cases h
theorem outB_n {j n : Nat} (hn : n < 2 ^ 31) (h : j < n) : outB (nI j) (nI n) = false := by
  unfold outB
  rw [if_neg (nI_pos (by omega)), if_pos ((nI_ltI (by omega) hn).mpr h)]
theorem outB_h {tb : Nat → Bool} {k : Int32} (h : outB k (nI 6) = true) : hasI tb k = false := by
  unfold outB at h
  unfold hasI
  by_cases h1 : k < 0
  · rw [if_pos h1]
  · rw [if_neg h1] at h
    rw [if_neg h1]
    by_cases h2 : k < nI 6
    · rw [if_pos h2] at h; cases h
    · rw [if_pos (Int32.not_lt.mp h2)]
theorem d_Mo_isClass_0 : decode m_Mo_isClass.2.1 0 = .ok (.aload_n 0, 1) := by decide +kernel
theorem d_Mo_isClass_1 : decode m_Mo_isClass.2.1 1 = .ok (.iload_n 1, 1) := by decide +kernel
theorem d_Mo_isClass_2 : decode m_Mo_isClass.2.1 2 = .ok (.bipush 6, 2) := by decide +kernel
theorem k_Mo_isClass_114 : jl_cv m_Mo_isClass m_Mo_out 114 2 = true := by decide +kernel
theorem d_Mo_isClass_4 : decode m_Mo_isClass.2.1 4 = .ok (.invokevirtual 114, 3) := by decide +kernel
theorem d_Mo_isClass_7 : decode m_Mo_isClass.2.1 7 = .ok (.ifCond .ne 16, 3) := by decide +kernel
theorem d_Mo_isClass_23 : decode m_Mo_isClass.2.1 23 = .ok (.iconst 0, 1) := by decide +kernel
theorem d_Mo_isClass_24 : decode m_Mo_isClass.2.1 24 = .ok (.ireturn, 1) := by decide +kernel
theorem d_Mo_isClass_10 : decode m_Mo_isClass.2.1 10 = .ok (.aload_n 0, 1) := by decide +kernel
theorem f_Mo_isClass_7 : jl_fd m_Mo_isClass 7 7 1 = true := by decide +kernel
theorem d_Mo_isClass_11 : decode m_Mo_isClass.2.1 11 = .ok (.getfield 7, 3) := by decide +kernel
theorem d_Mo_isClass_14 : decode m_Mo_isClass.2.1 14 = .ok (.iload_n 1, 1) := by decide +kernel
theorem d_Mo_isClass_15 : decode m_Mo_isClass.2.1 15 = .ok (.baload, 1) := by decide +kernel
theorem d_Mo_isClass_16 : decode m_Mo_isClass.2.1 16 = .ok (.ifCond .eq 7, 3) := by decide +kernel
theorem d_Mo_isClass_19 : decode m_Mo_isClass.2.1 19 = .ok (.iconst 1, 1) := by decide +kernel
theorem d_Mo_isClass_20 : decode m_Mo_isClass.2.1 20 = .ok (.goto 4, 3) := by decide +kernel
theorem mo_isClass (hl : l.stackTraces = false) {k : Int32} (hO : MoO σ fa vf wh wy hg dp md ov oh dn an) (hw : MoW σ tb pr ow ft hs)  : jl_m l G m_Mo_isClass [.ref 22, .int (k)] σ (.inl (some (.int (bi (hasI tb k))))) (σ) := by
  obtain ⟨h23, h24, h25, h26, h27⟩ := id hw
  refine jl_of (as := [.ref 22, .int (k)]) rfl (by decide) hl (jl_cc rfl (jl_cc rfl jl_ca)) (Nat.le_of_ble_eq_true rfl) ?_
  show jl_W l G m_Mo_isClass (0, 0) 0 [some (.ref 22), some (.int (k))] [] (σ) (.inl (some (.int (bi (hasI tb k))))) (σ)
  refine jr_aload_n d_Mo_isClass_0 rfl ?_
  refine jr_iload_n d_Mo_isClass_1 rfl ?_
  refine jr_bipush ((nI (6))) d_Mo_isClass_2 (by decide) ?_
  refine jr_callV (As := [.int (k), .int (nI 6)]) d_Mo_isClass_4 k_Mo_isClass_114 hO rfl rfl rfl (Nat.le_of_ble_eq_true rfl) (by decide) (by decide) (mo_out hl hO hw) ?_
  show jl_W l G m_Mo_isClass (0, 0) 7 [some (.ref 22), some (.int (k))] [.int (bi (outB k (nI 6)))] (σ) (.inl (some (.int (bi (hasI tb k))))) (σ)
  refine jr_if_ne 23 d_Mo_isClass_7 (by decide) (fun c1 => ?_) (fun c1 => ?_)
  · refine jr_iconst ((nI (0))) d_Mo_isClass_23 (by decide) ?_
    exact jr_zretE d_Mo_isClass_24 rfl (by decide) (by rw [outB_h (bi_nf c1)]; rfl) (rfl) (by decide) (by decide)
  · obtain ⟨kk, hk, ek⟩ := outB_t (n := 6) (by decide) (bi_0.mp c1)
    subst ek
    show jl_W l G m_Mo_isClass (0, 0) 10 [some (.ref 22), some (.int (nI kk))] [] (σ) (.inl (some (.int (bi (hasI tb (nI kk)))))) (σ)
    refine jr_aload_n d_Mo_isClass_10 rfl ?_
    refine jr_getf d_Mo_isClass_11 f_Mo_isClass_7 hO rfl ?_
    refine jr_iload_n d_Mo_isClass_14 rfl ?_
    refine jr_baldN d_Mo_isClass_15 h23 (by omega) (by omega) ?_
    refine jr_if_eq 23 d_Mo_isClass_16 (by decide) (fun c2 => ?_) (fun c2 => ?_)
    · refine jr_iconst ((nI (0))) d_Mo_isClass_23 (by decide) ?_
      exact jr_zretE d_Mo_isClass_24 rfl (by decide) (by rw [hasI_n hk, bi_0.mp c2]; rfl) (rfl) (by decide) (by decide)
    · refine jr_iconst ((nI (1))) d_Mo_isClass_19 (by decide) ?_
      refine jr_goto 24 d_Mo_isClass_20 (by decide) ?_
      exact jr_zretE d_Mo_isClass_24 rfl (by decide) (by rw [hasI_n hk, bi_nf c2]; rfl) (rfl) (by decide) (by decide)
end JMq
