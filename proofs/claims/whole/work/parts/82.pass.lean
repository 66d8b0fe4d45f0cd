/-! the model: pass of any INSTRUCTION, badTypes (wip/gen/p82.py) -/
section JMy
variable {l : Launch} {G : jl_G} {σ : jl_S}
variable {tb : Nat → Bool} {pr : Nat → Option Nat} {ow fi ft : Nat → Nat} {hs : Nat → Bool} {fa vf wh wy hg dp md ov oh dn an : Int32}
variable {u1 u2 : Nat → Option Nat} {ur ul uo : Nat → Nat} {ua : Nat → Int32} {uc us ut uk : Nat → Nat}
variable {lo sk kp : Rw} {mm : Nat → Int32} {fm : Nat → Bool}
variable {sg : Int32 → Option Sg}
theorem mo_pass (hl : l.stackTraces = false) {P : jl_O → jl_S → Prop} {m pc o h : Nat} {x : Int32} {r : Rw} (hmb : MB σ tb pr ow ft hs u1 u2 ur ul uo ua uc us ut uk fa vf wh wy (nI h) dp md ov oh dn an lo sk kp mm fm) (hok : WoOk tb pr ow fi) (hK : MoK u1 u2 ur ul uo uc us ut uk) (hm : m < 24) (hpc : pc < 24) (ho : uo (24 * m + pc) = o) (hx : ua (24 * m + pc) = x) (hrl : RlM r lo sk h) (hrv : rv r h) (hlo : ∀ j, ob 16 (lo j)) (hsk : ∀ j, ob 16 (sk j)) (hsg : SgM tb pr hs u1 u2 ur sg) (hf5o : f5o tb ow fi sg o x = false) (hf1 : tks sg o x ≤ h ∧ h - tks sg o x + pts o ≤ 5) (hft : ∀ k f, fty pr fi ft k f < 16) (hT : ∀ lo' sk' σ', RlM (actR pr fi ft sg r o x r h) lo' sk' (h - tks sg o x + pts o) → (∀ j, ob 16 (lo' j)) → (∀ j, ob 16 (sk' j)) → MB σ' tb pr ow ft hs u1 u2 ur ul uo ua uc us ut uk fa vf wh wy (nI (h - tks sg o x + pts o)) dp md ov oh dn an lo' sk' kp mm fm → FrM σ σ' → P (.inl none) σ') : jl_mE l G m_Mo_pass [.ref 22, .int (nI m), .int (nI pc)] σ P := by
  have ho26 : o < 26 := ho ▸ hK.2.1 _ (by omega)
  have hq : o = 0 ∨ o = 1 ∨ o = 2 ∨ o = 3 ∨ o = 4 ∨ o = 5 ∨ o = 6 ∨ o = 7 ∨ o = 8 ∨ o = 9 ∨ o = 10 ∨ o = 11 ∨ o = 12 ∨ o = 13 ∨ o = 14 ∨ o = 15 ∨ o = 16 ∨ o = 17 ∨ o = 18 ∨ o = 19 ∨ o = 20 ∨ o = 21 ∨ o = 22 ∨ o = 23 ∨ o = 24 ∨ o = 25 := by omega
  rcases hq with rfl | rfl | rfl | rfl | rfl | rfl | rfl | rfl | rfl | rfl | rfl | rfl | rfl | rfl | rfl | rfl | rfl | rfl | rfl | rfl | rfl | rfl | rfl | rfl | rfl | rfl
  · exact mo_pass_0 hl hmb hok hK hm hpc ho hx hrl hrv hlo hsk hf1.1 hf1.2 (fun lo' sk' σ' a b c d e => hT lo' sk' σ' (by rw [actR_p (o := 0) (by decide)]; exact a) b c d e)
  · obtain ⟨n, hn, hxn⟩ := lt6_of (x := x) (by simpa [f5o] using hf5o)
    subst hxn
    exact mo_pass_1 hl hmb hok hK hm hpc ho hx hrl hrv hlo hsk hf1.1 hf1.2 hn (fun lo' sk' σ' a b c d e => hT lo' sk' σ' (by rw [actR_p (o := 1) (by decide)]; simp only [tres]; rw [nI_clamp (by omega)]; exact a) b c d e)
  · obtain ⟨n, hn, hxn⟩ := lt6_of (x := x) (by simpa [f5o] using hf5o)
    subst hxn
    exact mo_pass_2 hl hmb hok hK hm hpc ho hx hrl hrv hlo hsk hf1.1 hf1.2 hn (fun lo' sk' σ' a b c d e => hT lo' sk' σ' (by rw [actR_2 (by omega)]; exact a) b c d e)
  · exact mo_pass_3 hl hmb hok hK hm hpc ho hx hrl hrv hlo hsk hf1.1 hf1.2 (fun lo' sk' σ' a b c d e => hT lo' sk' σ' (by rw [actR_p (o := 3) (by decide)]; exact a) b c d e)
  · exact mo_pass_4 hl hmb hok hK hm hpc ho hx hrl hrv hlo hsk hf1.1 hf1.2 (fun lo' sk' σ' a b c d e => hT lo' sk' σ' (by rw [actR_p (o := 4) (by decide)]; exact a) b c d e)
  · exact mo_pass_5 hl hmb hok hK hm hpc ho hx hrl hrv hlo hsk hf1.1 hf1.2 (fun lo' sk' σ' a b c d e => hT lo' sk' σ' (by rw [actR_p (o := 5) (by decide)]; exact a) b c d e)
  · exact mo_pass_6 hl hmb hok hK hm hpc ho hx hrl hrv hlo hsk hf1.1 hf1.2 (fun lo' sk' σ' a b c d e => hT lo' sk' σ' (by rw [actR_p (o := 6) (by decide)]; exact a) b c d e)
  · exact mo_pass_7 hl hmb hok hK hm hpc ho hx hrl hrv hlo hsk hf1.1 hf1.2 (fun lo' sk' σ' a b c d e => hT lo' sk' σ' (by rw [actR_0 (o := 7) (by decide) (by decide)]; exact a) b c d e)
  · exact mo_pass_8 hl hmb hok hK hm hpc ho hx hrl hrv hlo hsk hf1.1 hf1.2 (fun lo' sk' σ' a b c d e => hT lo' sk' σ' (by rw [actR_0 (o := 8) (by decide) (by decide)]; exact a) b c d e)
  · exact mo_pass_9 hl hmb hok hK hm hpc ho hx hrl hrv hlo hsk hf1.1 hf1.2 (fun lo' sk' σ' a b c d e => hT lo' sk' σ' (by rw [actR_0 (o := 9) (by decide) (by decide)]; exact a) b c d e)
  · exact mo_pass_10 hl hmb hok hK hm hpc ho hx hrl hrv hlo hsk hf1.1 hf1.2 (fun lo' sk' σ' a b c d e => hT lo' sk' σ' (by rw [actR_p (o := 10) (by decide)]; exact a) b c d e)
  · obtain ⟨n, hn, hxn, -⟩ := hasI_of (tb := tb) (k := x) (by simpa [f5o] using hf5o)
    subst hxn
    exact mo_pass_11 hl hmb hok hK hm hpc ho hx hrl hrv hlo hsk hf1.1 hf1.2 hn (fun lo' sk' σ' a b c d e => hT lo' sk' σ' (by rw [actR_p (o := 11) (by decide)]; simp only [tres]; rw [nI_clamp (by omega)]; exact a) b c d e)
  · obtain ⟨n, hn, hxn, hk, hf, -⟩ := hasF_of (tb := tb) (ow := ow) (fi := fi) (x := x) (by simpa [f5o] using hf5o)
    subst hxn
    exact mo_pass_12 hl hmb hok hK hm hpc ho hx hrl hrv hlo hsk hf1.1 hf1.2 hn hk hf (hft _ _) (fun lo' sk' σ' a b c d e => hT lo' sk' σ' (by rw [actR_p (o := 12) (by decide)]; simp only [tres, xq, xr]; rw [nI_clamp hn]; exact a) b c d e)
  · exact mo_pass_13 hl hmb hok hK hm hpc ho hx hrl hrv hlo hsk hf1.1 hf1.2 (fun lo' sk' σ' a b c d e => hT lo' sk' σ' (by rw [actR_0 (o := 13) (by decide) (by decide)]; exact a) b c d e)
  · cases hg : sg x with
    | none => simp [f5o, hg] at hf5o
    | some g =>
      obtain ⟨n, c, hn, hxn, hk, -, hmo, hge⟩ := hsg.of hg
      subst hxn
      have hc := mmo_lt (sl := n % 4) (hs := hs) (by omega) hok.1 6 (some (n / 4)) (ob_s hk) c hmo
      obtain ⟨z1, z2, z3, -, -, -⟩ := hK.1 c hc
      have htk : tks sg 14 (nI n) = 1 + prm (u1 c) (u2 c) := by unfold tks; rw [if_pos rfl, hg, hge]; rfl
      rw [htk] at hf1
      refine mo_pass_14 hl hmb hok hK hm hpc ho hx hrl hrv hlo hsk hf1.1 hf1.2 hn hk hmo hc rfl rfl z1 z2 z3 (fun lo' sk' σ' a b c d e => hT lo' sk' σ' ?_ b c ?_ e)
      · rw [actR_p (o := 14) (by decide), htk]; simp only [tres, hg, hge]; exact a
      · rw [htk]; exact d
  · obtain ⟨n, hn, hxn, -⟩ := hasI_of (tb := tb) (k := x) (by simpa [f5o] using hf5o)
    subst hxn
    exact mo_pass_15 hl hmb hok hK hm hpc ho hx hrl hrv hlo hsk hf1.1 hf1.2 hn (fun lo' sk' σ' a b c d e => hT lo' sk' σ' (by rw [actR_p (o := 15) (by decide)]; simp only [tres]; rw [nI_clamp (by omega)]; exact a) b c d e)
  · exact mo_pass_16 hl hmb hok hK hm hpc ho hx hrl hrv hlo hsk hf1.1 hf1.2 (fun lo' sk' σ' a b c d e => hT lo' sk' σ' (by rw [actR_0 (o := 16) (by decide) (by decide)]; exact a) b c d e)
  · exact mo_pass_17 hl hmb hok hK hm hpc ho hx hrl hrv hlo hsk hf1.1 hf1.2 (fun lo' sk' σ' a b c d e => hT lo' sk' σ' (by rw [actR_0 (o := 17) (by decide) (by decide)]; exact a) b c d e)
  · exact mo_pass_18 hl hmb hok hK hm hpc ho hx hrl hrv hlo hsk hf1.1 hf1.2 (fun lo' sk' σ' a b c d e => hT lo' sk' σ' (by rw [actR_0 (o := 18) (by decide) (by decide)]; exact a) b c d e)
  · exact mo_pass_19 hl hmb hok hK hm hpc ho hx hrl hrv hlo hsk hf1.1 hf1.2 (fun lo' sk' σ' a b c d e => hT lo' sk' σ' (by rw [actR_p (o := 19) (by decide)]; exact a) b c d e)
  · exact mo_pass_20 hl hmb hok hK hm hpc ho hx hrl hrv hlo hsk hf1.1 hf1.2 (fun lo' sk' σ' a b c d e => hT lo' sk' σ' (by rw [actR_p (o := 20) (by decide)]; exact a) b c d e)
  · exact mo_pass_21 hl hmb hok hK hm hpc ho hx hrl hrv hlo hsk hf1.1 hf1.2 (fun lo' sk' σ' a b c d e => hT lo' sk' σ' (by rw [actR_0 (o := 21) (by decide) (by decide)]; exact a) b c d e)
  · exact mo_pass_22 hl hmb hok hK hm hpc ho hx hrl hrv hlo hsk hf1.1 hf1.2 (fun lo' sk' σ' a b c d e => hT lo' sk' σ' (by rw [actR_p (o := 22) (by decide)]; exact a) b c d e)
  · exact mo_pass_23 hl hmb hok hK hm hpc ho hx hrl hrv hlo hsk hf1.1 hf1.2 (fun lo' sk' σ' a b c d e => hT lo' sk' σ' (by rw [actR_0 (o := 23) (by decide) (by decide)]; exact a) b c d e)
  · exact mo_pass_24 hl hmb hok hK hm hpc ho hx hrl hrv hlo hsk hf1.1 hf1.2 (fun lo' sk' σ' a b c d e => hT lo' sk' σ' (by rw [actR_pp (o := 24) (by decide)]; exact a) b c d e)
  · exact mo_pass_25 hl hmb hok hK hm hpc ho hx hrl hrv hlo hsk hf1.1 hf1.2 (fun lo' sk' σ' a b c d e => hT lo' sk' σ' (by rw [actR_p (o := 25) (by decide)]; exact a) b c d e)
theorem miss_ty {x : Option Nat} : miss tb x = !tyOk tb x := by
  unfold miss tyOk
  cases x with
  | none => rfl
  | some t =>
    by_cases h : t < 10
    · simp [h]
    · simp [h]
theorem mo_miss (hl : l.stackTraces = false) {x : Option Nat} (hO : MoO σ fa vf wh wy hg dp md ov oh dn an) (hw : MoW σ tb pr ow ft hs) (hx : ob 16 x) : jl_m l G m_Mo_missing [.ref 22, .int (en x)] σ (.inl (some (.int (bi (!tyOk tb x))))) σ := by
  rw [← miss_ty]
  exact mo_missing hl hO hw hx
theorem d_Mo_badTypes_47 : decode m_Mo_badTypes.2.1 47 = .ok (.iload_n 3, 1) := by decide +kernel
theorem d_Mo_badTypes_48 : decode m_Mo_badTypes.2.1 48 = .ok (.aload_n 0, 1) := by decide +kernel
theorem d_Mo_badTypes_49 : decode m_Mo_badTypes.2.1 49 = .ok (.iload_n 2, 1) := by decide +kernel
theorem k_Mo_badTypes_126 : jl_cv m_Mo_badTypes m_Mo_fieldsOf 126 1 = true := by decide +kernel
theorem d_Mo_badTypes_50 : decode m_Mo_badTypes.2.1 50 = .ok (.invokevirtual 126, 3) := by decide +kernel
theorem d_Mo_badTypes_53 : decode m_Mo_badTypes.2.1 53 = .ok (.if_icmp .ge 24, 3) := by decide +kernel
theorem d_Mo_badTypes_77 : decode m_Mo_badTypes.2.1 77 = .ok (.iconst 0, 1) := by decide +kernel
theorem d_Mo_badTypes_78 : decode m_Mo_badTypes.2.1 78 = .ok (.ireturn, 1) := by decide +kernel
theorem d_Mo_badTypes_56 : decode m_Mo_badTypes.2.1 56 = .ok (.aload_n 0, 1) := by decide +kernel
theorem d_Mo_badTypes_57 : decode m_Mo_badTypes.2.1 57 = .ok (.aload_n 0, 1) := by decide +kernel
theorem d_Mo_badTypes_58 : decode m_Mo_badTypes.2.1 58 = .ok (.iload_n 2, 1) := by decide +kernel
theorem d_Mo_badTypes_59 : decode m_Mo_badTypes.2.1 59 = .ok (.iload_n 3, 1) := by decide +kernel
theorem k_Mo_badTypes_164 : jl_cv m_Mo_badTypes m_Mo_typeOfField 164 2 = true := by decide +kernel
theorem d_Mo_badTypes_60 : decode m_Mo_badTypes.2.1 60 = .ok (.invokevirtual 164, 3) := by decide +kernel
theorem k_Mo_badTypes_209 : jl_cv m_Mo_badTypes m_Mo_missing 209 1 = true := by decide +kernel
theorem d_Mo_badTypes_63 : decode m_Mo_badTypes.2.1 63 = .ok (.invokevirtual 209, 3) := by decide +kernel
theorem d_Mo_badTypes_66 : decode m_Mo_badTypes.2.1 66 = .ok (.ifCond .eq 5, 3) := by decide +kernel
theorem d_Mo_badTypes_71 : decode m_Mo_badTypes.2.1 71 = .ok (.iinc 3 1, 3) := by decide +kernel
theorem d_Mo_badTypes_74 : decode m_Mo_badTypes.2.1 74 = .ok (.goto (-27), 3) := by decide +kernel
theorem d_Mo_badTypes_69 : decode m_Mo_badTypes.2.1 69 = .ok (.iconst 1, 1) := by decide +kernel
theorem d_Mo_badTypes_70 : decode m_Mo_badTypes.2.1 70 = .ok (.ireturn, 1) := by decide +kernel
theorem mo_bad_l (hl : l.stackTraces = false) {m : Nat} (hO : MoO σ fa vf wh wy hg dp md ov oh dn an) (hw : MoW σ tb pr ow ft hs) (hu : MoM σ u1 u2 ur ul uo ua uc us ut uk) (hok : WoOk tb pr ow fi) (hm : m < 24) (hft : ∀ k f, tyv (some (fty pr fi ft k f))) (hq1 : tyv (u1 m)) (hq2 : tyv (u2 m)) (hq3 : ur m < 16) : ∀ (nn : Nat) (i : Nat), fi (m / 4) + ow (m / 4) - i < nn → i ≤ fi (m / 4) + ow (m / 4) → jl_W l G m_Mo_badTypes (0, 0) 47 [some (.ref 22), some (.int (nI m)), some (.int (nI (m / 4))), some (.int (nI i))] [] σ (.inl (some (.int (bi (anyC (fun f => !tyOk tb (some (fty pr fi ft (m / 4) f))) (fi (m / 4) + ow (m / 4) - i) i))))) (σ) := by
  obtain ⟨h23, h24, h25, h26, h27⟩ := id hw
  obtain ⟨h28, h29, h30, h31, h32, h33, h34, h35, h36, h37⟩ := id hu
  have hk6 : m / 4 < 6 := by omega
  have hfb := hok.2.2.1 _ hk6
  have hob := hok.2.1 _ hk6
  intro nn
  induction nn with
  | zero => intro i hnn; exact absurd hnn (Nat.not_lt_zero _)
  | succ nn ihn =>
    intro i hnn hi
    refine jr_iload_n d_Mo_badTypes_47 rfl ?_
    refine jr_aload_n d_Mo_badTypes_48 rfl ?_
    refine jr_iload_n d_Mo_badTypes_49 rfl ?_
    refine jr_callV (As := [.int (nI (m / 4))]) d_Mo_badTypes_50 k_Mo_badTypes_126 hO rfl rfl rfl (Nat.le_of_ble_eq_true rfl) (by decide) (by decide) (mo_fields (x := some (m / 4)) hl hO hw hok (ob_s (by omega))) ?_
    show jl_W l G m_Mo_badTypes (0, 0) 53 [some (.ref 22), some (.int (nI m)), some (.int (nI (m / 4))), some (.int (nI i))] [.int (nI (fi (m / 4) + ow (m / 4))), .int (nI i)] (σ) (.inl (some (.int (bi (anyC (fun f => !tyOk tb (some (fty pr fi ft (m / 4) f))) (fi (m / 4) + ow (m / 4) - i) i))))) (σ)
    refine jr_icmp_geN 77 d_Mo_badTypes_53 (by decide) (by omega) (by omega) (fun c1 => ?_) (fun c1 => ?_)
    · refine jr_iconst ((nI (0))) d_Mo_badTypes_77 (by decide) ?_
      exact jr_zretE d_Mo_badTypes_78 rfl (by decide) (by rw [show fi (m / 4) + ow (m / 4) - i = 0 by omega]; rfl) (rfl) (by decide) (by decide)
    · refine jr_aload_n d_Mo_badTypes_56 rfl ?_
      refine jr_aload_n d_Mo_badTypes_57 rfl ?_
      refine jr_iload_n d_Mo_badTypes_58 rfl ?_
      refine jr_iload_n d_Mo_badTypes_59 rfl ?_
      refine jr_callV (As := [.int (nI (m / 4)), .int (nI i)]) d_Mo_badTypes_60 k_Mo_badTypes_164 hO rfl rfl rfl (Nat.le_of_ble_eq_true rfl) (by decide) (by decide) (mo_tf hl hO hw hok (by omega) (by omega)) ?_
      show jl_W l G m_Mo_badTypes (0, 0) 63 [some (.ref 22), some (.int (nI m)), some (.int (nI (m / 4))), some (.int (nI i))] [.int (nI (fty pr fi ft (m / 4) i)), .ref 22] (σ) (.inl (some (.int (bi (anyC (fun f => !tyOk tb (some (fty pr fi ft (m / 4) f))) (fi (m / 4) + ow (m / 4) - i) i))))) (σ)
      refine jr_callV (As := [.int (nI (fty pr fi ft (m / 4) i))]) d_Mo_badTypes_63 k_Mo_badTypes_209 hO rfl rfl rfl (Nat.le_of_ble_eq_true rfl) (by decide) (by decide) (mo_miss (x := some (fty pr fi ft (m / 4) i)) hl hO hw (hft _ _).ob) ?_
      show jl_W l G m_Mo_badTypes (0, 0) 66 [some (.ref 22), some (.int (nI m)), some (.int (nI (m / 4))), some (.int (nI i))] [.int (bi (!tyOk tb (some (fty pr fi ft (m / 4) i))))] (σ) (.inl (some (.int (bi (anyC (fun f => !tyOk tb (some (fty pr fi ft (m / 4) f))) (fi (m / 4) + ow (m / 4) - i) i))))) (σ)
      refine jr_if_eq 71 d_Mo_badTypes_66 (by decide) (fun c2 => ?_) (fun c2 => ?_)
      · refine jr_iinc ((nI (i + 1))) d_Mo_badTypes_71 (by decide) rfl (jl_inc _) ?_
        show jl_W l G m_Mo_badTypes (0, 0) 74 [some (.ref 22), some (.int (nI m)), some (.int (nI (m / 4))), some (.int (nI (i + 1)))] [] (σ) (.inl (some (.int (bi (anyC (fun f => !tyOk tb (some (fty pr fi ft (m / 4) f))) (fi (m / 4) + ow (m / 4) - i) i))))) (σ)
        refine jr_goto 47 d_Mo_badTypes_74 (by decide) ?_
        exact jl_oeq (by rw [show fi (m / 4) + ow (m / 4) - i = (fi (m / 4) + ow (m / 4) - (i + 1)) + 1 by omega]; simp only [anyC]; rw [bi_0.mp c2, Bool.false_or]) (ihn (i + 1) (by omega) (by omega))
      · refine jr_iconst ((nI (1))) d_Mo_badTypes_69 (by decide) ?_
        exact jr_zretE d_Mo_badTypes_70 rfl (by decide) (by rw [show fi (m / 4) + ow (m / 4) - i = (fi (m / 4) + ow (m / 4) - (i + 1)) + 1 by omega]; simp only [anyC]; rw [bi_nf c2]; rfl) (rfl) (by decide) (by decide)
theorem d_Mo_badTypes_0 : decode m_Mo_badTypes.2.1 0 = .ok (.iload_n 1, 1) := by decide +kernel
theorem d_Mo_badTypes_1 : decode m_Mo_badTypes.2.1 1 = .ok (.iconst 4, 1) := by decide +kernel
theorem d_Mo_badTypes_2 : decode m_Mo_badTypes.2.1 2 = .ok (.idiv, 1) := by decide +kernel
theorem d_Mo_badTypes_3 : decode m_Mo_badTypes.2.1 3 = .ok (.istore_n 2, 1) := by decide +kernel
theorem d_Mo_badTypes_4 : decode m_Mo_badTypes.2.1 4 = .ok (.aload_n 0, 1) := by decide +kernel
theorem d_Mo_badTypes_5 : decode m_Mo_badTypes.2.1 5 = .ok (.aload_n 0, 1) := by decide +kernel
theorem f_Mo_badTypes_26 : jl_fd m_Mo_badTypes 26 7 6 = true := by decide +kernel
theorem d_Mo_badTypes_6 : decode m_Mo_badTypes.2.1 6 = .ok (.getfield 26, 3) := by decide +kernel
theorem d_Mo_badTypes_9 : decode m_Mo_badTypes.2.1 9 = .ok (.iload_n 1, 1) := by decide +kernel
theorem d_Mo_badTypes_10 : decode m_Mo_badTypes.2.1 10 = .ok (.iaload, 1) := by decide +kernel
theorem d_Mo_badTypes_11 : decode m_Mo_badTypes.2.1 11 = .ok (.invokevirtual 209, 3) := by decide +kernel
theorem d_Mo_badTypes_14 : decode m_Mo_badTypes.2.1 14 = .ok (.ifCond .ne 29, 3) := by decide +kernel
theorem d_Mo_badTypes_43 : decode m_Mo_badTypes.2.1 43 = .ok (.iconst 1, 1) := by decide +kernel
theorem d_Mo_badTypes_44 : decode m_Mo_badTypes.2.1 44 = .ok (.ireturn, 1) := by decide +kernel
theorem d_Mo_badTypes_17 : decode m_Mo_badTypes.2.1 17 = .ok (.aload_n 0, 1) := by decide +kernel
theorem d_Mo_badTypes_18 : decode m_Mo_badTypes.2.1 18 = .ok (.aload_n 0, 1) := by decide +kernel
theorem f_Mo_badTypes_29 : jl_fd m_Mo_badTypes 29 7 7 = true := by decide +kernel
theorem d_Mo_badTypes_19 : decode m_Mo_badTypes.2.1 19 = .ok (.getfield 29, 3) := by decide +kernel
theorem d_Mo_badTypes_22 : decode m_Mo_badTypes.2.1 22 = .ok (.iload_n 1, 1) := by decide +kernel
theorem d_Mo_badTypes_23 : decode m_Mo_badTypes.2.1 23 = .ok (.iaload, 1) := by decide +kernel
theorem d_Mo_badTypes_24 : decode m_Mo_badTypes.2.1 24 = .ok (.invokevirtual 209, 3) := by decide +kernel
theorem d_Mo_badTypes_27 : decode m_Mo_badTypes.2.1 27 = .ok (.ifCond .ne 16, 3) := by decide +kernel
theorem d_Mo_badTypes_30 : decode m_Mo_badTypes.2.1 30 = .ok (.aload_n 0, 1) := by decide +kernel
theorem d_Mo_badTypes_31 : decode m_Mo_badTypes.2.1 31 = .ok (.aload_n 0, 1) := by decide +kernel
theorem f_Mo_badTypes_32 : jl_fd m_Mo_badTypes 32 7 8 = true := by decide +kernel
theorem d_Mo_badTypes_32 : decode m_Mo_badTypes.2.1 32 = .ok (.getfield 32, 3) := by decide +kernel
theorem d_Mo_badTypes_35 : decode m_Mo_badTypes.2.1 35 = .ok (.iload_n 1, 1) := by decide +kernel
theorem d_Mo_badTypes_36 : decode m_Mo_badTypes.2.1 36 = .ok (.iaload, 1) := by decide +kernel
theorem d_Mo_badTypes_37 : decode m_Mo_badTypes.2.1 37 = .ok (.invokevirtual 209, 3) := by decide +kernel
theorem d_Mo_badTypes_40 : decode m_Mo_badTypes.2.1 40 = .ok (.ifCond .eq 5, 3) := by decide +kernel
theorem d_Mo_badTypes_45 : decode m_Mo_badTypes.2.1 45 = .ok (.iconst 0, 1) := by decide +kernel
theorem d_Mo_badTypes_46 : decode m_Mo_badTypes.2.1 46 = .ok (.istore_n 3, 1) := by decide +kernel
theorem mo_bad (hl : l.stackTraces = false) {m : Nat} (hO : MoO σ fa vf wh wy hg dp md ov oh dn an) (hw : MoW σ tb pr ow ft hs) (hu : MoM σ u1 u2 ur ul uo ua uc us ut uk) (hok : WoOk tb pr ow fi) (hm : m < 24) (hft : ∀ k f, tyv (some (fty pr fi ft k f))) (hq1 : tyv (u1 m)) (hq2 : tyv (u2 m)) (hq3 : ur m < 16) : jl_m l G m_Mo_badTypes [.ref 22, .int (nI m)] σ (.inl (some (.int (bi (!tyAll tb pr ow fi ft (m / 4) (u1 m) (u2 m) (ur m)))))) (σ) := by
  obtain ⟨h23, h24, h25, h26, h27⟩ := id hw
  obtain ⟨h28, h29, h30, h31, h32, h33, h34, h35, h36, h37⟩ := id hu
  have hk6 : m / 4 < 6 := by omega
  have hfb := hok.2.2.1 _ hk6
  have hob := hok.2.1 _ hk6
  refine jl_of (as := [.ref 22, .int (nI m)]) rfl (by decide) hl (jl_cc rfl (jl_cc rfl jl_ca)) (Nat.le_of_ble_eq_true rfl) ?_
  show jl_W l G m_Mo_badTypes (0, 0) 0 [some (.ref 22), some (.int (nI m)), none, none] [] (σ) (.inl (some (.int (bi (!tyAll tb pr ow fi ft (m / 4) (u1 m) (u2 m) (ur m)))))) (σ)
  refine jr_iload_n d_Mo_badTypes_0 rfl ?_
  refine jr_iconst ((nI (4))) d_Mo_badTypes_1 (by decide) ?_
  refine jr_idivN d_Mo_badTypes_2 (by omega) (by omega) (by omega) ?_
  refine jr_istore_n d_Mo_badTypes_3 (by decide) ?_
  show jl_W l G m_Mo_badTypes (0, 0) 4 [some (.ref 22), some (.int (nI m)), some (.int (nI ((m) / (4)))), none] [] (σ) (.inl (some (.int (bi (!tyAll tb pr ow fi ft (m / 4) (u1 m) (u2 m) (ur m)))))) (σ)
  refine jr_aload_n d_Mo_badTypes_4 rfl ?_
  refine jr_aload_n d_Mo_badTypes_5 rfl ?_
  refine jr_getf d_Mo_badTypes_6 f_Mo_badTypes_26 hO rfl ?_
  refine jr_iload_n d_Mo_badTypes_9 rfl ?_
  refine jr_ialdN d_Mo_badTypes_10 h28 (by omega) (by omega) ?_
  refine jr_callV (As := [.int (en (u1 (m)))]) d_Mo_badTypes_11 k_Mo_badTypes_209 hO rfl rfl rfl (Nat.le_of_ble_eq_true rfl) (by decide) (by decide) (mo_miss (x := u1 m) hl hO hw hq1.ob) ?_
  show jl_W l G m_Mo_badTypes (0, 0) 14 [some (.ref 22), some (.int (nI m)), some (.int (nI ((m) / (4)))), none] [.int (bi (!tyOk tb (u1 m)))] (σ) (.inl (some (.int (bi (!tyAll tb pr ow fi ft (m / 4) (u1 m) (u2 m) (ur m)))))) (σ)
  refine jr_if_ne 43 d_Mo_badTypes_14 (by decide) (fun c1 => ?_) (fun c1 => ?_)
  · refine jr_iconst ((nI (1))) d_Mo_badTypes_43 (by decide) ?_
    exact jr_zretE d_Mo_badTypes_44 rfl (by decide) (bo1 (by simp only [tyAll]; simp [show tyOk tb (u1 m) = false from by simpa using bi_nf c1])) (rfl) (by decide) (by decide)
  · refine jr_aload_n d_Mo_badTypes_17 rfl ?_
    refine jr_aload_n d_Mo_badTypes_18 rfl ?_
    refine jr_getf d_Mo_badTypes_19 f_Mo_badTypes_29 hO rfl ?_
    refine jr_iload_n d_Mo_badTypes_22 rfl ?_
    refine jr_ialdN d_Mo_badTypes_23 h29 (by omega) (by omega) ?_
    refine jr_callV (As := [.int (en (u2 (m)))]) d_Mo_badTypes_24 k_Mo_badTypes_209 hO rfl rfl rfl (Nat.le_of_ble_eq_true rfl) (by decide) (by decide) (mo_miss (x := u2 m) hl hO hw hq2.ob) ?_
    show jl_W l G m_Mo_badTypes (0, 0) 27 [some (.ref 22), some (.int (nI m)), some (.int (nI ((m) / (4)))), none] [.int (bi (!tyOk tb (u2 m)))] (σ) (.inl (some (.int (bi (!tyAll tb pr ow fi ft (m / 4) (u1 m) (u2 m) (ur m)))))) (σ)
    refine jr_if_ne 43 d_Mo_badTypes_27 (by decide) (fun c2 => ?_) (fun c2 => ?_)
    · refine jr_iconst ((nI (1))) d_Mo_badTypes_43 (by decide) ?_
      exact jr_zretE d_Mo_badTypes_44 rfl (by decide) (bo1 (by simp only [tyAll]; simp [show tyOk tb (u1 m) = true from by simpa using bi_0.mp c1, show tyOk tb (u2 m) = false from by simpa using bi_nf c2])) (rfl) (by decide) (by decide)
    · refine jr_aload_n d_Mo_badTypes_30 rfl ?_
      refine jr_aload_n d_Mo_badTypes_31 rfl ?_
      refine jr_getf d_Mo_badTypes_32 f_Mo_badTypes_32 hO rfl ?_
      refine jr_iload_n d_Mo_badTypes_35 rfl ?_
      refine jr_ialdN d_Mo_badTypes_36 h30 (by omega) (by omega) ?_
      refine jr_callV (As := [.int (nI (ur (m)))]) d_Mo_badTypes_37 k_Mo_badTypes_209 hO rfl rfl rfl (Nat.le_of_ble_eq_true rfl) (by decide) (by decide) (mo_miss (x := some (ur m)) hl hO hw (ob_s hq3)) ?_
      show jl_W l G m_Mo_badTypes (0, 0) 40 [some (.ref 22), some (.int (nI m)), some (.int (nI ((m) / (4)))), none] [.int (bi (!tyOk tb (some (ur m))))] (σ) (.inl (some (.int (bi (!tyAll tb pr ow fi ft (m / 4) (u1 m) (u2 m) (ur m)))))) (σ)
      refine jr_if_eq 45 d_Mo_badTypes_40 (by decide) (fun c3 => ?_) (fun c3 => ?_)
      · refine jr_iconst ((nI (0))) d_Mo_badTypes_45 (by decide) ?_
        refine jr_istore_n d_Mo_badTypes_46 (by decide) ?_
        show jl_W l G m_Mo_badTypes (0, 0) 47 [some (.ref 22), some (.int (nI m)), some (.int (nI ((m) / (4)))), some (.int (nI 0))] [] (σ) (.inl (some (.int (bi (!tyAll tb pr ow fi ft (m / 4) (u1 m) (u2 m) (ur m)))))) (σ)
        exact jl_oeq (by simp only [tyAll]; simp [show tyOk tb (u1 m) = true from by simpa using bi_0.mp c1, show tyOk tb (u2 m) = true from by simpa using bi_0.mp c2, show tyOk tb (some (ur m)) = true from by simpa using bi_0.mp c3]) (mo_bad_l hl hO hw hu hok hm hft hq1 hq2 hq3 (fi (m / 4) + ow (m / 4) + 1) 0 (by omega) (by omega))
      · refine jr_iconst ((nI (1))) d_Mo_badTypes_43 (by decide) ?_
        exact jr_zretE d_Mo_badTypes_44 rfl (by decide) (bo1 (by simp only [tyAll]; simp [show tyOk tb (u1 m) = true from by simpa using bi_0.mp c1, show tyOk tb (u2 m) = true from by simpa using bi_0.mp c2, show tyOk tb (some (ur m)) = false from by simpa using bi_nf c3])) (rfl) (by decide) (by decide)
end JMy
