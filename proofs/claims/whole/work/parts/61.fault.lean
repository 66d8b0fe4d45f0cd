/-! the model: faultAt of any INSTRUCTION (wip/gen/p61.py) -/
section JMj
variable {l : Launch} {G : jl_G} {σ : jl_S}
variable {tb : Nat → Bool} {pr : Nat → Option Nat} {ow fi ft : Nat → Nat} {hs : Nat → Bool} {fa vf wh wy hg dp md ov oh dn an : Int32}
variable {u1 u2 : Nat → Option Nat} {ur ul uo : Nat → Nat} {ua : Nat → Int32} {uc us ut uk : Nat → Nat}
variable {lo sk : Nat → Option Nat} {sg : Int32 → Option Sg}
theorem rwM_s {h j : Nat} (hj : j < h) : rwM lo sk (6 + h - j) = sk (h - 1 - j) := by
  unfold rwM
  rw [if_neg (by omega)]
  congr 1
  omega
theorem f2eq {T tk pt h : Nat} {R : Bool} {x : Int32} {o rs : Nat} {s : Nat → Option Nat} {ld : Option Nat} (h1 : f1 sg o x h = (decide (h < tk) || decide (5 < h - tk + pt))) (h2 : tk ≤ h → tfi pr fi ft sg o x rs s ld = R) : flt2 pr fi ft sg o x rs s ld h = if tk ≤ h ∧ h - tk + pt ≤ 5 then (if R = true then 0 else 2) else 1 := by
  unfold flt2
  rw [h1]
  by_cases a : tk ≤ h
  · rw [h2 a]
    by_cases b : h - tk + pt ≤ 5
    · have z : (decide (h < tk) || decide (5 < h - tk + pt)) = false := by simp; omega
      rw [z, if_neg (show ¬ (false = true) by decide), if_pos (show tk ≤ h ∧ h - tk + pt ≤ 5 from ⟨a, b⟩)]
    · have z : (decide (h < tk) || decide (5 < h - tk + pt)) = true := by simp; omega
      rw [z, if_pos rfl, if_neg (show ¬ (tk ≤ h ∧ h - tk + pt ≤ 5) from fun z => b z.2)]
  · have z : (decide (h < tk) || decide (5 < h - tk + pt)) = true := by simp; omega
    rw [z, if_pos rfl, if_neg (show ¬ (tk ≤ h ∧ h - tk + pt ≤ 5) from fun z => a z.1)]
theorem mo_fa_t (hl : l.stackTraces = false) {m pc o h : Nat} {x : Int32} (hO : MoO σ fa vf wh wy (nI (h)) dp md ov oh dn an) (hw : MoW σ tb pr ow ft hs) (hu : MoM σ u1 u2 ur ul uo ua uc us ut uk) (hr : MoR σ lo sk) (hok : WoOk tb pr ow fi) (hsg : SgM tb pr hs u1 u2 ur sg) (hK : MoK u1 u2 ur ul uo uc us ut uk) (hm : m < 24) (hpc : pc < 24) (ho : uo (24 * m + pc) = o) (hx : ua (24 * m + pc) = x) (hh5 : h ≤ 5) (hlo : ∀ j, ob 16 (lo j)) (hsk : ∀ j, j < h → ∃ t, sk j = some t ∧ t < 16 ∧ (t ≤ 2 ∨ 10 ≤ t)) (hft : ∀ k f, fty pr fi ft k f < 16) (hsk' : ∀ j, ob 16 (sk j)) (hf5 : f5o tb ow fi sg o x = false) : jl_W l G m_Mo_faultAt (0, 0) 22 [some (.ref 22), some (.int (nI m)), some (.int (nI pc)), none, none, none] [] σ (.inl (some (.int (nI (flt2 pr fi ft sg o x (ur m) (fun j => rwM lo sk (6 + h - j)) (rwM lo sk x.toNatClampNeg) h))))) σ := by
  have ho26 : o < 26 := ho ▸ hK.2.1 _ (by omega)
  have hq : o = 0 ∨ o = 1 ∨ o = 2 ∨ o = 3 ∨ o = 4 ∨ o = 5 ∨ o = 6 ∨ o = 7 ∨ o = 8 ∨ o = 9 ∨ o = 10 ∨ o = 11 ∨ o = 12 ∨ o = 13 ∨ o = 14 ∨ o = 15 ∨ o = 16 ∨ o = 17 ∨ o = 18 ∨ o = 19 ∨ o = 20 ∨ o = 21 ∨ o = 22 ∨ o = 23 ∨ o = 24 ∨ o = 25 := by omega
  rcases hq with hoo | hoo | hoo | hoo | hoo | hoo | hoo | hoo | hoo | hoo | hoo | hoo | hoo | hoo | hoo | hoo | hoo | hoo | hoo | hoo | hoo | hoo | hoo | hoo | hoo | hoo
  · exact jl_oeq (by rw [f2eq (T := 0) (tk := 0) (pt := 1) (by rw [hoo]; rfl) (R := true) (fun _ => by rw [hoo]; simp only [tfi])]) (mo_fa_0 hl hO hw hu hr hok hK hm hpc (ho.trans hoo) hx hh5  )
  · obtain ⟨n, hn, hxn⟩ := lt6_of (x := x) (by rw [hoo] at hf5; simpa [f5o] using hf5)
    subst hxn
    exact jl_oeq (by rw [f2eq (T := 0) (tk := 0) (pt := 1) (by rw [hoo]; rfl) (R := (lo n).isSome) (fun _ => by rw [hoo, nI_clamp (by omega)]; simp only [tfi, rwM]; rw [if_pos hn])]) (mo_fa_1 hl hO hw hu hr hok hK hm hpc (ho.trans hoo) hx hh5  hn rfl (hlo n))
  · exact jl_oeq (by rw [f2eq (T := 0) (tk := 1) (pt := 0) (by rw [hoo]; rfl) (R := true) (fun _ => by rw [hoo]; simp only [tfi])]) (mo_fa_2 hl hO hw hu hr hok hK hm hpc (ho.trans hoo) hx hh5 (fun _ => rfl) (hsk' _) )
  · exact jl_oeq (by rw [f2eq (T := 0) (tk := 2) (pt := 1) (by rw [hoo]; rfl) (R := isI (sk (h - 1 - 1)) && isI (sk (h - 1 - 0))) (fun _ => by rw [hoo]; simp only [tfi]; rw [rwM_s (j := 1) (by omega), rwM_s (j := 0) (by omega)])]) (mo_fa_3 hl hO hw hu hr hok hK hm hpc (ho.trans hoo) hx hh5 (fun _ => rfl) (hsk' _) (fun _ => rfl) (hsk' _) )
  · exact jl_oeq (by rw [f2eq (T := 0) (tk := 2) (pt := 1) (by rw [hoo]; rfl) (R := isI (sk (h - 1 - 1)) && isI (sk (h - 1 - 0))) (fun _ => by rw [hoo]; simp only [tfi]; rw [rwM_s (j := 1) (by omega), rwM_s (j := 0) (by omega)])]) (mo_fa_4 hl hO hw hu hr hok hK hm hpc (ho.trans hoo) hx hh5 (fun _ => rfl) (hsk' _) (fun _ => rfl) (hsk' _) )
  · exact jl_oeq (by rw [f2eq (T := 0) (tk := 2) (pt := 1) (by rw [hoo]; rfl) (R := isI (sk (h - 1 - 1)) && isI (sk (h - 1 - 0))) (fun _ => by rw [hoo]; simp only [tfi]; rw [rwM_s (j := 1) (by omega), rwM_s (j := 0) (by omega)])]) (mo_fa_5 hl hO hw hu hr hok hK hm hpc (ho.trans hoo) hx hh5 (fun _ => rfl) (hsk' _) (fun _ => rfl) (hsk' _) )
  · exact jl_oeq (by rw [f2eq (T := 0) (tk := 2) (pt := 1) (by rw [hoo]; rfl) (R := isI (sk (h - 1 - 1)) && isI (sk (h - 1 - 0))) (fun _ => by rw [hoo]; simp only [tfi]; rw [rwM_s (j := 1) (by omega), rwM_s (j := 0) (by omega)])]) (mo_fa_6 hl hO hw hu hr hok hK hm hpc (ho.trans hoo) hx hh5 (fun _ => rfl) (hsk' _) (fun _ => rfl) (hsk' _) )
  · exact jl_oeq (by rw [f2eq (T := 0) (tk := 0) (pt := 0) (by rw [hoo]; rfl) (R := true) (fun _ => by rw [hoo]; simp only [tfi])]) (mo_fa_7 hl hO hw hu hr hok hK hm hpc (ho.trans hoo) hx hh5  )
  · exact jl_oeq (by rw [f2eq (T := 0) (tk := 1) (pt := 0) (by rw [hoo]; rfl) (R := isI (sk (h - 1 - 0))) (fun _ => by rw [hoo]; simp only [tfi]; rw [rwM_s (j := 0) (by omega)])]) (mo_fa_8 hl hO hw hu hr hok hK hm hpc (ho.trans hoo) hx hh5 (fun _ => rfl) (hsk' _) )
  · exact jl_oeq (by rw [f2eq (T := 0) (tk := 2) (pt := 0) (by rw [hoo]; rfl) (R := isI (sk (h - 1 - 1)) && isI (sk (h - 1 - 0))) (fun _ => by rw [hoo]; simp only [tfi]; rw [rwM_s (j := 1) (by omega), rwM_s (j := 0) (by omega)])]) (mo_fa_9 hl hO hw hu hr hok hK hm hpc (ho.trans hoo) hx hh5 (fun _ => rfl) (hsk' _) (fun _ => rfl) (hsk' _) )
  · exact jl_oeq (by rw [f2eq (T := 0) (tk := 0) (pt := 1) (by rw [hoo]; rfl) (R := true) (fun _ => by rw [hoo]; simp only [tfi])]) (mo_fa_10 hl hO hw hu hr hok hK hm hpc (ho.trans hoo) hx hh5  )
  · exact jl_oeq (by rw [f2eq (T := 0) (tk := 0) (pt := 1) (by rw [hoo]; rfl) (R := true) (fun _ => by rw [hoo]; simp only [tfi])]) (mo_fa_11 hl hO hw hu hr hok hK hm hpc (ho.trans hoo) hx hh5  )
  · obtain ⟨n, hn, hxn, hk, hf, -⟩ := hasF_of (tb := tb) (ow := ow) (fi := fi) (x := x) (by rw [hoo] at hf5; simpa [f5o] using hf5)
    subst hxn
    have hxq : xq (nI n) 32 = n / 32 := by unfold xq; rw [nI_clamp hn]
    have hxr : xr (nI n) 32 = n % 32 := by unfold xr; rw [nI_clamp hn]
    exact jl_oeq (by rw [f2eq (T := 0) (tk := 1) (pt := 1) (by rw [hoo]; rfl) (R := part pr (sk (h - 1 - 0)) (some (10 + n / 32))) (fun _ => by rw [hoo]; simp only [tfi, hxq, hxr]; rw [rwM_s (by omega)])]) (mo_fa_12 hl hO hw hu hr hok hK hm hpc (ho.trans hoo) hx hh5 (fun _ => rfl) (hsk' _) hn hk)
  · obtain ⟨n, hn, hxn, hk, hf, -⟩ := hasF_of (tb := tb) (ow := ow) (fi := fi) (x := x) (by rw [hoo] at hf5; simpa [f5o] using hf5)
    subst hxn
    have hxq : xq (nI n) 32 = n / 32 := by unfold xq; rw [nI_clamp hn]
    have hxr : xr (nI n) 32 = n % 32 := by unfold xr; rw [nI_clamp hn]
    exact jl_oeq (by rw [f2eq (T := 0) (tk := 2) (pt := 0) (by rw [hoo]; rfl) (R := part pr (sk (h - 1 - 1)) (some (10 + n / 32)) && part pr (sk (h - 1 - 0)) (some (fty pr fi ft (n / 32) (n % 32)))) (fun _ => by rw [hoo]; simp only [tfi, hxq, hxr]; rw [rwM_s (by omega), rwM_s (by omega)])]) (mo_fa_13 hl hO hw hu hr hok hK hm hpc (ho.trans hoo) hx hh5 (fun _ => rfl) (hsk' _) (fun _ => rfl) (hsk' _) hn hk hf (hft _ _))
  · cases hg : sg x with
    | none => rw [hoo] at hf5; simp [f5o, hg] at hf5
    | some g =>
      obtain ⟨n, c, hn, e, hk, -, hmo, hge⟩ := hsg.of hg
      subst e
      have hc := mmo_lt (sl := n % 4) (hs := hs) (by omega) hok.1 6 (some (n / 4)) (ob_s hk) c hmo
      obtain ⟨z1, z2, z3, -, -, z6⟩ := hK.1 c hc
      have hxq : xq (nI n) 4 = n / 4 := by unfold xq; rw [nI_clamp hn]
      have h1 : f1 sg o (nI n) h = (decide (h < 1 + prm (u1 c) (u2 c)) || decide (5 < h - (1 + prm (u1 c) (u2 c)) + 1)) := by rw [hoo]; unfold f1 tks; rw [if_pos rfl, hg, hge]; rfl
      have h2 : tfi pr fi ft sg o (nI n) (ur m) (fun j => rwM lo sk (6 + h - j)) (rwM lo sk (nI n).toNatClampNeg) = cfit pr (u1 c) (u2 c) (n / 4) (fun j => rwM lo sk (6 + h - j)) := by rw [hoo]; simp only [tfi, hg, hge, hxq]
      cases e1 : u1 c with
      | none =>
        have e2 := z6 e1
        rw [e1, e2] at h1 h2
        exact jl_oeq (by rw [f2eq (T := 0) (tk := 1) (pt := 1) h1 (R := part pr (sk (h - 1 - 0)) (some (10 + n / 4))) (fun q => by rw [h2]; simp only [cfit]; rw [rwM_s (by omega)])]) (mo_fa_14_0 hl hO hw hu hr hok hK hm hpc (ho.trans hoo) hx hh5 (fun _ => rfl) (hsk' _) hn hk hmo hc e1 e2 (e1 ▸ z1) (e2 ▸ z2))
      | some p1 =>
        cases e2 : u2 c with
        | none =>
          rw [e1, e2] at h1 h2
          exact jl_oeq (by rw [f2eq (T := 0) (tk := 2) (pt := 1) h1 (R := part pr (sk (h - 1 - 0)) (some p1) && part pr (sk (h - 1 - 1)) (some (10 + n / 4))) (fun q => by rw [h2]; simp only [cfit]; rw [rwM_s (by omega), rwM_s (by omega)])]) (mo_fa_14_1 hl hO hw hu hr hok hK hm hpc (ho.trans hoo) hx hh5 (fun _ => rfl) (hsk' _) (fun _ => rfl) (hsk' _) hn hk hmo hc e1 e2 (e1 ▸ z1) (e2 ▸ z2))
        | some p2 =>
          rw [e1, e2] at h1 h2
          exact jl_oeq (by rw [f2eq (T := 0) (tk := 3) (pt := 1) h1 (R := part pr (sk (h - 1 - 1)) (some p1) && (part pr (sk (h - 1 - 0)) (some p2) && part pr (sk (h - 1 - 2)) (some (10 + n / 4)))) (fun q => by rw [h2]; simp only [cfit]; rw [rwM_s (by omega), rwM_s (by omega), rwM_s (by omega)])]) (mo_fa_14_2 hl hO hw hu hr hok hK hm hpc (ho.trans hoo) hx hh5 (fun _ => rfl) (hsk' _) (fun _ => rfl) (hsk' _) (fun _ => rfl) (hsk' _) hn hk hmo hc e1 e2 (e1 ▸ z1) (e2 ▸ z2))
  · exact jl_oeq (by rw [f2eq (T := 0) (tk := 1) (pt := 1) (by rw [hoo]; rfl) (R := isO (sk (h - 1 - 0))) (fun _ => by rw [hoo]; simp only [tfi]; rw [rwM_s (j := 0) (by omega)])]) (mo_fa_15 hl hO hw hu hr hok hK hm hpc (ho.trans hoo) hx hh5 (fun _ => rfl) (hsk' _) )
  · by_cases hq : 1 ≤ h
    · obtain ⟨t0, g0, l0, v0⟩ := hsk (h - 1 - 0) (by omega)
      exact jl_oeq (by rw [f2eq (T := 0) (tk := 1) (pt := 0) (by rw [hoo]; rfl) (R := !isI (some t0)) (fun _ => by rw [hoo]; simp only [tfi]; rw [rwM_s (j := 0) (by omega), g0])]) (mo_fa_16 hl hO hw hu hr hok hK hm hpc (ho.trans hoo) hx hh5 (fun _ => g0) l0 v0)
    · exact jl_oeq (by rw [f2eq (T := 0) (tk := 1) (pt := 0) (by rw [hoo]; rfl) (R := !isI (some 0)) (fun z => absurd z hq)]) (mo_fa_16 hl hO hw hu hr hok hK hm hpc (ho.trans hoo) hx hh5 (fun z => absurd z hq) (t0 := 0) (by decide) (by decide))
  · exact jl_oeq (by rw [f2eq (T := 0) (tk := 1) (pt := 0) (by rw [hoo]; rfl) (R := isO (sk (h - 1 - 0))) (fun _ => by rw [hoo]; simp only [tfi]; rw [rwM_s (j := 0) (by omega)])]) (mo_fa_17 hl hO hw hu hr hok hK hm hpc (ho.trans hoo) hx hh5 (fun _ => rfl) (hsk' _) )
  · exact jl_oeq (by rw [f2eq (T := 0) (tk := 1) (pt := 0) (by rw [hoo]; rfl) (R := part pr (sk (h - 1 - 0)) (some (ur m))) (fun _ => by rw [hoo]; simp only [tfi]; rw [rwM_s (j := 0) (by omega)])]) (mo_fa_18 hl hO hw hu hr hok hK hm hpc (ho.trans hoo) hx hh5 (fun _ => rfl) (hsk' _) )
  · exact jl_oeq (by rw [f2eq (T := 0) (tk := 1) (pt := 1) (by rw [hoo]; rfl) (R := isI (sk (h - 1 - 0))) (fun _ => by rw [hoo]; simp only [tfi]; rw [rwM_s (j := 0) (by omega)])]) (mo_fa_19 hl hO hw hu hr hok hK hm hpc (ho.trans hoo) hx hh5 (fun _ => rfl) (hsk' _) )
  · exact jl_oeq (by rw [f2eq (T := 0) (tk := 2) (pt := 1) (by rw [hoo]; rfl) (R := part pr (sk (h - 1 - 1)) (some 1) && isI (sk (h - 1 - 0))) (fun _ => by rw [hoo]; simp only [tfi]; rw [rwM_s (j := 1) (by omega), rwM_s (j := 0) (by omega)])]) (mo_fa_20 hl hO hw hu hr hok hK hm hpc (ho.trans hoo) hx hh5 (fun _ => rfl) (hsk' _) (fun _ => rfl) (hsk' _) )
  · exact jl_oeq (by rw [f2eq (T := 0) (tk := 3) (pt := 0) (by rw [hoo]; rfl) (R := part pr (sk (h - 1 - 2)) (some 1) && (isI (sk (h - 1 - 1)) && isI (sk (h - 1 - 0)))) (fun _ => by rw [hoo]; simp only [tfi]; rw [rwM_s (j := 2) (by omega), rwM_s (j := 1) (by omega), rwM_s (j := 0) (by omega)])]) (mo_fa_21 hl hO hw hu hr hok hK hm hpc (ho.trans hoo) hx hh5 (fun _ => rfl) (hsk' _) (fun _ => rfl) (hsk' _) (fun _ => rfl) (hsk' _) )
  · exact jl_oeq (by rw [f2eq (T := 0) (tk := 1) (pt := 1) (by rw [hoo]; rfl) (R := part pr (sk (h - 1 - 0)) (some 1)) (fun _ => by rw [hoo]; simp only [tfi]; rw [rwM_s (j := 0) (by omega)])]) (mo_fa_22 hl hO hw hu hr hok hK hm hpc (ho.trans hoo) hx hh5 (fun _ => rfl) (hsk' _) )
  · exact jl_oeq (by rw [f2eq (T := 0) (tk := 1) (pt := 0) (by rw [hoo]; rfl) (R := true) (fun _ => by rw [hoo]; simp only [tfi])]) (mo_fa_23 hl hO hw hu hr hok hK hm hpc (ho.trans hoo) hx hh5 (fun _ => rfl) (hsk' _) )
  · exact jl_oeq (by rw [f2eq (T := 0) (tk := 1) (pt := 2) (by rw [hoo]; rfl) (R := true) (fun _ => by rw [hoo]; simp only [tfi])]) (mo_fa_24 hl hO hw hu hr hok hK hm hpc (ho.trans hoo) hx hh5 (fun _ => rfl) (hsk' _) )
  · by_cases hq : 2 ≤ h
    · obtain ⟨t0, g0, l0, v0⟩ := hsk (h - 1 - 0) (by omega); obtain ⟨t1, g1, l1, v1⟩ := hsk (h - 1 - 1) (by omega)
      exact jl_oeq (by rw [f2eq (T := 0) (tk := 2) (pt := 1) (by rw [hoo]; rfl) (R := !isI (some t1) && !isI (some t0)) (fun _ => by rw [hoo]; simp only [tfi]; rw [rwM_s (j := 1) (by omega), g1, rwM_s (j := 0) (by omega), g0])]) (mo_fa_25 hl hO hw hu hr hok hK hm hpc (ho.trans hoo) hx hh5 (fun _ => g0) l0 v0 (fun _ => g1) l1 v1)
    · exact jl_oeq (by rw [f2eq (T := 0) (tk := 2) (pt := 1) (by rw [hoo]; rfl) (R := !isI (some 0) && !isI (some 0)) (fun z => absurd z hq)]) (mo_fa_25 hl hO hw hu hr hok hK hm hpc (ho.trans hoo) hx hh5 (fun z => absurd z hq) (t0 := 0) (by decide) (by decide) (fun z => absurd z hq) (t1 := 0) (by decide) (by decide))
theorem d_Mo_faultAt_0 : decode m_Mo_faultAt.2.1 0 = .ok (.aload_n 0, 1) := by decide +kernel
theorem d_Mo_faultAt_1 : decode m_Mo_faultAt.2.1 1 = .ok (.iload_n 1, 1) := by decide +kernel
theorem d_Mo_faultAt_2 : decode m_Mo_faultAt.2.1 2 = .ok (.iload_n 2, 1) := by decide +kernel
theorem k_Mo_faultAt_170 : jl_cv m_Mo_faultAt m_Mo_fault4 170 2 = true := by decide +kernel
theorem d_Mo_faultAt_3 : decode m_Mo_faultAt.2.1 3 = .ok (.invokevirtual 170, 3) := by decide +kernel
theorem d_Mo_faultAt_6 : decode m_Mo_faultAt.2.1 6 = .ok (.ifCond .eq 5, 3) := by decide +kernel
theorem d_Mo_faultAt_11 : decode m_Mo_faultAt.2.1 11 = .ok (.aload_n 0, 1) := by decide +kernel
theorem d_Mo_faultAt_12 : decode m_Mo_faultAt.2.1 12 = .ok (.iload_n 1, 1) := by decide +kernel
theorem d_Mo_faultAt_13 : decode m_Mo_faultAt.2.1 13 = .ok (.iload_n 2, 1) := by decide +kernel
theorem k_Mo_faultAt_173 : jl_cv m_Mo_faultAt m_Mo_fault5 173 2 = true := by decide +kernel
theorem d_Mo_faultAt_14 : decode m_Mo_faultAt.2.1 14 = .ok (.invokevirtual 173, 3) := by decide +kernel
theorem d_Mo_faultAt_17 : decode m_Mo_faultAt.2.1 17 = .ok (.ifCond .eq 5, 3) := by decide +kernel
theorem d_Mo_faultAt_20 : decode m_Mo_faultAt.2.1 20 = .ok (.iconst 5, 1) := by decide +kernel
theorem d_Mo_faultAt_21 : decode m_Mo_faultAt.2.1 21 = .ok (.ireturn, 1) := by decide +kernel
theorem d_Mo_faultAt_9 : decode m_Mo_faultAt.2.1 9 = .ok (.iconst 4, 1) := by decide +kernel
theorem d_Mo_faultAt_10 : decode m_Mo_faultAt.2.1 10 = .ok (.ireturn, 1) := by decide +kernel
theorem mo_faultAt (hl : l.stackTraces = false) {m pc o h : Nat} {x : Int32} (hO : MoO σ fa vf wh wy (nI (h)) dp md ov oh dn an) (hw : MoW σ tb pr ow ft hs) (hu : MoM σ u1 u2 ur ul uo ua uc us ut uk) (hr : MoR σ lo sk) (hok : WoOk tb pr ow fi) (hsg : SgM tb pr hs u1 u2 ur sg) (hK : MoK u1 u2 ur ul uo uc us ut uk) (hm : m < 24) (hpc : pc < 24) (ho : uo (24 * m + pc) = o) (hx : ua (24 * m + pc) = x) (hh5 : h ≤ 5) (hlo : ∀ j, ob 16 (lo j)) (hsk : ∀ j, j < h → ∃ t, sk j = some t ∧ t < 16 ∧ (t ≤ 2 ∨ 10 ≤ t)) (hft : ∀ k f, fty pr fi ft k f < 16) (hsk' : ∀ j, ob 16 (sk j)) : jl_m l G m_Mo_faultAt [.ref 22, .int (nI m), .int (nI pc)] σ (.inl (some (.int (nI (flt tb pr ow fi ft sg o x (ul m) (fun i => us (2 * m + i) / 32) (fun i => us (2 * m + i) % 32) (fun i => ut (2 * m + i)) (fun i => uk (2 * m + i)) (uc m) (ur m) pc (rwM lo sk) h))))) (σ) := by
  obtain ⟨h23, h24, h25, h26, h27⟩ := id hw
  obtain ⟨h28, h29, h30, h31, h32, h33, h34, h35, h36, h37⟩ := id hu
  obtain ⟨r1, r2⟩ := id hr
  refine jl_of (as := [.ref 22, .int (nI m), .int (nI pc)]) rfl (by decide) hl (jl_cc rfl (jl_cc rfl (jl_cc rfl jl_ca))) (Nat.le_of_ble_eq_true rfl) ?_
  show jl_W l G m_Mo_faultAt (0, 0) 0 [some (.ref 22), some (.int (nI m)), some (.int (nI pc)), none, none, none] [] (σ) (.inl (some (.int (nI (flt tb pr ow fi ft sg o x (ul m) (fun i => us (2 * m + i) / 32) (fun i => us (2 * m + i) % 32) (fun i => ut (2 * m + i)) (fun i => uk (2 * m + i)) (uc m) (ur m) pc (rwM lo sk) h))))) (σ)
  refine jr_aload_n d_Mo_faultAt_0 rfl ?_
  refine jr_iload_n d_Mo_faultAt_1 rfl ?_
  refine jr_iload_n d_Mo_faultAt_2 rfl ?_
  refine jr_callV (As := [.int (nI m), .int (nI pc)]) d_Mo_faultAt_3 k_Mo_faultAt_170 hO rfl rfl rfl (Nat.le_of_ble_eq_true rfl) (by decide) (by decide) (mo_fault4 hl hO hw hu hK hm hpc ho hx) ?_
  show jl_W l G m_Mo_faultAt (0, 0) 6 [some (.ref 22), some (.int (nI m)), some (.int (nI pc)), none, none, none] [.int (bi (f4 o x (ul m) (fun i => us (2 * m + i) / 32) (fun i => us (2 * m + i) % 32) (fun i => ut (2 * m + i)) (uc m) pc))] (σ) (.inl (some (.int (nI (flt tb pr ow fi ft sg o x (ul m) (fun i => us (2 * m + i) / 32) (fun i => us (2 * m + i) % 32) (fun i => ut (2 * m + i)) (fun i => uk (2 * m + i)) (uc m) (ur m) pc (rwM lo sk) h))))) (σ)
  refine jr_if_eq 11 d_Mo_faultAt_6 (by decide) (fun c1 => ?_) (fun c1 => ?_)
  · refine jr_aload_n d_Mo_faultAt_11 rfl ?_
    refine jr_iload_n d_Mo_faultAt_12 rfl ?_
    refine jr_iload_n d_Mo_faultAt_13 rfl ?_
    refine jr_callV (As := [.int (nI m), .int (nI pc)]) d_Mo_faultAt_14 k_Mo_faultAt_173 hO rfl rfl rfl (Nat.le_of_ble_eq_true rfl) (by decide) (by decide) (mo_fault5 hl hO hw hu hok hsg hK hm hpc ho hx) ?_
    show jl_W l G m_Mo_faultAt (0, 0) 17 [some (.ref 22), some (.int (nI m)), some (.int (nI pc)), none, none, none] [.int (bi (f5 tb ow fi sg o x (fun i => us (2 * m + i) / 32) (fun i => us (2 * m + i) % 32) (fun i => uk (2 * m + i)) (uc m) pc))] (σ) (.inl (some (.int (nI (flt tb pr ow fi ft sg o x (ul m) (fun i => us (2 * m + i) / 32) (fun i => us (2 * m + i) % 32) (fun i => ut (2 * m + i)) (fun i => uk (2 * m + i)) (uc m) (ur m) pc (rwM lo sk) h))))) (σ)
    refine jr_if_eq 22 d_Mo_faultAt_17 (by decide) (fun c2 => ?_) (fun c2 => ?_)
    · exact jl_oeq (by unfold flt; rw [if_neg (by rw [bi_0.mp c1]; decide), if_neg (by rw [bi_0.mp c2]; decide)]; rfl) (mo_fa_t hl hO hw hu hr hok hsg hK hm hpc ho hx hh5 hlo hsk hft hsk' (f5o_f (bi_0.mp c2)))
    · refine jr_iconst ((nI (5))) d_Mo_faultAt_20 (by decide) ?_
      exact jr_iretE d_Mo_faultAt_21 rfl (by unfold flt; rw [if_neg (by rw [bi_0.mp c1]; decide), if_pos (bi_nf c2)]) (rfl) (by decide) (by decide)
  · refine jr_iconst ((nI (4))) d_Mo_faultAt_9 (by decide) ?_
    exact jr_iretE d_Mo_faultAt_10 rfl (by unfold flt; rw [if_pos (bi_nf c1)]) (rfl) (by decide) (by decide)
end JMj
