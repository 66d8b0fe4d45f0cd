/-! words of VERIFYING: an INSTRUCTION without FAULT gives rows -/
section WRa
variable {tb : Nat → Bool} {pr : Nat → Option Nat} {ow fi ft : Nat → Nat} {sg : Int32 → Option Sg} {o sz nc rs pc h : Nat} {x : Int32} {fr tt tg kd : Nat → Nat} {bf g : Rw}
theorem flt0 (e : flt tb pr ow fi ft sg o x sz fr tt tg kd nc rs pc bf h = 0) : f4 o x sz fr tt tg nc pc = false ∧ f5 tb ow fi sg o x fr tt kd nc pc = false ∧ f1 sg o x h = false ∧ tfi pr fi ft sg o x rs (fun j => bf (6 + h - j)) (bf x.toNatClampNeg) = true := by
  unfold flt at e
  cases h1 : f4 o x sz fr tt tg nc pc with
  | true => rw [h1] at e; cases e
  | false =>
    rw [h1, if_neg (by decide)] at e
    cases h2 : f5 tb ow fi sg o x fr tt kd nc pc with
    | true => rw [h2] at e; cases e
    | false =>
      rw [h2, if_neg (by decide)] at e
      cases h3 : f1 sg o x h with
      | true => rw [h3] at e; cases e
      | false =>
        rw [h3, if_neg (by decide)] at e
        cases h4 : tfi pr fi ft sg o x rs (fun j => bf (6 + h - j)) (bf x.toNatClampNeg) with
        | true => exact ⟨rfl, rfl, rfl, rfl⟩
        | false => rw [h4] at e; cases e
theorem f1_b (e : f1 sg o x h = false) : tks sg o x ≤ h ∧ h - tks sg o x + pts o ≤ 5 := by
  unfold f1 at e
  simp at e
  omega
theorem f4_x (e : f4 o x sz fr tt tg nc pc = false) (hs : sz ≤ 24) (hj : jmp o = true) : ∃ n, n < sz ∧ x = nI n := by
  have := (Bool.or_eq_false_iff.mp (Bool.or_eq_false_iff.mp e).2).2
  unfold f4r at this
  rw [hj, Bool.true_and] at this
  exact outB_t (by omega) (Bool.or_eq_false_iff.mp this).1
theorem f4_p (e : f4 o x sz fr tt tg nc pc = false) (hj : fal o = true) : pc + 1 < sz := by
  have := (Bool.or_eq_false_iff.mp (Bool.or_eq_false_iff.mp e).2).2
  unfold f4r at this
  rw [hj, Bool.true_and] at this
  have := (Bool.or_eq_false_iff.mp this).2
  simp at this
  omega
theorem f4_s (e : f4 o x sz fr tt tg nc pc = false) : pc < sz := by
  have := (Bool.or_eq_false_iff.mp e).1
  simp at this
  omega
theorem tres_ok (ho : o < 26) (hb : rv bf h) (h5 : f5o tb ow fi sg o x = false) (hk : tks sg o x ≤ h) (ht : tfi pr fi ft sg o x rs (fun j => bf (6 + h - j)) (bf x.toNatClampNeg) = true) (hft : ∀ k f, tyv (some (fty pr fi ft k f))) (hsg : ∀ x g, sg x = some g → tyv (some g.2.2)) (hp : pts o ≠ 0) : tyv (tres pr fi ft sg bf o x (topO bf h)) ∧ tres pr fi ft sg bf o x (topO bf h) ≠ none := by
  have hz : tyv (some 0) ∧ (some 0 : Option Nat) ≠ none := ⟨fun t ht => by cases ht; decide, by simp⟩
  have hq : o = 0 ∨ o = 1 ∨ o = 2 ∨ o = 3 ∨ o = 4 ∨ o = 5 ∨ o = 6 ∨ o = 7 ∨ o = 8 ∨ o = 9 ∨ o = 10 ∨ o = 11 ∨ o = 12 ∨ o = 13 ∨ o = 14 ∨ o = 15 ∨ o = 16 ∨ o = 17 ∨ o = 18 ∨ o = 19 ∨ o = 20 ∨ o = 21 ∨ o = 22 ∨ o = 23 ∨ o = 24 ∨ o = 25 := by omega
  rcases hq with rfl | rfl | rfl | rfl | rfl | rfl | rfl | rfl | rfl | rfl | rfl | rfl | rfl | rfl | rfl | rfl | rfl | rfl | rfl | rfl | rfl | rfl | rfl | rfl | rfl | rfl
  · exact hz
  · obtain ⟨n, hn, rfl⟩ := lt6_of (x := x) (by simpa [f5o] using h5)
    simp only [tres, tfi] at ht ⊢
    rw [nI_clamp (by omega)] at ht ⊢
    refine ⟨hb.2.2.1 n (by omega), fun q => ?_⟩
    rw [q] at ht
    cases ht
  · exact hz
  · exact hz
  · exact hz
  · exact hz
  · exact hz
  · exact hz
  · exact hz
  · exact hz
  · exact ⟨fun t ht => by cases ht; decide, by simp [tres]⟩
  · obtain ⟨n, hn, rfl, -⟩ := hasI_of (tb := tb) (k := x) (by simpa [f5o] using h5)
    simp only [tres]
    rw [nI_clamp (by omega)]
    exact ⟨fun t ht => by cases ht; omega, by simp⟩
  · exact ⟨hft _ _, by simp [tres]⟩
  · exact hz
  · simp only [tres, tfi] at ht ⊢
    cases e : sg x with
    | none => rw [e] at ht; cases ht
    | some g => exact ⟨hsg x g e, by simp⟩
  · obtain ⟨n, hn, rfl, -⟩ := hasI_of (tb := tb) (k := x) (by simpa [f5o] using h5)
    simp only [tres]
    rw [nI_clamp (by omega)]
    exact ⟨fun t ht => by cases ht; omega, by simp⟩
  · exact hz
  · exact hz
  · exact hz
  · exact ⟨fun t ht => by cases ht; decide, by simp [tres]⟩
  · exact hz
  · exact hz
  · exact hz
  · exact hz
  · have h1 : 1 ≤ h := hk
    simp only [tres, topO]
    rw [if_neg (by omega)]
    refine ⟨hb.2.2.1 _ (by omega), ?_⟩
    have := hb.2.2.2.1 (h - 1) (by omega)
    rwa [show 7 + (h - 1) = 6 + h by omega] at this
  · exact hz
theorem rv_act (ho : o < 26) (hb : rv bf h) (hg : rv g h) (h5 : f5o tb ow fi sg o x = false) (h1 : tks sg o x ≤ h ∧ h - tks sg o x + pts o ≤ 5) (ht : tfi pr fi ft sg o x rs (fun j => bf (6 + h - j)) (bf x.toNatClampNeg) = true) (hft : ∀ k f, tyv (some (fty pr fi ft k f))) (hsg : ∀ x g, sg x = some g → tyv (some g.2.2)) : rv (actR pr fi ft sg bf o x g h) (h - tks sg o x + pts o) := by
  have hl := rv_low hg h1.1
  have hpl := pts_le o
  have hq : pts o = 0 ∨ pts o = 1 ∨ pts o = 2 := by omega
  rcases hq with hp | hp | hp
  · rw [hp]
    by_cases e : o = 2
    · subst e
      obtain ⟨n, hn, rfl⟩ := lt6_of (x := x) (by simpa [f5o] using h5)
      rw [actR_2 (by omega)]
      refine rv_up hl hn ?_
      unfold topO
      split
      · intro t ht; cases ht
      · exact hb.2.2.1 _ (by omega)
    · rw [actR_0 hp e]; exact hl
  · obtain ⟨t1, t2⟩ := tres_ok ho hb h5 h1.1 ht hft hsg (by omega)
    rw [actR_p hp, hp]
    exact rv_psh hl (by omega) t1 t2
  · obtain ⟨t1, t2⟩ := tres_ok ho hb h5 h1.1 ht hft hsg (by omega)
    rw [actR_pp hp, hp]
    exact rv_psh (rv_psh hl (by omega) t1 t2) (by omega) t1 t2
theorem actR_e {g2 : Rw} (h0 : req g g2) : req (actR pr fi ft sg bf o x g h) (actR pr fi ft sg bf o x g2 h) := by
  have hpl := pts_le o
  have hq : pts o = 0 ∨ pts o = 1 ∨ pts o = 2 := by omega
  rcases hq with hp | hp | hp
  · unfold actR
    rw [hp]
    simp only [pshN]
    by_cases e : o = 2
    · rw [if_pos e, if_pos e]; exact up_e (low_e h0)
    · rw [if_neg e, if_neg e]; exact low_e h0
  · rw [actR_p hp, actR_p hp]; exact psh_e2 (low_e h0)
  · rw [actR_pp hp, actR_pp hp]; exact psh_e2 (psh_e2 (low_e h0))
theorem req.t {f g k : Rw} (h1 : req f g) (h2 : req g k) : req f k := fun j hj => (h1 j hj).trans (h2 j hj)
theorem tres_e {r : Rw} {tp : Option Nat} (h0 : req bf r) (h5 : f5o tb ow fi sg o x = false) : tres pr fi ft sg bf o x tp = tres pr fi ft sg r o x tp := by
  by_cases e : o = 1
  · subst e
    obtain ⟨n, hn, rfl⟩ := lt6_of (x := x) (by simpa [f5o] using h5)
    simp only [tres]
    rw [nI_clamp (by omega)]
    exact h0 n (by omega)
  · unfold tres
    split <;> first | rfl | (exact absurd rfl e)
theorem top_e {r : Rw} (h0 : req bf r) (hh : h ≤ 5) : topO bf h = topO r h := by
  unfold topO
  split
  · rfl
  · exact h0 _ (by omega)
theorem actR_e2 {r g2 : Rw} (h0 : req bf r) (hh : h ≤ 5) (h5 : f5o tb ow fi sg o x = false) (h1 : req g g2) : req (actR pr fi ft sg bf o x g h) (actR pr fi ft sg r o x g2 h) := by
  have e : actR pr fi ft sg bf o x g h = actR pr fi ft sg r o x g h := by
    unfold actR
    rw [tres_e h0 h5, top_e h0 hh]
  rw [e]
  exact actR_e h1
theorem tfi_ld {s : Nat → Option Nat} {p q : Option Nat} (e : o ≠ 1) : tfi pr fi ft sg o x rs s p = tfi pr fi ft sg o x rs s q := by
  unfold tfi
  split <;> first | rfl | (exact absurd rfl e)
theorem flt_e {r : Rw} (h0 : req bf r) (hh : h ≤ 5) : flt tb pr ow fi ft sg o x sz fr tt tg kd nc rs pc bf h = flt tb pr ow fi ft sg o x sz fr tt tg kd nc rs pc r h := by
  have es : (fun j => bf (6 + h - j)) = fun j => r (6 + h - j) := by
    funext j
    exact h0 _ (by omega)
  unfold flt
  rw [es]
  by_cases e5 : f5 tb ow fi sg o x fr tt kd nc pc = true
  · rw [e5, if_pos rfl, if_pos rfl]
  · by_cases e : o = 1
    · subst e
      have h5 : f5o tb ow fi sg 1 x = false := f5o_f (by simpa using e5)
      obtain ⟨n, hn, rfl⟩ := lt6_of (x := x) (by simpa [f5o] using h5)
      rw [nI_clamp (by omega), h0 n (by omega)]
    · rw [tfi_ld (p := bf x.toNatClampNeg) (q := r x.toNatClampNeg) e]
end WRa
section WCa
variable {pr : Nat → Option Nat} {fr tt tg kd : Nat → Nat} {bf : Rw} {h pc n i : Nat} {s s1 : MF}
theorem catA_k (e : aro fr tt i pc = false) : catA pr fr tt tg kd bf h pc (n + 1) i s = catA pr fr tt tg kd bf h pc n (i + 1) s := by
  simp only [catA]
  rw [e]
  rfl
theorem catA_s (e : aro fr tt i pc = true) (e1 : meetA pr s (tg i) (ctr bf h (kd i)) (ctrh (kd i)) = some s1) : catA pr fr tt tg kd bf h pc (n + 1) i s = catA pr fr tt tg kd bf h pc n (i + 1) s1 := by
  simp only [catA]
  rw [e, if_pos rfl, e1]
theorem catA_n (e : aro fr tt i pc = true) (e1 : meetA pr s (tg i) (ctr bf h (kd i)) (ctrh (kd i)) = none) : catA pr fr tt tg kd bf h pc (n + 1) i s = (false, s) := by
  simp only [catA]
  rw [e, if_pos rfl, e1]
end WCa
