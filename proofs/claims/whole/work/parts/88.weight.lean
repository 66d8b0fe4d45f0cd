/-! .. by a meeting, by a look -/
section WWg
variable {tb : Nat → Bool} {pr : Nat → Option Nat} {ow fi ft : Nat → Nat} {sg : Int32 → Option Sg} {op : Nat → Nat} {ag : Nat → Int32} {sz nc rs pc h n : Nat} {fr tt tg kd : Nat → Nat} {r g bf : Rw} {s s1 s2 : MF}
theorem rkR_j (hd : dsc pr) (hr : rv r h) (hg : rv g h) : rkR (jrow pr r g h) ≤ rkR r := by
  refine sm_le 12 0 (fun j _ hj => ?_)
  show (if j = 6 then 0 else rk (jrow pr r g h j)) ≤ if j = 6 then 0 else rk (r j)
  by_cases e : j = 6
  · rw [if_pos e, if_pos e]; exact Nat.le_refl _
  · rw [if_neg e, if_neg e]
    by_cases e2 : j < 7 + h
    · rw [jrow_at e e2]
      by_cases e3 : join pr (r j) (g j) = r j
      · rw [e3]; exact Nat.le_refl _
      · exact Nat.le_of_lt (join_rk hd (hr.2.2.1 j e) (hg.2.2.1 j e) e3)
    · unfold jrow
      rw [if_neg e, if_neg e2]
      exact Nat.zero_le _
theorem rkR_jl (hd : dsc pr) (hr : rv r h) (hg : rv g h) (hm : mch pr r g h = true) : rkR (jrow pr r g h) < rkR r := by
  obtain ⟨k, h1, h2, h3⟩ := anyC_t.mp hm
  have h4 : k ≠ 6 ∧ join pr (r k) (g k) ≠ r k := by simpa using h3
  have hh := hr.2.1
  refine sm_lt 12 0 k (by omega) (by omega) ?_ (fun j _ hj => ?_)
  · show (if k = 6 then 0 else rk (jrow pr r g h k)) < if k = 6 then 0 else rk (r k)
    rw [if_neg h4.1, if_neg h4.1, jrow_at h4.1 (by omega)]
    exact join_rk hd (hr.2.2.1 k h4.1) (hg.2.2.1 k h4.1) h4.2
  · show (if j = 6 then 0 else rk (jrow pr r g h j)) ≤ if j = 6 then 0 else rk (r j)
    by_cases e : j = 6
    · rw [if_pos e, if_pos e]; exact Nat.le_refl _
    · rw [if_neg e, if_neg e]
      by_cases e2 : j < 7 + h
      · rw [jrow_at e e2]
        by_cases e3 : join pr (r j) (g j) = r j
        · rw [e3]; exact Nat.le_refl _
        · exact Nat.le_of_lt (join_rk hd (hr.2.2.1 j e) (hg.2.2.1 j e) e3)
      · unfold jrow
        rw [if_neg e, if_neg e2]
        exact Nat.zero_le _
theorem wgt_pt {f : Rw} {b : Nat → Bool} (hb : ∀ q, q ≠ pc → b q = s.2 q) (hp : 2 * rkR f + (if b pc then 1 else 0) ≤ 2 * rkA s.1 pc + if s.2 pc then 1 else 0) : wgt (va_up s.1 pc (some f), b) ≤ wgt s := by
  refine sm_le 24 0 (fun q _ _ => ?_)
  show 2 * rkA (va_up s.1 pc (some f)) q + (if b q then 1 else 0) ≤ 2 * rkA s.1 q + if s.2 q then 1 else 0
  by_cases e : q = pc
  · subst e
    rw [show rkA (va_up s.1 q (some f)) q = rkR f by unfold rkA; rw [va_up_self]]
    exact hp
  · rw [show rkA (va_up s.1 pc (some f)) q = rkA s.1 q by unfold rkA; rw [va_up_ne _ _ e], hb q e]
    exact Nat.le_refl _
theorem meetA_w (hd : dsc pr) (hs : AV s.1) (hg : rv g h) (e : meetA pr s pc g h = some s1) : wgt s1 ≤ wgt s := by
  unfold meetA at e
  cases ha : s.1 pc with
  | none =>
    rw [ha] at e
    cases e
    refine wgt_pt (fun q hq => va_up_ne _ _ hq) ?_
    have h1 := rkR_le hg
    have h2 : rkA s.1 pc = 200 := by unfold rkA; rw [ha]
    rw [h2]
    split <;> omega
  | some r =>
    rw [ha] at e
    simp only at e
    by_cases z6 : r 6 = some h
    · rw [if_pos z6] at e
      cases hb : mbad pr r g h with
      | true => rw [hb] at e; cases e
      | false =>
        rw [hb] at e
        cases e
        obtain ⟨h', hr⟩ := hs pc r ha
        have : h' = h := by have := hr.1; rw [z6] at this; cases this; rfl
        subst this
        have h2 : rkA s.1 pc = rkR r := by unfold rkA; rw [ha]
        cases hm : mch pr r g h' with
        | true =>
          rw [if_pos rfl]
          refine wgt_pt (fun q hq => va_up_ne _ _ hq) ?_
          have h1 := rkR_jl hd hr hg hm
          rw [h2]
          split <;> omega
        | false =>
          rw [if_neg (by decide)]
          refine wgt_pt (fun q hq => rfl) ?_
          have h1 := rkR_j hd hr hg
          rw [h2]
          omega
    · rw [if_neg z6] at e; cases e
theorem off_w (hp : pc < 24) (e : s.2 pc = true) : wgt (s.1, va_up s.2 pc false) < wgt s := by
  refine sm_lt 24 0 pc (by omega) (by omega) ?_ (fun q _ _ => ?_)
  · show 2 * rkA s.1 pc + (if va_up s.2 pc false pc then 1 else 0) < 2 * rkA s.1 pc + if s.2 pc then 1 else 0
    rw [va_up_self, e]
    simp
  · show 2 * rkA s.1 q + (if va_up s.2 pc false q then 1 else 0) ≤ 2 * rkA s.1 q + if s.2 q then 1 else 0
    by_cases z : q = pc
    · rw [z, va_up_self, e]; simp
    · rw [va_up_ne _ _ z]; exact Nat.le_refl _
theorem catA_w (hok : ∀ j, ob 6 (pr j)) (hd : dsc pr) (hb : rv bf h) (hk : ∀ i, i < 2 → kd i < 7) : ∀ n i (s : MF), i + n ≤ 2 → AV s.1 → wgt (catA pr fr tt tg kd bf h pc n i s).2 ≤ wgt s := by
  intro n
  induction n with
  | zero => intro i s _ hs; exact Nat.le_refl _
  | succ n ih =>
    intro i s hi hs
    simp only [catA]
    split
    · cases e : meetA pr s (tg i) (ctr bf h (kd i)) (ctrh (kd i)) with
      | none => exact Nat.le_refl _
      | some s' => exact Nat.le_trans (ih _ _ (by omega) (meetA_AV hok hs (rv_ctr hb (hk i (by omega))) e)) (meetA_w hd hs (rv_ctr hb (hk i (by omega))) e)
    · exact ih _ _ (by omega) hs
theorem nxtA_w (hok : ∀ j, ob 6 (pr j)) (hd : dsc pr) {o : Nat} {x : Int32} (hg : rv g h) (hs : AV s.1) : wgt (nxtA pr o x pc g h s).2 ≤ wgt s := by
  have hm : ∀ s (q : Nat), AV s.1 → wgt (mt2 s (meetA pr s q g h)).2 ≤ wgt s ∧ AV (mt2 s (meetA pr s q g h)).2.1 := by
    intro s q hs
    cases e : meetA pr s q g h with
    | none => exact ⟨Nat.le_refl _, hs⟩
    | some s' => exact ⟨meetA_w hd hs hg e, meetA_AV hok hs hg e⟩
  have h1 : wgt (if jmp o = true then mt2 s (meetA pr s x.toNatClampNeg g h) else (true, s)).2 ≤ wgt s ∧ AV (if jmp o = true then mt2 s (meetA pr s x.toNatClampNeg g h) else (true, s)).2.1 := by
    split
    · exact hm _ _ hs
    · exact ⟨Nat.le_refl _, hs⟩
  unfold nxtA
  dsimp only
  generalize (if jmp o = true then mt2 s (meetA pr s x.toNatClampNeg g h) else (true, s)) = s1 at h1 ⊢
  split
  · split
    · exact Nat.le_trans (hm _ _ h1.2).1 h1.1
    · exact h1.1
  · exact h1.1
theorem lookA_w (hok : WoOk tb pr ow fi) (hop : op pc < 26) (hnc : nc ≤ 2) (hk : ∀ i, i < 2 → kd i < 7) (hft : ∀ k f, tyv (some (fty pr fi ft k f))) (hsg : ∀ x g, sg x = some g → tyv (some g.2.2)) (hr : rv r h) (hs : SV s) : wgt (lookA tb pr ow fi ft sg op ag sz fr tt tg kd nc rs pc r h s).2 ≤ wgt s ∧ SV (lookA tb pr ow fi ft sg op ag sz fr tt tg kd nc rs pc r h s).2 := by
  by_cases e : flt tb pr ow fi ft sg (op pc) (ag pc) sz fr tt tg kd nc rs pc r h = 0
  · have w1 := catA_w (fr := fr) (tt := tt) (tg := tg) (pc := pc) hok.1 hok.dsc hr hk nc 0 s (by omega) hs.1
    have v1 := catA_SV (fr := fr) (tt := tt) (tg := tg) (pc := pc) hok.1 hr hk nc 0 s (by omega) hs
    obtain ⟨-, h5, h1, ht⟩ := flt0 e
    have hg := rv_act hop hr hr (f5o_f h5) (f1_b h1) ht hft hsg
    unfold lookA
    dsimp only
    rw [if_pos e]
    generalize catA pr fr tt tg kd r h pc nc 0 s = c at w1 v1 ⊢
    have w2 := nxtA_w (pc := pc) (o := op pc) (x := ag pc) hok.1 hok.dsc hg v1.1
    have v2 := nxtA_SV (pc := pc) (o := op pc) (x := ag pc) hok.1 hg v1
    split
    · split
      · exact ⟨Nat.le_trans w2 w1, v2⟩
      · exact ⟨Nat.le_trans w2 w1, v2⟩
    · exact ⟨w1, v1⟩
  · rw [lk_f (f := flt tb pr ow fi ft sg (op pc) (ag pc) sz fr tt tg kd nc rs pc r h) rfl e]
    exact ⟨Nat.le_refl _, hs⟩
end WWg
theorem lfr_at {F : Nat → Bool} : ∀ n i p, (∀ j, i ≤ j → j < p → F j = false) → i ≤ p → p < i + n → F p = true → lfr F n i = some p := by
  intro n
  induction n with
  | zero => intro i p _ h1 h2; omega
  | succ n ih =>
    intro i p h h1 h2 h3
    simp only [lfr]
    by_cases e : i = p
    · subst e; rw [if_pos h3]
    · rw [if_neg (by rw [h i (by omega) (by omega)]; decide)]
      exact ih (i + 1) p (fun j a b => h j (by omega) b) (by omega) (by omega) h3
theorem lfr_no {F : Nat → Bool} : ∀ n i, (∀ j, i ≤ j → j < i + n → F j = false) → lfr F n i = none := by
  intro n
  induction n with
  | zero => intro i _; rfl
  | succ n ih =>
    intro i h
    simp only [lfr]
    rw [if_neg (by rw [h i (by omega) (by omega)]; decide)]
    exact ih (i + 1) (fun j a b => h j (by omega) (by omega))
