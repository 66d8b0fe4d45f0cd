/-! a run -/
def mrn (tb : Nat → Bool) (pr : Nat → Option Nat) (ow fi ft : Nat → Nat) (sg : Int32 → Option Sg) (hs : Nat → Bool) (D : Nat → MDt) (gd : Bool) : Nat → Fm → List Fm → Hp → Nat → Nat × Nat × Nat × Option Int32 × Hp
  | 0, _, _, H, dn => (5, 0, dn, none, H)
  | n + 1, f, fs, H, dn => if gd = true ∧ fltF tb pr ow fi ft sg D f ≠ 0 then (8, fltF tb pr ow fi ft sg D f, dn, none, H) else match stp pr ow fi ft sg hs D f fs H with
    | .inl (f' :: fs', H') => mrn tb pr ow fi ft sg hs D gd n f' fs' H' (dn + 1)
    | .inl ([], H') => (6, 0, dn + 1, none, H')
    | .inr (how, what, an, H') => (how, what, dn + 1, an, H')
/-- what is given to a PARAMETER of TYPE q -/
def bgq (q : Option Nat) : Option Nat := match q with
  | none => none
  | some t => some (if t = 0 then 0 else 2)
def bgR (k : Nat) (q1 q2 : Option Nat) : Rw := fun j => if j = 0 then some (10 + k) else if j = 1 then bgq q1 else if j = 2 then bgq q2 else if j = 6 then some 0 else none
def bgV (q1 q2 : Option Nat) (a b : Int32) : Nat → Int32 := fun j => if j = 0 then nI 0 else if j = 1 then (if q1 = some 0 then a else -1) else if j = 2 then (if q2 = some 0 then (if q1 = some 0 then b else a) else -1) else -1
section WRn
variable {tb : Nat → Bool} {pr : Nat → Option Nat} {ow fi ft : Nat → Nat} {hs : Nat → Bool} {sg : Int32 → Option Sg} {D : Nat → MDt} {W : Nat → Nat → Option Rw} {H H' : Hp} {y : Option Nat} {v x : Int32} {R r R' : Rw} {V V' : Nat → Int32} {h b i rs o : Nat} {f g : Fm} {fs F : List Fm}
/-- a run may go on: what holds holds, and without GUARD all is below its MAPS -/
def SF (tb : Nat → Bool) (pr : Nat → Option Nat) (ow fi ft : Nat → Nat) (hs : Nat → Bool) (D : Nat → MDt) (W : Nat → Nat → Option Rw) (gd : Bool) (f : Fm) (fs : List Fm) (H : Hp) : Prop := RI tb pr ow fi ft hs f fs H ∧ (gd = false → CH pr D W f fs)
theorem SF.flt {gd : Bool} (hok : WoOk tb pr ow fi) (hD : ∀ m, m < 24 → hs m = true → MdOk (D m)) (hsg : SgM tb pr hs (fun m => (D m).1) (fun m => (D m).2.1) (fun m => (D m).2.2.1) sg) (hW : gd = false → FixW tb pr ow fi ft sg hs D W) (hs' : SF tb pr ow fi ft hs D W gd f fs H) (h : ¬ (gd = true ∧ fltF tb pr ow fi ft sg D f ≠ 0)) : fltF tb pr ow fi ft sg D f = 0 := by
  cases gd with
  | true =>
    by_cases e : fltF tb pr ow fi ft sg D f = 0
    · exact e
    · exact absurd ⟨rfl, e⟩ h
  | false => exact (hs'.2 rfl).1.flt hok hD hsg (hW rfl) hs'.1.2.1
theorem SF.step {gd : Bool} (hok : WoOk tb pr ow fi) (hft : ∀ k f, tyv (some (fty pr fi ft k f))) (hD : ∀ m, m < 24 → hs m = true → MdOk (D m)) (hsg : SgM tb pr hs (fun m => (D m).1) (fun m => (D m).2.1) (fun m => (D m).2.2.1) sg) (hW : gd = false → FixW tb pr ow fi ft sg hs D W) (hE : SgE pr hs D) (hs' : SF tb pr ow fi ft hs D W gd f fs H) (h0 : fltF tb pr ow fi ft sg D f = 0) (e : stp pr ow fi ft sg hs D f fs H = .go F H') : ∃ f' fs', F = f' :: fs' ∧ SF tb pr ow fi ft hs D W gd f' fs' H' := by
  have h1 := stp_ok hok hft hD hsg hs'.1 h0
  rw [e] at h1
  obtain ⟨f', fs', e1, h2⟩ := h1
  refine ⟨f', fs', e1, h2, fun hg => ?_⟩
  obtain ⟨g, gs, e2, h3⟩ := stp_CH hok hft hD hsg (hW hg) hE hs'.1 (hs'.2 hg) e
  rw [e1] at e2
  cases e2
  exact h3
theorem SF.fin {gd : Bool} {how what : Nat} {an : Option Int32} (hok : WoOk tb pr ow fi) (hft : ∀ k f, tyv (some (fty pr fi ft k f))) (hD : ∀ m, m < 24 → hs m = true → MdOk (D m)) (hsg : SgM tb pr hs (fun m => (D m).1) (fun m => (D m).2.1) (fun m => (D m).2.2.1) sg) (hs' : SF tb pr ow fi ft hs D W gd f fs H) (h0 : fltF tb pr ow fi ft sg D f = 0) (e : stp pr ow fi ft sg hs D f fs H = .fin how what an H') : HI tb pr ow fi ft H' ∧ how ≤ 7 := by
  have h1 := stp_ok hok hft hD hsg hs'.1 h0
  rw [e] at h1
  exact h1
theorem bgq_g (q : Option Nat) (hv : v = if q = some 0 then x else -1) : gdv H (bgq q) v := by
  intro a e
  unfold bgq at e
  cases q with
  | none => cases e
  | some t =>
    dsimp only at e
    by_cases z : t = 0
    · rw [if_pos z] at e; cases e; exact Or.inl rfl
    · rw [if_neg z] at e
      cases e
      rw [if_neg (fun q => z (Option.some.inj q))] at hv
      exact Or.inr (Or.inr (Or.inl ⟨rfl, hv⟩))
theorem bgq_le {q : Option Nat} (hq : tyv q) : le pr (bgq q) q := by
  unfold bgq
  cases q with
  | none => exact Or.inl rfl
  | some t =>
    dsimp only
    have := hq t rfl
    by_cases z : t = 0
    · rw [if_pos z, z]; exact le.refl
    · rw [if_neg z]
      refine Or.inr ?_
      unfold part
      split
      · rfl
      · next q => dsimp only; rw [if_pos rfl, Bool.or_eq_true, decide_eq_true_eq, decide_eq_true_eq]; have : t ≠ 2 := fun e => q (by rw [e]); omega
theorem SF.start {gd : Bool} {k m : Nat} {a c : Int32} (hok : WoOk tb pr ow fi) (hft : ∀ k f, tyv (some (fty pr fi ft k f))) (hD : ∀ m, m < 24 → hs m = true → MdOk (D m)) (hW : gd = false → FixW tb pr ow fi ft sg hs D W) (hk : k < 6) (htb : tb k = true) (hm : mmo pr hs 0 6 (some k) = some m) (h0 : H.n = 0) (ho : ∀ j, ob 16 (H.ty j)) (hz : ∀ j, H.sz j ≤ 18) : SF tb pr ow fi ft hs D W gd ⟨m, 0, bgR k (D m).1 (D m).2.1, bgV (D m).1 (D m).2.1 a c⟩ [] (mkO pr ow fi ft H k) := by
  obtain ⟨cc, hac, hc6, em, hhs⟩ := mmo_of hok 6 k hk hk hm
  have hm24 : m < 24 := by omega
  have hd := hD m hm24 hhs
  have hI : HI tb pr ow fi ft H := ⟨by omega, ho, hz, fun q hq => by omega⟩
  obtain ⟨h1, h2⟩ := hI.mO hok (by omega) hk htb hft
  have hg : ∀ j, j < 7 → j ≠ 6 → gdv (mkO pr ow fi ft H k) (bgR k (D m).1 (D m).2.1 j) (bgV (D m).1 (D m).2.1 a c j) := by
    intro j hj hj6
    unfold bgR bgV
    by_cases j0 : j = 0
    · rw [if_pos j0, if_pos j0]
      have hn1 : (mkO pr ow fi ft H k).n = 1 := by show H.n + 1 = 1; omega
      refine gdv_o hk (by rw [hn1]; decide) ?_
      show va_up H.so H.n (some k) 0 = some k
      rw [h0, va_up_self]
    · rw [if_neg j0, if_neg j0]
      by_cases j1 : j = 1
      · rw [if_pos j1, if_pos j1]; exact bgq_g _ rfl
      · rw [if_neg j1, if_neg j1]
        by_cases j2 : j = 2
        · rw [if_pos j2, if_pos j2]; exact bgq_g _ rfl
        · rw [if_neg j2, if_neg j2, if_neg hj6]; exact gdv_n
  refine ⟨⟨h1, ⟨hm24, hhs, show 0 < 24 by decide, rfl, Nat.zero_le _, hg, fun j hj => absurd hj (Nat.not_lt_zero _)⟩, fun g hg => (by cases hg), show 0 < 12 by decide⟩, fun hgd => ⟨?_, trivial⟩⟩
  obtain ⟨w1, w2, w3⟩ := hW hgd m hm24 hhs
  show Gle pr (W m) 0 (bgR k (D m).1 (D m).2.1) 0
  rw [show m / 4 = cc by omega] at w2
  refine w2.bel hok (fun j _ _ => (rv_strt hc6 hd.1 hd.2.1).ob j) (fun j hj hj6 => ?_) (fun j hj hj6 => (hg j hj hj6).tyv.ob)
  unfold bgR strt
  by_cases j0 : j = 0
  · rw [if_pos j0, if_pos j0]; exact Or.inr ((part_o hok hk).mpr hac)
  · rw [if_neg j0, if_neg j0]
    by_cases j1 : j = 1
    · rw [if_pos j1, if_pos j1]; exact bgq_le hd.1
    · rw [if_neg j1, if_neg j1]
      by_cases j2 : j = 2
      · rw [if_pos j2, if_pos j2]; exact bgq_le hd.2.1
      · rw [if_neg j2, if_neg j2, if_neg hj6]; exact Or.inl rfl
theorem FixW_of (hok : WoOk tb pr ow fi) (hft : ∀ k f, tyv (some (fty pr fi ft k f))) (hD : ∀ m, m < 24 → hs m = true → MdOk (D m)) (hsgv : ∀ x g, sg x = some g → tyv (some g.2.2)) (hv : ∀ m, m < 24 → hs m = true → (VRm tb pr ow fi ft sg (D m) (m / 4)).1 = none) : FixW tb pr ow fi ft sg hs D (VA tb pr ow fi ft sg D) := fun m hm hh => VRm_fix hok (hD m hm hh) (by omega) hft hsgv (hv m hm hh)
end WRn
