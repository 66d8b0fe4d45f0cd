/-! the order of TYPES: PART is transitive, JOIN is above both -/
def itr (pr : Nat → Option Nat) : Nat → Nat → Option Nat
  | 0, j => some j
  | n + 1, j => match pr j with
    | none => none
    | some p => itr pr n p
/-- h is j or above it -/
def Anc (pr : Nat → Option Nat) (h j : Nat) : Prop := ∃ n, itr pr n j = some h
section WOr
variable {tb : Nat → Bool} {pr : Nat → Option Nat} {ow fi : Nat → Nat}
theorem Anc.refl {h : Nat} : Anc pr h h := ⟨0, rfl⟩
theorem Anc.step {h j p : Nat} (e : pr j = some p) (a : Anc pr h p) : Anc pr h j := by
  obtain ⟨n, hn⟩ := a
  exact ⟨n + 1, by rw [itr, e]; exact hn⟩
theorem Anc.cs {h j : Nat} (a : Anc pr h j) : j = h ∨ ∃ p, pr j = some p ∧ Anc pr h p := by
  obtain ⟨n, hn⟩ := a
  cases n with
  | zero => exact Or.inl (Option.some.inj hn)
  | succ n =>
    rw [itr] at hn
    cases hp : pr j with
    | none => rw [hp] at hn; cases hn
    | some p => rw [hp] at hn; exact Or.inr ⟨p, rfl, n, hn⟩
theorem Anc.ind {h : Nat} {mo : Nat → Prop} (h0 : mo h) (hs : ∀ j p, pr j = some p → Anc pr h p → mo p → mo j) {j : Nat} (a : Anc pr h j) : mo j := by
  obtain ⟨n, hn⟩ := a
  induction n generalizing j with
  | zero => cases hn; exact h0
  | succ n ih =>
    rw [itr] at hn
    cases hp : pr j with
    | none => rw [hp] at hn; cases hn
    | some p => rw [hp] at hn; exact hs j p hp ⟨n, hn⟩ (ih hn)
theorem Anc.le (hok : WoOk tb pr ow fi) {h j : Nat} (a : Anc pr h j) (hj : j < 6) : h ≤ j := by
  refine Anc.ind (mo := fun j => j < 6 → h ≤ j) (fun _ => Nat.le_refl _) (fun j p e _ ih hj => ?_) a hj
  have := (hok.2.2.2.1 _ hj _ e).1
  have := ih (by omega)
  omega
theorem Anc.trans {h j k : Nat} (a : Anc pr h j) (b : Anc pr j k) : Anc pr h k := Anc.ind (mo := fun k => Anc pr h k) a (fun _ _ e _ ih => .step e ih) b
theorem anc_up (hok : WoOk tb pr ow fi) {h : Nat} : ∀ n j, j < n → j < 6 → (up pr h n (some j) = some h ↔ Anc pr h j) := by
  intro n
  induction n with
  | zero => intro j hj; exact absurd hj (Nat.not_lt_zero _)
  | succ n ih =>
    intro j hj h6
    simp only [up]
    by_cases e : j ≤ h
    · rw [if_pos e]
      constructor
      · intro z; cases z; exact .refl
      · intro z
        have := z.le hok h6
        rw [show j = h by omega]
    · rw [if_neg e]
      cases hp : pr j with
      | none =>
        constructor
        · intro z
          have : up pr h n none = none := by cases n <;> rfl
          rw [this] at z; cases z
        · intro z
          rcases z.cs with z | ⟨p, q, _⟩
          · exact absurd (Nat.le_of_eq z) e
          · rw [hp] at q; cases q
      | some p =>
        have hpj := (hok.2.2.2.1 j h6 p hp).1
        rw [ih p (by omega) (by omega)]
        constructor
        · exact fun z => .step hp z
        · intro z
          rcases z.cs with z | ⟨p', q, z⟩
          · exact absurd (Nat.le_of_eq z) e
          · rw [hp] at q; cases q; exact z
theorem anc_ab (hok : WoOk tb pr ow fi) {h j : Nat} (hj : j < 6) : ab pr h (some j) = true ↔ Anc pr h j := by
  unfold ab
  rw [beq_iff_eq]
  exact anc_up hok 6 j hj hj
/-- x is y or PART of it, or of y nothing is known -/
def le (pr : Nat → Option Nat) (x y : Option Nat) : Prop := y = none ∨ part pr x y = true
theorem part_refl {x : Option Nat} : part pr x x = true := by unfold part; rw [if_pos rfl]
theorem part_o (hok : WoOk tb pr ow fi) {a b : Nat} (ha : a < 6) : part pr (some (10 + a)) (some (10 + b)) = true ↔ Anc pr b a := by
  unfold part
  by_cases e : a = b
  · subst e
    rw [if_pos rfl]
    exact ⟨fun _ => .refl, fun _ => rfl⟩
  · rw [if_neg (fun z => e (by have := Option.some.inj z; omega))]
    dsimp only
    rw [if_neg (by omega), Nat.add_sub_cancel_left, Nat.add_sub_cancel_left, ← anc_ab hok ha]
    simp
theorem le.refl {x : Option Nat} : le pr x x := Or.inr part_refl
theorem part_cases {x y : Option Nat} (h : part pr x y = true) : x = y ∨ (x = some 2 ∧ ∃ b, y = some b ∧ (b = 1 ∨ 10 ≤ b)) ∨ ∃ a b, x = some a ∧ y = some b ∧ 10 ≤ a ∧ 10 ≤ b ∧ ab pr (b - 10) (some (a - 10)) = true := by
  unfold part at h
  by_cases e : x = y
  · exact Or.inl e
  · rw [if_neg e] at h
    cases x with
    | none => cases y <;> cases h
    | some a =>
      cases y with
      | none => cases h
      | some b =>
        dsimp only at h
        by_cases e2 : a = 2
        · rw [if_pos e2, Bool.or_eq_true, decide_eq_true_eq, decide_eq_true_eq] at h
          exact Or.inr (Or.inl ⟨by rw [e2], b, rfl, h⟩)
        · rw [if_neg e2, Bool.and_eq_true, Bool.and_eq_true, decide_eq_true_eq, decide_eq_true_eq] at h
          exact Or.inr (Or.inr ⟨a, b, rfl, rfl, h.1.1, h.1.2, h.2⟩)
theorem part_trans (hok : WoOk tb pr ow fi) {x y z : Option Nat} (hx : ob 16 x) (hy : ob 16 y) (h1 : part pr x y = true) (h2 : part pr y z = true) : part pr x z = true := by
  rcases part_cases h1 with e | ⟨e, b, eb, hb⟩ | ⟨a, b, ea, eb, ha, hb, h⟩
  · rw [e]; exact h2
  · subst e eb
    rcases part_cases h2 with e | ⟨e, c, ec, hc⟩ | ⟨b', c, e, ec, hb', hc, h⟩
    · rw [← e]; exact h1
    · cases e; omega
    · cases e
      subst ec
      unfold part
      by_cases q : (some 2 : Option Nat) = some c
      · rw [if_pos q]
      · rw [if_neg q]; dsimp only; rw [if_pos rfl, Bool.or_eq_true, decide_eq_true_eq, decide_eq_true_eq]; exact Or.inr hc
  · subst ea eb
    rcases part_cases h2 with e | ⟨e, c, ec, hc⟩ | ⟨b', c, e, ec, hb', hc, h'⟩
    · rw [← e]; exact h1
    · cases e; omega
    · cases e
      subst ec
      have ha6 := hx a rfl
      have hb6 := hy b rfl
      rw [anc_ab hok (by omega)] at h h'
      have := (part_o hok (a := a - 10) (b := c - 10) (by omega)).mpr (h'.trans h)
      rwa [show 10 + (a - 10) = a by omega, show 10 + (c - 10) = c by omega] at this
theorem le.trans (hok : WoOk tb pr ow fi) {x y z : Option Nat} (hx : ob 16 x) (hy : ob 16 y) (h1 : le pr x y) (h2 : le pr y z) : le pr x z := by
  rcases h2 with e | h2
  · exact Or.inl e
  · rcases h1 with e | h1
    · subst e
      rcases part_cases h2 with e | ⟨e, _⟩ | ⟨a, b, e, _⟩
      · exact Or.inl e.symm
      · cases e
      · cases e
    · exact Or.inr (part_trans hok hx hy h1 h2)
theorem joinUp_above (hok : WoOk tb pr ow fi) {b : Nat} (hb : b < 6) : ∀ n x r, ob 6 x → joinUp pr b n x = some r → ∃ c q, x = some q ∧ r = 10 + c ∧ Anc pr c b ∧ Anc pr c q := by
  intro n
  induction n with
  | zero => intro x r _ h; cases h
  | succ n ih =>
    intro x r hx h
    cases x with
    | none => cases h
    | some q =>
      simp only [joinUp] at h
      by_cases e : ab pr q (some b) = true
      · rw [if_pos e] at h
        cases h
        exact ⟨q, q, rfl, rfl, (anc_ab hok hb).mp e, .refl⟩
      · rw [if_neg e] at h
        obtain ⟨c, q', e1, e2, e3, e4⟩ := ih _ _ (hok.1 q) h
        exact ⟨c, q, rfl, e2, e3, .step e1 e4⟩
theorem join_above (hok : WoOk tb pr ow fi) {x y : Option Nat} (hx : ob 16 x) (hy : ob 16 y) : le pr x (join pr x y) ∧ le pr y (join pr x y) := by
  unfold join
  by_cases h1 : part pr x y = true
  · rw [if_pos h1]; exact ⟨Or.inr h1, le.refl⟩
  · rw [if_neg h1]
    by_cases h2 : part pr y x = true
    · rw [if_pos h2]; exact ⟨le.refl, Or.inr h2⟩
    · rw [if_neg h2]
      cases x with
      | none => cases y <;> exact ⟨Or.inl rfl, Or.inl rfl⟩
      | some a =>
        cases y with
        | none => exact ⟨Or.inl rfl, Or.inl rfl⟩
        | some b =>
          dsimp only
          by_cases ha : a < 10
          · rw [if_pos ha]; exact ⟨Or.inl rfl, Or.inl rfl⟩
          · rw [if_neg ha]
            by_cases hb : b < 10
            · rw [if_pos hb]; exact ⟨Or.inl rfl, Or.inl rfl⟩
            · rw [if_neg hb]
              have ha6 := hx a rfl
              have hb6 := hy b rfl
              cases e : joinUp pr (b - 10) 6 (pr (a - 10)) with
              | none => exact ⟨Or.inl rfl, Or.inl rfl⟩
              | some r =>
                obtain ⟨c, q, e1, e2, e3, e4⟩ := joinUp_above hok (by omega) 6 _ _ (hok.1 _) e
                subst e2
                have z1 := (part_o hok (a := a - 10) (b := c) (by omega)).mpr (.step e1 e4)
                have z2 := (part_o hok (a := b - 10) (b := c) (by omega)).mpr e3
                rw [show 10 + (a - 10) = a by omega] at z1
                rw [show 10 + (b - 10) = b by omega] at z2
                exact ⟨Or.inr z1, Or.inr z2⟩
end WOr
