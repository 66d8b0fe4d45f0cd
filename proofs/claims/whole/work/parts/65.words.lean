/-! words of meet: what is joined so far -/
def MI (pr : Nat → Option Nat) (r g : Rw) (i : Nat) (jn : Rw) (ch : Bool) : Prop :=
  (∀ j, j < 12 → jn j = if j ≠ 6 ∧ j < i then join pr (r j) (g j) else g j) ∧ (ch = true → ∃ j, j < i ∧ j ≠ 6 ∧ join pr (r j) (g j) ≠ r j) ∧ (ch = false → ∀ j, j < i → j ≠ 6 → join pr (r j) (g j) = r j) ∧ ∀ j, 7 ≤ j → j < i → join pr (r j) (g j) ≠ none
section WMI
variable {pr : Nat → Option Nat} {r g jn : Rw} {ch : Bool} {i h : Nat}
theorem MI.z : MI pr r g 0 (va_cpy g jn 0 0 12) false := by
  refine ⟨fun j hj => ?_, fun q => (by cases q), fun _ j hj => absurd hj (Nat.not_lt_zero _), fun j _ hj => absurd hj (Nat.not_lt_zero _)⟩
  unfold va_cpy
  rw [if_pos (by omega), if_neg (by omega)]
  congr 1
  omega
theorem MI.k (h : MI pr r g i jn ch) (e : i = 6) : MI pr r g (i + 1) jn ch := by
  obtain ⟨h1, h2, h3, h4⟩ := h
  refine ⟨fun j hj => ?_, fun q => ?_, fun q j hj hn => h3 q j (by omega) hn, fun j hj h5 => h4 j hj (by omega)⟩
  · rw [h1 j hj]
    by_cases z : j ≠ 6 ∧ j < i
    · rw [if_pos z, if_pos ⟨z.1, by omega⟩]
    · rw [if_neg z, if_neg (by omega)]
  · obtain ⟨j, a, b⟩ := h2 q
    exact ⟨j, by omega, b⟩
theorem MI.j (h : MI pr r g i jn ch) (e : i ≠ 6) : ∀ j, j < 12 → va_up jn i (join pr (r i) (g i)) j = if j ≠ 6 ∧ j < i + 1 then join pr (r j) (g j) else g j := by
  intro j hj
  by_cases z : j = i
  · subst z
    rw [va_up_self, if_pos ⟨e, by omega⟩]
  · rw [va_up_ne _ _ z, h.1 j hj]
    by_cases y : j ≠ 6 ∧ j < i
    · rw [if_pos y, if_pos ⟨y.1, by omega⟩]
    · rw [if_neg y, if_neg (by omega)]
theorem MI.n (h : MI pr r g i jn ch) (hn : 7 ≤ i → join pr (r i) (g i) ≠ none) : ∀ j, 7 ≤ j → j < i + 1 → join pr (r j) (g j) ≠ none := by
  intro j h1 h2
  by_cases z : j = i
  · subst z; exact hn h1
  · exact h.2.2.2 j h1 (by omega)
theorem MI.t (h : MI pr r g i jn ch) (e : i ≠ 6) (hn : 7 ≤ i → join pr (r i) (g i) ≠ none) (hc : ch = true ∨ join pr (r i) (g i) ≠ r i) : MI pr r g (i + 1) (va_up jn i (join pr (r i) (g i))) true := by
  refine ⟨h.j e, fun _ => ?_, fun q => (by cases q), h.n hn⟩
  rcases hc with q | q
  · obtain ⟨j, a, b⟩ := h.2.1 q
    exact ⟨j, by omega, b⟩
  · exact ⟨i, by omega, e, q⟩
theorem MI.f (h : MI pr r g i jn ch) (e : i ≠ 6) (hn : 7 ≤ i → join pr (r i) (g i) ≠ none) (hc : ch = false) (hj : join pr (r i) (g i) = r i) : MI pr r g (i + 1) (va_up jn i (join pr (r i) (g i))) false := by
  refine ⟨h.j e, fun q => (by cases q), fun _ j h1 h2 => ?_, h.n hn⟩
  by_cases z : j = i
  · subst z; exact hj
  · exact h.2.2.1 hc j (by omega) h2
theorem MI.bad (hh : h ≤ 5) (h1 : 7 ≤ i) (h2 : i < 7 + h) (e : join pr (r i) (g i) = none) : mbad pr r g h = true := by
  unfold mbad
  rw [anyC_t]
  refine ⟨i - 7, by omega, by omega, ?_⟩
  rw [show 7 + (i - 7) = i by omega, e]
  rfl
theorem MI.ok (h0 : MI pr r g i jn ch) (hi : i = 7 + h) : mbad pr r g h = false := by
  unfold mbad
  rw [anyC_f]
  intro j _ hj
  have := h0.2.2.2 (7 + j) (by omega) (by omega)
  cases q : join pr (r (7 + j)) (g (7 + j)) with
  | none => exact absurd q this
  | some _ => rfl
theorem MI.chg (h0 : MI pr r g i jn ch) (hi : i = 7 + h) : mch pr r g h = ch := by
  unfold mch
  cases ch with
  | true =>
    rw [anyC_t]
    obtain ⟨j, h1, h2, h3⟩ := h0.2.1 rfl
    exact ⟨j, by omega, by omega, by simp [h2, h3]⟩
  | false =>
    rw [anyC_f]
    intro j _ h1
    by_cases z : j = 6
    · simp [z]
    · simp [h0.2.2.1 rfl j (by omega) z]
theorem MI.row (h0 : MI pr r g i jn ch) (hi : i = 7 + h) (hg : rv g h) : ∀ j, j < 12 → jn j = jrow pr r g h j := by
  intro j hj
  rw [h0.1 j hj]
  unfold jrow
  by_cases z : j = 6
  · rw [if_neg (by omega), if_pos z, z]; exact hg.1
  · rw [if_neg z]
    by_cases y : j < 7 + h
    · rw [if_pos ⟨z, by omega⟩, if_pos y]
    · rw [if_neg (by omega), if_neg y]
      have := hg.2.2.2.2 (j - 7) (by omega) (by omega)
      rwa [show 7 + (j - 7) = j by omega] at this
theorem MI.same (h0 : MI pr r g i jn false) (hi : i = 7 + h) (hr : rv r h) : ∀ j, j < 12 → r j = jrow pr r g h j := by
  intro j hj
  unfold jrow
  by_cases z : j = 6
  · rw [if_pos z, z]; exact hr.1
  · rw [if_neg z]
    by_cases y : j < 7 + h
    · rw [if_pos y]; exact (h0.2.2.1 rfl j (by omega) z).symm
    · rw [if_neg y]
      have := hr.2.2.2.2 (j - 7) (by omega) (by omega)
      rwa [show 7 + (j - 7) = j by omega] at this
end WMI
theorem nI_m2 {n : Nat} (h : n < 100) : nI n ≠ -2 := by
  intro q
  have a := nI_toInt (n := n) (by omega)
  rw [q] at a
  have : (-2 : Int32).toInt = -2 := by decide
  omega
