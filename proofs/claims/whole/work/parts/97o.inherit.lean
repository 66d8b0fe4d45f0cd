/-! what a class has of those above it: FIELDS, METHODS -/
section WIh
variable {tb : Nat → Bool} {pr : Nat → Option Nat} {ow fi ft : Nat → Nat} {hs : Nat → Bool}
theorem fow_s (hok : WoOk tb pr ow fi) {f : Nat} : ∀ n o, o < n → o < 6 → fow pr fi f (n + 1) o = fow pr fi f n o := by
  intro n
  induction n with
  | zero => intro o h; exact absurd h (Nat.not_lt_zero _)
  | succ n ih =>
    intro o h h6
    rw [fow, fow]
    cases hp : pr o with
    | none => rfl
    | some p =>
      have := (hok.2.2.2.1 o h6 p hp).1
      dsimp only
      rw [ih p (by omega) (by omega)]
theorem fty_up (hok : WoOk tb pr ow fi) {k p f : Nat} (hk : k < 6) (hp : pr k = some p) (hf : f < fi k) : fty pr fi ft k f = fty pr fi ft p f := by
  have hpk := (hok.2.2.2.1 k hk p hp).1
  have : fow pr fi f 6 k = fow pr fi f 6 p := by
    rw [fow, if_pos hf, hp]
    dsimp only
    exact (fow_s hok 5 p (by omega) (by omega)).symm
  unfold fty
  rw [this]
theorem anc_lt (hok : WoOk tb pr ow fi) {c k : Nat} (a : Anc pr c k) (hk : k < 6) : c < 6 := Nat.lt_of_le_of_lt (a.le hok hk) hk
theorem anc_fc (hok : WoOk tb pr ow fi) {c k : Nat} (a : Anc pr c k) : k < 6 → fi c + ow c ≤ fi k + ow k ∧ ∀ f, f < fi c + ow c → fty pr fi ft k f = fty pr fi ft c f := by
  refine Anc.ind (mo := fun k => k < 6 → fi c + ow c ≤ fi k + ow k ∧ ∀ f, f < fi c + ow c → fty pr fi ft k f = fty pr fi ft c f) (fun _ => ⟨Nat.le_refl _, fun _ _ => rfl⟩) (fun k p e _ ih hk => ?_) a
  have h1 := hok.2.2.2.1 _ hk _ e
  obtain ⟨a, b⟩ := ih (by omega)
  exact ⟨by omega, fun f hf => (fty_up hok hk e (by omega)).trans (b f hf)⟩
theorem mmo_s (hok : WoOk tb pr ow fi) {sl : Nat} : ∀ n c, c < n → c < 6 → mmo pr hs sl (n + 1) (some c) = mmo pr hs sl n (some c) := by
  intro n
  induction n with
  | zero => intro o h; exact absurd h (Nat.not_lt_zero _)
  | succ n ih =>
    intro o h h6
    rw [mmo, mmo]
    cases hp : pr o with
    | none => cases n <;> rfl
    | some p =>
      have := (hok.2.2.2.1 o h6 p hp).1
      rw [ih p (by omega) (by omega)]
theorem mmo_up (hok : WoOk tb pr ow fi) {sl k : Nat} (hk : k < 6) : mmo pr hs sl 6 (some k) = if hs (4 * k + sl) then some (4 * k + sl) else mmo pr hs sl 6 (pr k) := by
  rw [mmo]
  cases hp : pr k with
  | none => rfl
  | some p =>
    have := (hok.2.2.2.1 k hk p hp).1
    rw [mmo_s hok 5 p (by omega) (by omega)]
theorem anc_mmo (hok : WoOk tb pr ow fi) {sl c k : Nat} (a : Anc pr c k) : k < 6 → mmo pr hs sl 6 (some c) ≠ none → mmo pr hs sl 6 (some k) ≠ none := by
  refine Anc.ind (mo := fun k => k < 6 → mmo pr hs sl 6 (some c) ≠ none → mmo pr hs sl 6 (some k) ≠ none) (fun _ h => h) (fun k p e _ ih hk h => ?_) a
  have h1 := hok.2.2.2.1 _ hk _ e
  rw [mmo_up hok hk]
  split
  · simp
  · rw [e]; exact ih (by omega) h
theorem mmo_of (hok : WoOk tb pr ow fi) {sl m : Nat} : ∀ n k, k < n → k < 6 → mmo pr hs sl n (some k) = some m → ∃ c, Anc pr c k ∧ c < 6 ∧ m = 4 * c + sl ∧ hs m = true := by
  intro n
  induction n with
  | zero => intro o h; exact absurd h (Nat.not_lt_zero _)
  | succ n ih =>
    intro k hn hk h
    rw [mmo] at h
    by_cases e : hs (4 * k + sl) = true
    · rw [if_pos e] at h
      cases h
      exact ⟨k, .refl, hk, rfl, e⟩
    · rw [if_neg e] at h
      cases hp : pr k with
      | none => rw [hp] at h; cases n <;> cases h
      | some p =>
        rw [hp] at h
        have h1 := hok.2.2.2.1 _ hk _ hp
        obtain ⟨c, a, b, d⟩ := ih p (by omega) (by omega) h
        exact ⟨c, .step hp a, b, d⟩
end WIh
