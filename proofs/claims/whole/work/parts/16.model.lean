/-! the model's cells -/
abbrev MoF (fa vf wh wy hg dp md ov oh dn an : Int32) : List Value := [.int fa, .ref 23, .ref 24, .ref 25, .ref 26, .ref 27, .ref 28, .ref 29, .ref 30, .ref 31, .ref 32, .ref 33, .ref 34, .ref 35, .ref 36, .ref 37, .int vf, .int wh, .int wy, .ref 38, .ref 39, .ref 40, .ref 41, .int hg, .ref 42, .ref 43, .ref 44, .ref 45, .ref 46, .ref 47, .ref 48, .ref 49, .int dp, .ref 50, .ref 51, .ref 52, .int md, .int ov, .int oh, .int dn, .int an]
def MoO (σ : jl_S) (fa vf wh wy hg dp md ov oh dn an : Int32) : Prop := σ[22]? = some (.inr (7, MoF fa vf wh wy hg dp md ov oh dn an))
def MoW (σ : jl_S) (tb : Nat → Bool) (pr : Nat → Option Nat) (ow ft : Nat → Nat) (hs : Nat → Bool) : Prop :=
  σ[23]? = some (.inl (1, 6, .inl fun j => bi (tb j))) ∧ σ[24]? = some (.inl (0, 6, .inl fun j => en (pr j))) ∧ σ[25]? = some (.inl (0, 6, .inl fun j => nI (ow j))) ∧ σ[26]? = some (.inl (0, 18, .inl fun j => nI (ft j))) ∧ σ[27]? = some (.inl (1, 24, .inl fun j => bi (hs j)))
def mab (pr : Nat → Option Nat) (h : Nat) : Nat → Option Nat → Bool
  | 0, _ => false
  | _ + 1, none => false
  | n + 1, some c => if c = h then true else mab pr h n (pr c)
def dsc (pr : Nat → Option Nat) : Prop := ∀ j, j < 6 → ∀ p, pr j = some p → p < j
theorem mab_lt {pr : Nat → Option Nat} (hd : dsc pr) {h : Nat} : ∀ n x, (∀ c, x = some c → c < h ∧ c < 6) → mab pr h n x = false := by
  intro n
  induction n with
  | zero => intro x _; rfl
  | succ n ih =>
    intro x hx
    cases x with
    | none => rfl
    | some c =>
      obtain ⟨h1, h2⟩ := hx c rfl
      simp only [mab]
      rw [if_neg (by omega)]
      exact ih (pr c) (fun d hd2 => by have := hd c h2 d hd2; omega)
theorem mab_eq {pr : Nat → Option Nat} (hd : dsc pr) {h : Nat} : ∀ n x, (∀ c, x = some c → c < n ∧ c < 6) → mab pr h n x = (up pr h n x == some h) := by
  intro n
  induction n with
  | zero =>
    intro x hx
    cases x with
    | none => rfl
    | some c => exact absurd (hx c rfl).1 (Nat.not_lt_zero _)
  | succ n ih =>
    intro x hx
    cases x with
    | none => rfl
    | some c =>
      obtain ⟨h1, h2⟩ := hx c rfl
      simp only [mab, up]
      by_cases e1 : c = h
      · rw [if_pos e1, if_pos (by omega), e1]
        exact (beq_self_eq_true _).symm
      · rw [if_neg e1]
        by_cases e2 : c ≤ h
        · rw [if_pos e2, mab_lt hd n (pr c) (fun d hd2 => by have := hd c h2 d hd2; omega)]
          exact (beq_f (fun q => e1 (Option.some.inj q))).symm
        · rw [if_neg e2]
          exact ih (pr c) (fun d hd2 => by have := hd c h2 d hd2; omega)
theorem ab_m {pr : Nat → Option Nat} (hd : dsc pr) {h : Nat} {x : Option Nat} (hx : ob 6 x) : mab pr h 6 x = ab pr h x := mab_eq hd 6 x (fun c hc => ⟨hx c hc, hx c hc⟩)
theorem WoOk.dsc {tb : Nat → Bool} {pr : Nat → Option Nat} {ow fi : Nat → Nat} (h : WoOk tb pr ow fi) : dsc pr := fun j hj p hp => (h.2.2.2.1 j hj p hp).1
theorem WoOk.fc {tb : Nat → Bool} {pr : Nat → Option Nat} {ow fi : Nat → Nat} (h : WoOk tb pr ow fi) {j : Nat} (hj : j < 6) : fi j = fcO fi ow (pr j) := by
  cases hp : pr j with
  | none => exact h.2.2.2.2.1 j hj hp
  | some p => exact (h.2.2.2.1 j hj p hp).2.1
def outB (v n : Int32) : Bool := if v < 0 then true else if v < n then false else true
def isTyM (t : Int32) : Bool := if t = 0 then true else if t = nI 1 then true else if t < nI 10 then false else if nI 15 < t then false else true
