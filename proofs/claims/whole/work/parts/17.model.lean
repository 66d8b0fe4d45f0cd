/-! the model's words -/
def msp (tb : Nat → Bool) (pr : Nat → Option Nat) (k : Nat) : Nat → Nat → Bool
  | 0, _ => false
  | n + 1, i => (tb i && (pr i == some k)) || msp tb pr k n (i + 1)
def msf (pr : Nat → Option Nat) (ow : Nat → Nat) : Nat → Option Nat → Nat
  | 0, _ => 0
  | _ + 1, none => 0
  | n + 1, some c => ow c + msf pr ow n (pr c)
theorem msf_eq {tb : Nat → Bool} {pr : Nat → Option Nat} {ow fi : Nat → Nat} (h : WoOk tb pr ow fi) : ∀ n x, (∀ c, x = some c → c < n ∧ c < 6) → msf pr ow n x = fcO fi ow x := by
  intro n
  induction n with
  | zero =>
    intro x hx
    cases x with
    | none => rfl
    | some c => exact absurd (hx c rfl).1 (Nat.not_lt_zero _)
  | succ n ih =>
    intro x hx
    cases x with
    | none => rfl
    | some c =>
      obtain ⟨h1, h2⟩ := hx c rfl
      simp only [msf, fcO]
      rw [ih (pr c) (fun d hd2 => by have := h.dsc c h2 d hd2; omega), ← h.fc h2, Nat.add_comm]
theorem msf_le {pr : Nat → Option Nat} {ow : Nat → Nat} (hd : dsc pr) (ho : ∀ j, j < 6 → ow j ≤ 3) : ∀ n x, ob 6 x → msf pr ow n x ≤ 3 * n := by
  intro n
  induction n with
  | zero => intro x _; exact Nat.le_refl _
  | succ n ih =>
    intro x hx
    cases x with
    | none => exact Nat.zero_le _
    | some c =>
      have h1 := ho c (hx c rfl)
      have h2 := ih (pr c) (fun d hd2 => by have := hd c (hx c rfl) d hd2; have := hx c rfl; omega)
      simp only [msf]; omega
theorem msp_lo {tb : Nat → Bool} {pr : Nat → Option Nat} {ow fi : Nat → Nat} (h : WoOk tb pr ow fi) {k : Nat} : ∀ n i, n + i ≤ 6 → msp tb pr k n i = sup pr k n i := by
  intro n
  induction n with
  | zero => intro i _; rfl
  | succ n ih =>
    intro i hi
    simp only [msp, sup]
    rw [ih (i + 1) (by omega)]
    cases ht : tb i with
    | true => rfl
    | false => rw [(h.2.2.2.2.2 i (by omega) ht).2]; rfl
theorem sup_hi {tb : Nat → Bool} {pr : Nat → Option Nat} {ow fi : Nat → Nat} (h : WoOk tb pr ow fi) {k : Nat} (hk : k < 6) : ∀ n i, n + i ≤ k + 1 → sup pr k (n + (6 - (k + 1))) i = sup pr k (6 - (k + 1)) (i + n) := by
  intro n
  induction n with
  | zero => intro i _; rw [Nat.zero_add]; rfl
  | succ n ih =>
    intro i hi
    rw [show n + 1 + (6 - (k + 1)) = (n + (6 - (k + 1))) + 1 by omega]
    simp only [sup]
    rw [ih (i + 1) (by omega), beq_f (fun q => by have := (h.2.2.2.1 i (by omega) k q).1; omega), Bool.false_or, show i + 1 + n = i + (n + 1) by omega]
theorem msp_eq {tb : Nat → Bool} {pr : Nat → Option Nat} {ow fi : Nat → Nat} (h : WoOk tb pr ow fi) {k : Nat} (hk : k < 6) : msp tb pr k 6 0 = sup pr k (6 - (k + 1)) (k + 1) := by
  rw [msp_lo h 6 0 (by omega)]
  have q := sup_hi h hk (k + 1) 0 (by omega)
  rw [show k + 1 + (6 - (k + 1)) = 6 by omega, Nat.zero_add] at q
  exact q
/-- the METHOD's number of a class or of one above -/
def mmo (pr : Nat → Option Nat) (hs : Nat → Bool) (sl : Nat) : Nat → Option Nat → Option Nat
  | 0, _ => none
  | _ + 1, none => none
  | n + 1, some c => if hs (4 * c + sl) then some (4 * c + sl) else mmo pr hs sl n (pr c)
theorem mmo_lt {pr : Nat → Option Nat} {hs : Nat → Bool} {sl : Nat} (hs4 : sl < 4) (hok : ∀ j, ob 6 (pr j)) : ∀ n x, ob 6 x → ob 24 (mmo pr hs sl n x) := by
  intro n
  induction n with
  | zero => intro x _ a ha; cases ha
  | succ n ih =>
    intro x hx
    cases x with
    | none => intro a ha; cases ha
    | some c =>
      have hc := hx c rfl
      simp only [mmo]
      by_cases e : hs (4 * c + sl) = true
      · rw [if_pos e]; intro a ha; cases ha; omega
      · rw [if_neg e]; exact ih (pr c) (hok c)
