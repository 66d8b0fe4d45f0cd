/-! the weight of what VERIFYING can still do: it falls with every look -/
def rk (x : Option Nat) : Nat := match x with
  | none => 0
  | some t => if t = 2 then 9 else if t < 10 then 1 else t - 8
theorem up_le {pr : Nat → Option Nat} (hd : dsc pr) {h : Nat} : ∀ n x p, (∀ c, x = some c → c < 6) → up pr h n x = some p → ∀ c, x = some c → p ≤ c := by
  intro n
  induction n with
  | zero => intro x p _ e c hc; simp only [up] at e; rw [hc] at e; cases e; exact Nat.le_refl _
  | succ n ih =>
    intro x p hx e c hc
    subst hc
    simp only [up] at e
    by_cases q : c ≤ h
    · rw [if_pos q] at e; cases e; exact Nat.le_refl _
    · rw [if_neg q] at e
      cases hp : pr c with
      | none => rw [hp] at e; cases n <;> simp only [up] at e <;> cases e
      | some d =>
        have h1 := hd c (hx c rfl) d hp
        have h2 := hx c rfl
        rw [hp] at e
        have := ih (some d) p (fun z hz => by cases hz; omega) e d rfl
        omega
theorem ab_le {pr : Nat → Option Nat} (hd : dsc pr) {h k : Nat} (hk : k < 6) (e : ab pr h (some k) = true) : h ≤ k := up_le hd 6 (some k) h (fun c hc => by cases hc; exact hk) (eq_of_beq e) k rfl
theorem joinUp_rk {pr : Nat → Option Nat} (hd : dsc pr) {b : Nat} : ∀ n x k, (∀ c, x = some c → c < k ∧ c < 6) → rk (joinUp pr b n x) < k + 2 := by
  intro n
  induction n with
  | zero => intro x k _; exact Nat.succ_pos _
  | succ n ih =>
    intro x k hx
    cases x with
    | none => exact Nat.succ_pos _
    | some c =>
      have h1 := hx c rfl
      simp only [joinUp]
      split
      · show (if 10 + c = 2 then 9 else if 10 + c < 10 then 1 else 10 + c - 8) < k + 2
        rw [if_neg (by omega), if_neg (by omega)]
        omega
      · exact ih _ k (fun d hd2 => by have := hd c h1.2 d hd2; omega)
theorem join_rk {pr : Nat → Option Nat} (hd : dsc pr) {x y : Option Nat} (hx : tyv x) (hy : tyv y) (e : join pr x y ≠ x) : rk (join pr x y) < rk x := by
  cases x with
  | none =>
    exfalso
    apply e
    unfold join
    split
    · next h =>
      unfold part at h
      split at h
      · next q => exact q.symm
      · cases h
    · split
      · rfl
      · rfl
  | some a =>
    have ha := hx a rfl
    have hpos : 0 < rk (some a) := by
      show 0 < (if a = 2 then 9 else if a < 10 then 1 else a - 8)
      split
      · omega
      · split <;> omega
    unfold join at e ⊢
    by_cases p1 : part pr (some a) y = true
    · rw [if_pos p1] at e ⊢
      cases y with
      | none => exact hpos
      | some b =>
        have hb := hy b rfl
        have hne : a ≠ b := fun q => e (by rw [q])
        unfold part at p1
        rw [if_neg (by simpa using hne)] at p1
        simp only at p1
        show (if b = 2 then 9 else if b < 10 then 1 else b - 8) < (if a = 2 then 9 else if a < 10 then 1 else a - 8)
        by_cases a2 : a = 2
        · rw [if_pos a2] at p1 ⊢
          have : b = 1 ∨ 10 ≤ b := by simpa using p1
          rw [if_neg (by omega)]
          split <;> omega
        · rw [if_neg a2] at p1 ⊢
          have h3 : (10 ≤ a ∧ 10 ≤ b) ∧ ab pr (b - 10) (some (a - 10)) = true := by simpa using p1
          have h4 := ab_le hd (k := a - 10) (by omega) h3.2
          rw [if_neg (by omega), if_neg (by omega), if_neg (by omega)]
          omega
    · rw [if_neg p1] at e ⊢
      by_cases p2 : part pr y (some a) = true
      · rw [if_pos p2] at e; exact absurd rfl e
      · rw [if_neg p2]
        cases y with
        | none => exact hpos
        | some b =>
          simp only
          split
          · exact hpos
          · next h10 =>
            split
            · exact hpos
            · have := joinUp_rk hd (b := b - 10) 6 (pr (a - 10)) (a - 10) (fun c hc => by have := hd (a - 10) (by omega) c hc; omega)
              show _ < (if a = 2 then 9 else if a < 10 then 1 else a - 8)
              rw [if_neg (by omega), if_neg h10]
              omega
theorem rk_le {x : Option Nat} (h : tyv x) : rk x ≤ 9 := by
  cases x with
  | none => exact Nat.zero_le _
  | some t =>
    have := h t rfl
    show (if t = 2 then 9 else if t < 10 then 1 else t - 8) ≤ 9
    split
    · omega
    · split <;> omega
theorem sm_le {f g : Nat → Nat} : ∀ n i, (∀ j, i ≤ j → j < i + n → f j ≤ g j) → sm f n i ≤ sm g n i := by
  intro n
  induction n with
  | zero => intro i _; exact Nat.le_refl _
  | succ n ih =>
    intro i h
    simp only [sm]
    have := h i (by omega) (by omega)
    have := ih (i + 1) (fun j h1 h2 => h j (by omega) (by omega))
    omega
theorem sm_lt {f g : Nat → Nat} : ∀ n i k, i ≤ k → k < i + n → f k < g k → (∀ j, i ≤ j → j < i + n → f j ≤ g j) → sm f n i < sm g n i := by
  intro n
  induction n with
  | zero => intro i k h1 h2; omega
  | succ n ih =>
    intro i k h1 h2 h3 h
    simp only [sm]
    by_cases e : k = i
    · subst e
      have := sm_le n (k + 1) (fun j a b => h j (by omega) (by omega))
      omega
    · have := ih (i + 1) k (by omega) (by omega) h3 (fun j a b => h j (by omega) (by omega))
      have := h i (by omega) (by omega)
      omega
theorem sm_c {f : Nat → Nat} {c : Nat} : ∀ n i, (∀ j, i ≤ j → j < i + n → f j ≤ c) → sm f n i ≤ n * c := by
  intro n
  induction n with
  | zero => intro i _; exact Nat.zero_le _
  | succ n ih =>
    intro i h
    simp only [sm]
    have h1 := h i (by omega) (by omega)
    have h2 := ih (i + 1) (fun j a b => h j (by omega) (by omega))
    rw [Nat.succ_mul]
    omega
/-- of a row; of an INSTRUCTION; of all -/
def rkR (r : Rw) : Nat := sm (fun i => if i = 6 then 0 else rk (r i)) 12 0
def rkA (A : Nat → Option Rw) (pc : Nat) : Nat := match A pc with
  | none => 200
  | some r => rkR r
def wgt (s : MF) : Nat := sm (fun pc => 2 * rkA s.1 pc + if s.2 pc then 1 else 0) 24 0
theorem rkR_le {r : Rw} {h : Nat} (hr : rv r h) : rkR r ≤ 12 * 9 := sm_c 12 0 (fun j _ _ => by
  show (if j = 6 then 0 else rk (r j)) ≤ 9
  split
  · omega
  · next e => exact rk_le (hr.2.2.1 j e))
