theorem jl_vin {k : Int32} {n : Nat} (h1 : ¬ k < 0) (h2 : ¬ nI n ≤ k) (hn : n < 2 ^ 31) : vp_in k n := by
  obtain ⟨j, hj, e, -⟩ := pk_mu h1 h2 hn
  subst e
  exact vp_in_nI hj hn
/-- an optional number as the class has it: -1 for none -/
def en (x : Option Nat) : Int32 := match x with
  | none => -1
  | some j => nI j
def bi (b : Bool) : Int32 := if b then 1 else 0
theorem bi_01 (b : Bool) : bi b = 0 ∨ bi b = 1 := by cases b <;> simp [bi]
theorem bi_0 {b : Bool} : bi b = 0 ↔ b = false := by cases b <;> simp [bi]
theorem bi_t {b : Bool} (h : b = true) : bi b = 1 := by rw [h]; rfl
theorem bi_f {b : Bool} (h : b = false) : bi b = 0 := by rw [h]; rfl
/-- below n, if it is a number -/
def ob (n : Nat) (x : Option Nat) : Prop := ∀ a, x = some a → a < n
theorem m1_toInt : (-1 : Int32).toInt = -1 := by decide
theorem en_m1lt {n : Nat} (h : n < 2 ^ 31) : (-1 : Int32) < nI n := by
  rw [Int32.lt_iff_toInt_lt, nI_toInt h, m1_toInt]; omega
theorem en_m1le {n : Nat} (h : n < 2 ^ 31) : (-1 : Int32) ≤ nI n := by
  rw [Int32.le_iff_toInt_le, nI_toInt h, m1_toInt]; omega
theorem en_m1ne {n : Nat} (h : n < 2 ^ 31) : nI n ≠ -1 := by
  intro q
  have a := nI_toInt h
  rw [q, m1_toInt] at a
  omega
theorem en_inj {x y : Option Nat} (hx : ob (2 ^ 31) x) (hy : ob (2 ^ 31) y) : en x = en y ↔ x = y := by
  cases x with
  | none => cases y with
    | none => simp
    | some b => exact ⟨fun h => absurd h.symm (en_m1ne (hy b rfl)), fun h => by cases h⟩
  | some a => cases y with
    | none => exact ⟨fun h => absurd h (en_m1ne (hx a rfl)), fun h => by cases h⟩
    | some b => simp only [en]; rw [nI_eq (hx a rfl) (hy b rfl)]; simp
theorem en_neg {x : Option Nat} (hx : ob (2 ^ 31) x) : en x < 0 ↔ x = none := by
  cases x with
  | none => exact ⟨fun _ => rfl, fun _ => by decide⟩
  | some a => exact ⟨fun h => absurd h (nI_pos (hx a rfl)), fun h => by cases h⟩
/-- by SUPERS up from x as long as the number is above h, n steps at most -/
def up (pr : Nat → Option Nat) (h : Nat) : Nat → Option Nat → Option Nat
  | 0, x => x
  | _ + 1, none => none
  | n + 1, some j => if j ≤ h then some j else up pr h n (pr j)
def ab (pr : Nat → Option Nat) (h : Nat) (x : Option Nat) : Bool := up pr h 6 x == some h
/-- one of the numbers i .. i + n - 1 has SUPER k -/
def sup (pr : Nat → Option Nat) (k : Nat) : Nat → Nat → Bool
  | 0, _ => false
  | n + 1, i => (pr i == some k) || sup pr k n (i + 1)
theorem beq_t {x y : Option Nat} (h : x = y) : (x == y) = true := by rw [h]; exact beq_self_eq_true y
theorem beq_f {x y : Option Nat} (h : ¬ x = y) : (x == y) = false := beq_eq_false_iff_ne.mpr h
theorem nI_one : nI 1 = 1 := by decide +kernel
theorem ob_w {n m : Nat} {x : Option Nat} (h : ob n x) (hn : n ≤ m) : ob m x := fun a ha => Nat.lt_of_lt_of_le (h a ha) hn
theorem bi_nf {b : Bool} (h : ¬ bi b = 0) : b = true := by
  cases hb : b with
  | true => rfl
  | false => rw [hb] at h; exact absurd rfl h
