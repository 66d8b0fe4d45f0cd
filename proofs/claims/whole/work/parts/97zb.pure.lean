/-! both sides' words of METHODS are the same -/
section WPu
variable {U : Un} {mt : Nat → Option Nat} {k sl : Nat} {p q : Option Nat} {r : Nat}
/-- where the class has its METHODS -/
def mtH (hs : Nat → Bool) (mt : Nat → Option Nat) : Prop := ∀ m, hs m = (mt m).isSome
theorem clash_U (h : mtH U.hs mt) : ∀ n i, clash U.pr mt (fun m => (U.D m).1) (fun m => (U.D m).2.1) (fun m => (U.D m).2.2.1) k sl p q r n i = anyC (fun i => U.hs (4 * i + sl) && (ab U.pr i (some k) || ab U.pr k (some i)) && !(decide ((U.D (4 * i + sl)).1 = p) && decide ((U.D (4 * i + sl)).2.1 = q) && decide ((U.D (4 * i + sl)).2.2.1 = r))) n i := by
  intro n
  induction n with
  | zero => intro i; rfl
  | succ n ih =>
    intro i
    rw [clash, anyC, ih, h, Nat.mul_comm i 4]
theorem mcl_U (h : UI U) {u1 u2 : Nat → Option Nat} {ur : Nat → Nat} (hsl : sl < 4) (hu : ∀ m, U.hs m = true → u1 m = (U.D m).1 ∧ u2 m = (U.D m).2.1 ∧ ur m = (U.D m).2.2.1) : ∀ n i, mcl U.tb U.pr U.hs u1 u2 ur k sl p q r n i = anyC (fun i => U.hs (4 * i + sl) && (ab U.pr i (some k) || ab U.pr k (some i)) && !(decide ((U.D (4 * i + sl)).1 = p) && decide ((U.D (4 * i + sl)).2.1 = q) && decide ((U.D (4 * i + sl)).2.2.1 = r))) n i := by
  intro n
  induction n with
  | zero => intro i; rfl
  | succ n ih =>
    intro i
    rw [mcl, anyC, ih]
    cases e : U.hs (4 * i + sl) with
    | false => simp
    | true =>
      have ht := (h.2.2.1 _ e).2
      rw [show (4 * i + sl) / 4 = i by omega] at ht
      obtain ⟨a, b, c⟩ := hu _ e
      rw [ht, a, b, c, Bool.true_and]
theorem fnd_mmo (h : mtH U.hs mt) : ∀ n x, fnd U.pr mt sl n x = (mmo U.pr U.hs sl n x).bind mt := by
  intro n
  induction n with
  | zero => intro x; rfl
  | succ n ih =>
    intro x
    cases x with
    | none => rfl
    | some c =>
      rw [fnd, mmo, h, Nat.mul_comm c 4]
      cases e : mt (4 * c + sl) with
      | none => simp [ih]
      | some a => simp [e]
theorem cnt_e {f g : Nat → Bool} : ∀ n i, (∀ j, i ≤ j → j < i + n → f j = g j) → cnt f n i = cnt g n i := by
  intro n
  induction n with
  | zero => intro i _; rfl
  | succ n ih =>
    intro i h
    rw [cnt, cnt, h i (Nat.le_refl _) (by omega), ih _ (fun j h1 h2 => h j (by omega) (by omega))]
theorem cnt24 (f : Nat → Bool) : sm (fun k => cnt (fun q => f (k * 4 + q)) 4 0) 6 0 = cnt f 24 0 := by
  simp only [sm, cnt, Nat.zero_mul, Nat.zero_add, Nat.reduceMul, Nat.reduceAdd, Nat.add_zero, Nat.one_mul, Nat.add_assoc]
end WPu
