/-! World's cells: which classes are there, their SUPERS, how many own FIELDS, the first own one, the FIELDS' TYPES, the METHODS' cells -/
def WoAt (σ : jl_S) (tb : Nat → Bool) (pr : Nat → Option Nat) (ow fi ft : Nat → Nat) (mt : Nat → Option Nat) : Prop :=
  σ[1]? = some (.inr (5, [.ref 2, .ref 3, .ref 4, .ref 5, .ref 6, .ref 7])) ∧ σ[2]? = some (.inl (1, 6, .inl fun j => bi (tb j))) ∧ σ[3]? = some (.inl (0, 6, .inl fun j => en (pr j))) ∧ σ[4]? = some (.inl (0, 6, .inl fun j => nI (ow j))) ∧ σ[5]? = some (.inl (0, 6, .inl fun j => nI (fi j))) ∧ σ[6]? = some (.inl (0, 18, .inl fun j => nI (ft j))) ∧ σ[7]? = some (.inl (3, 24, .inr (.inr (.inr (.inr mt)))))
theorem bi_up (f : Nat → Bool) (k : Nat) (v : Bool) : upd (fun j => bi (f j)) k (bi v) = fun j => bi (va_up f k v j) := by
  funext j
  by_cases h : j = k <;> simp [upd, va_up, h]
theorem en_up (f : Nat → Option Nat) (k : Nat) (v : Option Nat) : upd (fun j => en (f j)) k (en v) = fun j => en (va_up f k v j) := by
  funext j
  by_cases h : j = k <;> simp [upd, va_up, h]
theorem nI_up (f : Nat → Nat) (k : Nat) (v : Nat) : upd (fun j => nI (f j)) k (nI v) = fun j => nI (va_up f k v j) := by
  funext j
  by_cases h : j = k <;> simp [upd, va_up, h]
/-- what the world keeps to -/
def WoOk (tb : Nat → Bool) (pr : Nat → Option Nat) (ow fi : Nat → Nat) : Prop :=
  (∀ j, ob 6 (pr j)) ∧ (∀ j, j < 6 → ow j ≤ 3) ∧ (∀ j, j < 6 → fi j ≤ 18) ∧ (∀ j, j < 6 → ∀ p, pr j = some p → p < j ∧ fi j = fi p + ow p ∧ tb p = true) ∧ (∀ j, j < 6 → pr j = none → fi j = 0) ∧ (∀ j, j < 6 → tb j = false → ow j = 0 ∧ pr j = none)
/-- class k is there, k any int -/
def hasI (tb : Nat → Bool) (k : Int32) : Bool := if k < 0 then false else if nI 6 ≤ k then false else tb k.toNatClampNeg
theorem hasI_n {tb : Nat → Bool} {k : Nat} (h : k < 6) : hasI tb (nI k) = tb k := by
  unfold hasI
  rw [if_neg (nI_pos (by omega)), if_neg (nI_ge h (by decide)), nI_clamp (by omega)]
/-- how many of the numbers i .. i + n - 1 a test takes -/
def cnt (p : Nat → Bool) : Nat → Nat → Nat
  | 0, _ => 0
  | n + 1, i => (if p i then 1 else 0) + cnt p n (i + 1)
theorem cnt_le (p : Nat → Bool) : ∀ n i, cnt p n i ≤ n := by
  intro n
  induction n with
  | zero => intro i; exact Nat.le_refl _
  | succ n ih => intro i; have := ih (i + 1); simp only [cnt]; split <;> omega
/-- the class among o and those above it whose own FIELDS have number f, n steps at most -/
def fow (pr : Nat → Option Nat) (fi : Nat → Nat) (f : Nat) : Nat → Nat → Nat
  | 0, o => o
  | n + 1, o => if f < fi o then (match pr o with | none => o | some p => fow pr fi f n p) else o
def fty (pr : Nat → Option Nat) (fi ft : Nat → Nat) (k f : Nat) : Nat := ft (fow pr fi f 6 k * 3 + f - fi (fow pr fi f 6 k))
/-- PART of TYPES, JOIN -/
def part (pr : Nat → Option Nat) (x y : Option Nat) : Bool := if x = y then true else match x, y with
  | some a, some b => if a = 2 then decide (b = 1) || decide (10 ≤ b) else decide (10 ≤ a) && decide (10 ≤ b) && ab pr (b - 10) (some (a - 10))
  | _, _ => false
def joinUp (pr : Nat → Option Nat) (b : Nat) : Nat → Option Nat → Option Nat
  | 0, _ => none
  | _ + 1, none => none
  | n + 1, some c => if ab pr c (some b) then some (10 + c) else joinUp pr b n (pr c)
def join (pr : Nat → Option Nat) (x y : Option Nat) : Option Nat := if part pr x y then y else if part pr y x then x else match x, y with
  | some a, some b => if a < 10 then none else if b < 10 then none else joinUp pr (b - 10) 6 (pr (a - 10))
  | _, _ => none
/-- the METHOD of a class or of one above -/
def fnd (pr : Nat → Option Nat) (mt : Nat → Option Nat) (sl : Nat) : Nat → Option Nat → Option Nat
  | 0, _ => none
  | _ + 1, none => none
  | n + 1, some c => match mt (c * 4 + sl) with
    | some a => some a
    | none => fnd pr mt sl n (pr c)
def found (tb : Nat → Bool) (pr : Nat → Option Nat) (mt : Nat → Option Nat) (k sl : Int32) : Option Nat := if hasI tb k = false then none else if sl < 0 then none else if sl < nI 4 then fnd pr mt sl.toNatClampNeg 6 (some k.toNatClampNeg) else none
/-- the class of a TYPE is there -/
def tyOk (tb : Nat → Bool) (x : Option Nat) : Bool := match x with
  | none => true
  | some t => decide (t < 10) || tb (t - 10)
section WoSets
variable {σ : jl_S} {tb tb' : Nat → Bool} {pr pr' : Nat → Option Nat} {ow fi ft ow' fi' ft' : Nat → Nat} {mt mt' : Nat → Option Nat}
theorem WoAt.s2 (h : WoAt σ tb pr ow fi ft mt) : WoAt (σ.set 2 (.inl (1, 6, .inl fun j => bi (tb' j)))) tb' pr ow fi ft mt := ⟨jl_sn (by decide) h.1, jl_ss h.2.1, jl_sn (by decide) h.2.2.1, jl_sn (by decide) h.2.2.2.1, jl_sn (by decide) h.2.2.2.2.1, jl_sn (by decide) h.2.2.2.2.2.1, jl_sn (by decide) h.2.2.2.2.2.2⟩
theorem WoAt.s3 (h : WoAt σ tb pr ow fi ft mt) : WoAt (σ.set 3 (.inl (0, 6, .inl fun j => en (pr' j)))) tb pr' ow fi ft mt := ⟨jl_sn (by decide) h.1, jl_sn (by decide) h.2.1, jl_ss h.2.2.1, jl_sn (by decide) h.2.2.2.1, jl_sn (by decide) h.2.2.2.2.1, jl_sn (by decide) h.2.2.2.2.2.1, jl_sn (by decide) h.2.2.2.2.2.2⟩
theorem WoAt.s4 (h : WoAt σ tb pr ow fi ft mt) : WoAt (σ.set 4 (.inl (0, 6, .inl fun j => nI (ow' j)))) tb pr ow' fi ft mt := ⟨jl_sn (by decide) h.1, jl_sn (by decide) h.2.1, jl_sn (by decide) h.2.2.1, jl_ss h.2.2.2.1, jl_sn (by decide) h.2.2.2.2.1, jl_sn (by decide) h.2.2.2.2.2.1, jl_sn (by decide) h.2.2.2.2.2.2⟩
theorem WoAt.s5 (h : WoAt σ tb pr ow fi ft mt) : WoAt (σ.set 5 (.inl (0, 6, .inl fun j => nI (fi' j)))) tb pr ow fi' ft mt := ⟨jl_sn (by decide) h.1, jl_sn (by decide) h.2.1, jl_sn (by decide) h.2.2.1, jl_sn (by decide) h.2.2.2.1, jl_ss h.2.2.2.2.1, jl_sn (by decide) h.2.2.2.2.2.1, jl_sn (by decide) h.2.2.2.2.2.2⟩
theorem WoAt.s6 (h : WoAt σ tb pr ow fi ft mt) : WoAt (σ.set 6 (.inl (0, 18, .inl fun j => nI (ft' j)))) tb pr ow fi ft' mt := ⟨jl_sn (by decide) h.1, jl_sn (by decide) h.2.1, jl_sn (by decide) h.2.2.1, jl_sn (by decide) h.2.2.2.1, jl_sn (by decide) h.2.2.2.2.1, jl_ss h.2.2.2.2.2.1, jl_sn (by decide) h.2.2.2.2.2.2⟩
theorem WoAt.s7 (h : WoAt σ tb pr ow fi ft mt) : WoAt (σ.set 7 (.inl (3, 24, .inr (.inr (.inr (.inr mt')))))) tb pr ow fi ft mt' := ⟨jl_sn (by decide) h.1, jl_sn (by decide) h.2.1, jl_sn (by decide) h.2.2.1, jl_sn (by decide) h.2.2.2.1, jl_sn (by decide) h.2.2.2.2.1, jl_sn (by decide) h.2.2.2.2.2.1, jl_ss h.2.2.2.2.2.2⟩
theorem WoAt.sx {a : Nat} {d : jl_C} (h : WoAt σ tb pr ow fi ft mt) (ha : 8 ≤ a) : WoAt (σ.set a d) tb pr ow fi ft mt := ⟨jl_sn (by omega) h.1, jl_sn (by omega) h.2.1, jl_sn (by omega) h.2.2.1, jl_sn (by omega) h.2.2.2.1, jl_sn (by omega) h.2.2.2.2.1, jl_sn (by omega) h.2.2.2.2.2.1, jl_sn (by omega) h.2.2.2.2.2.2⟩
end WoSets
theorem hasI_of {tb : Nat → Bool} {k : Int32} (h : hasI tb k = true) : ∃ j, j < 6 ∧ k = nI j ∧ tb j = true := by
  unfold hasI at h
  by_cases h1 : k < 0
  · rw [if_pos h1] at h; cases h
  · rw [if_neg h1] at h
    by_cases h2 : nI 6 ≤ k
    · rw [if_pos h2] at h; cases h
    · rw [if_neg h2] at h
      obtain ⟨j, hj, e, -⟩ := pk_mu h1 h2 (by decide)
      subst e
      rw [nI_clamp (by omega)] at h
      exact ⟨j, hj, rfl, h⟩
theorem jl_rng {k : Int32} {n : Nat} (h1 : ¬ k < 0) (h2 : k < nI n) (hn : n < 2 ^ 31) : ∃ j, j < n ∧ k = nI j := by
  obtain ⟨j, hj, e, -⟩ := pk_mu h1 (Int32.not_le.mpr h2) hn
  exact ⟨j, hj, e⟩
/-- how many of n numbers from i on, added up -/
def sm (f : Nat → Nat) : Nat → Nat → Nat
  | 0, _ => 0
  | n + 1, i => f i + sm f n (i + 1)
/-- FIELD f of class k, any ints -/
def hasF (tb : Nat → Bool) (ow fi : Nat → Nat) (k f : Int32) : Bool := if hasI tb k then (if f < 0 then false else if f < nI (fi k.toNatClampNeg + ow k.toNatClampNeg) then true else false) else false
/-- how many FIELDS a SUPER has; none: 0 -/
def fcO (fi ow : Nat → Nat) (b : Option Nat) : Nat := match b with
  | none => 0
  | some q => fi q + ow q
