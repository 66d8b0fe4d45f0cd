/-! words of the face -/
abbrev xA : String := "java/lang/IllegalArgumentException"
abbrev xS : String := "java/lang/IllegalStateException"
abbrev xN : String := "java/util/NoSuchElementException"
abbrev xU : String := "java/lang/UnsupportedOperationException"
abbrev xB : String := "java/lang/IndexOutOfBoundsException"
def isTyp (t : Int32) : Bool := if t = 0 then true else if t = nI 1 then true else if t < nI 10 then false else if nI 16 ≤ t then false else true
def prOk (p q : Int32) : Bool := (if p = -1 then true else isTyp p) && (if q = -1 then true else if p = -1 then false else isTyp q)
theorem WoAt.s0 {σ : jl_S} {tb : Nat → Bool} {pr : Nat → Option Nat} {ow fi ft : Nat → Nat} {mt : Nat → Option Nat} {d : jl_C} (h : WoAt σ tb pr ow fi ft mt) : WoAt (σ.set 0 d) tb pr ow fi ft mt := ⟨jl_sn (by decide) h.1, jl_sn (by decide) h.2.1, jl_sn (by decide) h.2.2.1, jl_sn (by decide) h.2.2.2.1, jl_sn (by decide) h.2.2.2.2.1, jl_sn (by decide) h.2.2.2.2.2.1, jl_sn (by decide) h.2.2.2.2.2.2⟩
def JcAt (σ : jl_S) (vf : Bool) : Prop := σ[0]? = some (.inr (6, [.ref 1, .ref 9, .ref 13, .int (bi vf)]))
theorem rg_ok {k n : Nat} (h : k ≤ n) (hn : n < 2 ^ 31) : ¬ (nI k < nI 0 ∨ nI n < nI k) := by
  rintro (q | q)
  · rw [nI_ltI (by omega) (by decide)] at q; omega
  · rw [nI_ltI hn (by omega)] at q; omega
theorem rg_en {x : Option Nat} {n : Nat} (h : ob (n + 1) x) (hn : n < 2 ^ 30) : ¬ (en x < -1 ∨ nI n < en x) := by
  cases x with
  | none =>
    rintro (q | q)
    · exact absurd q (by decide)
    · exact absurd q (Int32.not_lt.mpr (en_m1le (by omega)))
  | some a =>
    have ha := h a rfl
    rintro (q | q)
    · exact absurd q (Int32.not_lt.mpr (en_m1le (by omega)))
    · have q2 : nI n < nI a := q
      rw [nI_ltI (by omega) (by omega)] at q2; omega
def dfOk (tb : Nat → Bool) (k : Nat) (b : Option Nat) : Bool := !tb k && (match b with | none => true | some q => decide (q < k) && tb q)
def flOk (pr : Nat → Option Nat) (ow : Nat → Nat) (k : Nat) : Bool := decide (ow k < 3) && !sup pr k (6 - (k + 1)) (k + 1)
