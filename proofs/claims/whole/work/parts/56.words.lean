/-! the model's METHODS: what they keep to; its CALLS -/
def MoK (u1 u2 : Nat → Option Nat) (ur ul uo : Nat → Nat) (uc us ut uk : Nat → Nat) : Prop :=
  (∀ m, m < 24 → ob 16 (u1 m) ∧ ob 16 (u2 m) ∧ ur m < 16 ∧ ul m ≤ 24 ∧ uc m ≤ 2 ∧ (u1 m = none → u2 m = none)) ∧ (∀ j, j < 576 → uo j < 26) ∧ ∀ j, j < 48 → us j < 1024 ∧ ut j < 24 ∧ uk j < 7
def sgm (tb : Nat → Bool) (pr : Nat → Option Nat) (hs : Nat → Bool) (u1 u2 : Nat → Option Nat) (ur : Nat → Nat) (n : Nat) : Option Sg :=
  if n / 4 < 6 ∧ tb (n / 4) = true then (mmo pr hs (n % 4) 6 (some (n / 4))).map (fun m => (u1 m, u2 m, ur m)) else none
def SgM (tb : Nat → Bool) (pr : Nat → Option Nat) (hs : Nat → Bool) (u1 u2 : Nat → Option Nat) (ur : Nat → Nat) (sg : Int32 → Option Sg) : Prop := (∀ x : Int32, x < 0 → sg x = none) ∧ ∀ n, n < 2 ^ 31 → sg (nI n) = sgm tb pr hs u1 u2 ur n
def aroU (us : Nat → Nat) (c pc : Nat) : Bool := decide (us c / 32 ≤ pc) && decide (pc < us c % 32)
def rwM (lo sk : Nat → Option Nat) (j : Nat) : Option Nat := if j < 6 then lo j else sk (j - 7)
def flt2 (pr : Nat → Option Nat) (fi ft : Nat → Nat) (sg : Int32 → Option Sg) (o : Nat) (x : Int32) (rs : Nat) (s : Nat → Option Nat) (ld : Option Nat) (h : Nat) : Nat := if f1 sg o x h then 1 else if tfi pr fi ft sg o x rs s ld then 0 else 2
/-- the model's rows of TYPES -/
def MoR (σ : jl_S) (lo sk : Nat → Option Nat) : Prop := σ[40]? = some (.inl (0, 6, .inl fun j => en (lo j))) ∧ σ[41]? = some (.inl (0, 8, .inl fun j => en (sk j)))
section WSg
variable {tb : Nat → Bool} {pr : Nat → Option Nat} {ow fi : Nat → Nat} {hs : Nat → Bool} {u1 u2 : Nat → Option Nat} {ur : Nat → Nat} {sg : Int32 → Option Sg}
theorem hasI_b {n : Nat} (hn : n < 2 ^ 31) (h : hasI tb (nI n) = true) : n < 6 ∧ tb n = true := by
  obtain ⟨j, hj, e, ht⟩ := hasI_of h
  rw [nI_eq (by omega) (by omega)] at e
  subst e
  exact ⟨hj, ht⟩
theorem hasI_bf {n : Nat} (hn : n < 2 ^ 31) (h : hasI tb (nI n) = false) : ¬ (n < 6 ∧ tb n = true) := by
  rintro ⟨h1, h2⟩
  rw [hasI_n h1, h2] at h
  cases h
theorem hasF_n {n : Nat} (hok : WoOk tb pr ow fi) (hn : n < 2 ^ 31) : hasF tb ow fi (nI n / nI 32) (nI n - nI n / nI 32 * nI 32) = (hasI tb (nI (n / 32)) && decide (n % 32 < fi (n / 32) + ow (n / 32))) := by
  rw [pk_rem hn (by decide) (by decide), pk_div hn (by decide) (by decide)]
  unfold hasF
  cases q : hasI tb (nI (n / 32)) with
  | false => rfl
  | true =>
    obtain ⟨h1, h2⟩ := hasI_b (by omega) q
    have h3 := hok.2.1 _ h1
    have h4 := hok.2.2.1 _ h1
    rw [if_pos rfl, nI_clamp (by omega), if_neg (nI_pos (by omega)), Bool.true_and]
    by_cases z : n % 32 < fi (n / 32) + ow (n / 32)
    · rw [if_pos ((nI_ltI (by omega) (by omega)).mpr z), decide_eq_true z]
    · rw [if_neg (fun w => z ((nI_ltI (by omega) (by omega)).mp w)), decide_eq_false z]
theorem outB_lt6 (x : Int32) : outB x (nI 6) = !lt6 x := by
  unfold outB lt6
  by_cases h : x < 0
  · rw [if_pos h, if_pos h]; rfl
  · rw [if_neg h, if_neg h]
    by_cases h2 : x < nI 6
    · rw [if_pos h2, if_neg (Int32.not_le.mpr h2)]; rfl
    · rw [if_neg h2, if_pos (Int32.not_lt.mp h2)]; rfl
theorem SgM.of (h : SgM tb pr hs u1 u2 ur sg) {x : Int32} {g : Sg} (e : sg x = some g) : ∃ n m, n < 2 ^ 31 ∧ x = nI n ∧ n / 4 < 6 ∧ tb (n / 4) = true ∧ mmo pr hs (n % 4) 6 (some (n / 4)) = some m ∧ g = (u1 m, u2 m, ur m) := by
  by_cases q : x < 0
  · rw [h.1 x q] at e; cases e
  · obtain ⟨n, hn, rfl⟩ := nI_ofx q
    rw [h.2 n hn] at e
    unfold sgm at e
    by_cases z : n / 4 < 6 ∧ tb (n / 4) = true
    · rw [if_pos z] at e
      cases hm : mmo pr hs (n % 4) 6 (some (n / 4)) with
      | none => rw [hm] at e; cases e
      | some m => rw [hm] at e; cases e; exact ⟨n, m, hn, rfl, z.1, z.2, hm, rfl⟩
    · rw [if_neg z] at e; cases e
end WSg
