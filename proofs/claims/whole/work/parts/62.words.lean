/-! words of the verifier: rows of TYPES (12 places: LOCALS, height, STACK), what an INSTRUCTION does to them -/
def low (g : Nat → Option Nat) (h n : Nat) : Nat → Option Nat := fun j => if j = 6 then some (h - n) else if 7 + (h - n) ≤ j ∧ j < 7 + h then none else g j
def psh (g : Nat → Option Nat) (h : Nat) (t : Option Nat) : Nat → Option Nat := fun j => if j = 6 then some (h + 1) else if j = 7 + h then t else g j
def pshN (t : Option Nat) : Nat → (Nat → Option Nat) → Nat → Nat → Option Nat
  | 0, g, _ => g
  | n + 1, g, h => pshN t n (psh g h t) (h + 1)
def tres (pr : Nat → Option Nat) (fi ft : Nat → Nat) (sg : Int32 → Option Sg) (bf : Nat → Option Nat) (o : Nat) (x : Int32) (top : Option Nat) : Option Nat := match o with
  | 1 => bf x.toNatClampNeg
  | 10 => some 2
  | 11 => some (10 + x.toNatClampNeg)
  | 15 => some (10 + x.toNatClampNeg)
  | 12 => some (fty pr fi ft (xq x 32) (xr x 32))
  | 14 => match sg x with
    | none => none
    | some g => some g.2.2
  | 19 => some 1
  | 24 => top
  | _ => some 0
def topO (g : Nat → Option Nat) (h : Nat) : Option Nat := if h = 0 then none else g (6 + h)
def actR (pr : Nat → Option Nat) (fi ft : Nat → Nat) (sg : Int32 → Option Sg) (bf : Nat → Option Nat) (o : Nat) (x : Int32) (g : Nat → Option Nat) (h : Nat) : Nat → Option Nat :=
  pshN (tres pr fi ft sg bf o x (topO bf h)) (pts o) (if o = 2 then va_up (low g h (tks sg o x)) x.toNatClampNeg (topO bf h) else low g h (tks sg o x)) (h - tks sg o x)
theorem low_0 {g : Nat → Option Nat} {h : Nat} (hg : g 6 = some h) : low g h 0 = g := by
  funext j
  unfold low
  by_cases e : j = 6
  · rw [if_pos e, e, hg]; rfl
  · rw [if_neg e, if_neg (by omega)]
theorem low_s {g : Nat → Option Nat} {h i : Nat} (hi : i < h) : va_up (va_up (low g h i) 6 (some (h - i - 1))) (7 + (h - i - 1)) none = low g h (i + 1) := by
  funext j
  unfold low va_up
  by_cases e : j = 6
  · rw [if_neg (by omega), if_pos e, if_pos e]; rfl
  · by_cases e2 : j = 7 + (h - i - 1)
    · rw [if_pos e2, if_neg e, if_pos (by omega)]
    · rw [if_neg e2, if_neg e, if_neg e]
      show (if j = 6 then some (h - i) else if 7 + (h - i) ≤ j ∧ j < 7 + h then none else g j) = _
      rw [if_neg e]
      by_cases e3 : 7 + (h - i) ≤ j ∧ j < 7 + h
      · rw [if_pos e3, if_pos (by omega)]
      · rw [if_neg e3, if_neg (by omega)]
theorem psh_e {g : Nat → Option Nat} {h : Nat} {t : Option Nat} : va_up (va_up g (7 + h) t) 6 (some (h + 1)) = psh g h t := by
  funext j
  rfl
/-- the verifier's rows: what stood before, what is given, what is joined -/
def VeR (σ : jl_S) (bf gv : Nat → Option Nat) : Prop := σ[10]? = some (.inl (0, 12, .inl fun j => en (bf j))) ∧ σ[11]? = some (.inl (0, 12, .inl fun j => en (gv j)))
section JQm
variable {l : Launch} {G : jl_G} {M : jl_M} {u : Nat × Nat} {pc : Nat} {ls : List (Option Value)} {st : List Value} {σ : jl_S} {o : jl_O} {σ' : jl_S}
theorem jr_ptldQ {i v : Nat} (hd : decode M.2.1 pc = .ok (.iaload, 1)) (hi : i < 26) (hv : pts i = v) (k : jl_W l G M u (pc + 1) ls (.int (nI v) :: st) σ o σ') : jl_W l G M u pc ls (.int (nI i) :: .retAddr G.2.2.2.2.1 :: st) σ o σ' := jr_ptldN hd hi (by rw [hv]; exact k)
end JQm
section WAc
variable {pr : Nat → Option Nat} {fi ft : Nat → Nat} {sg : Int32 → Option Sg} {bf g : Nat → Option Nat} {o h : Nat} {x : Int32}
theorem actR_0 (hp : pts o = 0) (ho : o ≠ 2) : actR pr fi ft sg bf o x g h = low g h (tks sg o x) := by unfold actR; rw [hp, if_neg ho]; rfl
theorem actR_2 {n : Nat} (hn : n < 2 ^ 31) : actR pr fi ft sg bf 2 (nI n) g h = va_up (low g h (tks sg 2 (nI n))) n (topO bf h) := by
  unfold actR
  rw [if_pos rfl, nI_clamp hn]
  rfl
theorem p2 (hp : pts o ≠ 0) : o ≠ 2 := fun e => hp (by rw [e]; decide)
theorem actR_p (hp : pts o = 1) : actR pr fi ft sg bf o x g h = psh (low g h (tks sg o x)) (h - tks sg o x) (tres pr fi ft sg bf o x (topO bf h)) := by unfold actR; rw [if_neg (p2 (by omega)), hp]; rfl
theorem actR_pp (hp : pts o = 2) : actR pr fi ft sg bf o x g h = psh (psh (low g h (tks sg o x)) (h - tks sg o x) (tres pr fi ft sg bf o x (topO bf h))) (h - tks sg o x + 1) (tres pr fi ft sg bf o x (topO bf h)) := by unfold actR; rw [if_neg (p2 (by omega)), hp]; rfl
end WAc
/-- where the METHODS' cells lie -/
def MtOk (mt : Nat → Option Nat) : Prop := ∀ j a, mt j = some a → 54 ≤ a ∧ (a - 54) % 9 = 0
theorem fnd_mt {pr mt : Nat → Option Nat} {sl a : Nat} : ∀ n x, fnd pr mt sl n x = some a → ∃ j, mt j = some a := by
  intro n
  induction n with
  | zero => intro x h; cases h
  | succ n ih =>
    intro x h
    cases x with
    | none => cases h
    | some c =>
      simp only [fnd] at h
      cases hm : mt (c * 4 + sl) with
      | some b => rw [hm] at h; cases h; exact ⟨_, hm⟩
      | none => rw [hm] at h; exact ih _ h
theorem found_mt {tb : Nat → Bool} {pr mt : Nat → Option Nat} {k sl : Int32} {a : Nat} (h : found tb pr mt k sl = some a) : ∃ j, mt j = some a := by
  unfold found at h
  by_cases h1 : hasI tb k = false
  · rw [if_pos h1] at h; cases h
  · rw [if_neg h1] at h
    by_cases h2 : sl < 0
    · rw [if_pos h2] at h; cases h
    · rw [if_neg h2] at h
      by_cases h3 : sl < nI 4
      · rw [if_pos h3] at h; exact fnd_mt _ _ h
      · rw [if_neg h3] at h; cases h
theorem SgC.sx {σ : jl_S} {tb : Nat → Bool} {pr mt : Nat → Option Nat} {sg : Int32 → Option Sg} (h : SgC σ tb pr mt sg) (hmt : MtOk mt) {b : Nat} {c : jl_C} (hb : b < 54 ∨ (b - 54) % 9 ≠ 0) : SgC (σ.set b c) tb pr mt sg := by
  intro x
  refine ⟨(h x).1, fun a ha => ?_⟩
  obtain ⟨q1, q2, rs, fs, hM, r⟩ := (h x).2 a ha
  obtain ⟨j, hj⟩ := found_mt ha
  have := hmt j a hj
  exact ⟨q1, q2, rs, fs, jl_sn (by rintro rfl; omega) hM, r⟩
