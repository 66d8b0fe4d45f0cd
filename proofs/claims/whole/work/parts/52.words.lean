/-! words of the checker: what an INSTRUCTION takes, its FAULT on a row of TYPES -/
def tkL : List Nat := [0, 0, 1, 2, 2, 2, 2, 0, 1, 2, 0, 0, 1, 2, 1, 1, 1, 1, 1, 1, 2, 3, 1, 1, 1, 2]
def tk0 (o : Nat) : Nat := tkL.getD o 0
theorem tk0_lt : ∀ o, tk0 o ≤ 3 := by
  intro o
  by_cases h : o < 26
  · have : ∀ q, q < 26 → tk0 q ≤ 3 := by decide
    exact this o h
  · rw [tk0, List.getD_eq_getElem?_getD, List.getElem?_eq_none (by simp [tkL]; omega)]
    exact Nat.zero_le _
theorem tk_n {i : Nat} (h : i < 26) : jl_tk.getD i 0 = nI (tk0 i) := by
  have : ∀ q, q < 26 → jl_tk.getD q 0 = nI (tk0 q) := by decide +kernel
  exact this i h
theorem pt_n {i : Nat} (h : i < 26) : jl_pt.getD i 0 = nI (pts i) := by
  have : ∀ q, q < 26 → jl_pt.getD q 0 = nI (pts q) := by decide +kernel
  exact this i h
theorem pts_le (o : Nat) : pts o ≤ 2 := by unfold pts; split; omega; split <;> omega
abbrev Sg : Type := Option Nat × Option Nat × Nat
def prS (s : Option Sg) : Nat := match s with
  | none => 0
  | some s => prm s.1 s.2.1
theorem prm_le (p q : Option Nat) : prm p q ≤ 2 := by unfold prm; split; omega; split <;> omega
theorem prS_le (s : Option Sg) : prS s ≤ 2 := by cases s with | none => exact Nat.zero_le _ | some s => exact prm_le _ _
def tks (sg : Int32 → Option Sg) (o : Nat) (x : Int32) : Nat := if o = 14 then 1 + prS (sg x) else tk0 o
theorem tks_le (sg : Int32 → Option Sg) (o : Nat) (x : Int32) : tks sg o x ≤ 3 := by
  unfold tks
  split
  · have := prS_le (sg x); omega
  · exact tk0_lt o
def anyC (p : Nat → Bool) : Nat → Nat → Bool
  | 0, _ => false
  | n + 1, i => p i || anyC p n (i + 1)
/-- FAULT 4: a place that isn't there -/
def f4r (o : Nat) (x : Int32) (sz pc : Nat) : Bool := (jmp o && outB x (nI sz)) || (fal o && decide (sz ≤ pc + 1))
def f4 (o : Nat) (x : Int32) (sz : Nat) (fr tt tg : Nat → Nat) (nc pc : Nat) : Bool := decide (sz ≤ pc) || (anyC (fun i => aro fr tt i pc && decide (sz ≤ tg i)) nc 0 || f4r o x sz pc)
/-- FAULT 5: a name that isn't there -/
def lt6 (x : Int32) : Bool := if x < 0 then false else if nI 6 ≤ x then false else true
def f5o (tb : Nat → Bool) (ow fi : Nat → Nat) (sg : Int32 → Option Sg) (o : Nat) (x : Int32) : Bool := match o with
  | 1 => !lt6 x
  | 2 => !lt6 x
  | 11 => !hasI tb x
  | 15 => !hasI tb x
  | 12 => !hasF tb ow fi (x / nI 32) (x - x / nI 32 * nI 32)
  | 13 => !hasF tb ow fi (x / nI 32) (x - x / nI 32 * nI 32)
  | 14 => (sg x).isNone
  | _ => false
def f5c (tb : Nat → Bool) (fr tt kd : Nat → Nat) (pc i : Nat) : Bool := aro fr tt i pc && (decide (kd i ≠ 6) && !hasI tb (nI (kd i)))
def f5 (tb : Nat → Bool) (ow fi : Nat → Nat) (sg : Int32 → Option Sg) (o : Nat) (x : Int32) (fr tt kd : Nat → Nat) (nc pc : Nat) : Bool := anyC (f5c tb fr tt kd pc) nc 0 || f5o tb ow fi sg o x
/-- FAULT 1: the STACK's height -/
def f1 (sg : Int32 → Option Sg) (o : Nat) (x : Int32) (h : Nat) : Bool := decide (h < tks sg o x) || decide (5 < h - tks sg o x + pts o)
/-- FAULT 2: TYPES; s j is the TYPE of the place j below the top, ld that of the LOCAL -/
def isI (t : Option Nat) : Bool := t == some 0
def isO (t : Option Nat) : Bool := match t with
  | none => false
  | some t => t == 2 || decide (10 ≤ t)
theorem isI_y {t : Option Nat} (ht : ob 16 t) (h : en t = 0) : isI t = true := by
  cases t with
  | none => exact absurd h (by decide)
  | some a => have ha := ht a rfl; have q : nI a = nI 0 := h; rw [nI_eq (by omega) (by omega)] at q; subst q; rfl
theorem isI_n {t : Option Nat} (ht : ob 16 t) (h : ¬ en t = 0) : isI t = false := by
  cases t with
  | none => rfl
  | some a =>
    have : a ≠ 0 := fun q => h (by rw [q]; rfl)
    simp [isI, this]
theorem ob_s {t n : Nat} (h : t < n) : ob n (some t) := fun a ha => by cases ha; exact h
def cfit (pr : Nat → Option Nat) (p q : Option Nat) (k : Nat) (s : Nat → Option Nat) : Bool := match p, q with
  | none, _ => part pr (s 0) (some (10 + k))
  | some _, none => part pr (s 0) p && part pr (s 1) (some (10 + k))
  | some _, some _ => part pr (s 1) p && (part pr (s 0) q && part pr (s 2) (some (10 + k)))
def xq (x : Int32) (n : Nat) : Nat := x.toNatClampNeg / n
def xr (x : Int32) (n : Nat) : Nat := x.toNatClampNeg % n
def tfi (pr : Nat → Option Nat) (fi ft : Nat → Nat) (sg : Int32 → Option Sg) (o : Nat) (x : Int32) (rs : Nat) (s : Nat → Option Nat) (ld : Option Nat) : Bool := match o with
  | 1 => ld.isSome
  | 3 => isI (s 1) && isI (s 0)
  | 4 => isI (s 1) && isI (s 0)
  | 5 => isI (s 1) && isI (s 0)
  | 6 => isI (s 1) && isI (s 0)
  | 9 => isI (s 1) && isI (s 0)
  | 8 => isI (s 0)
  | 19 => isI (s 0)
  | 12 => part pr (s 0) (some (10 + xq x 32))
  | 13 => part pr (s 1) (some (10 + xq x 32)) && part pr (s 0) (some (fty pr fi ft (xq x 32) (xr x 32)))
  | 14 => match sg x with
    | none => false
    | some g => cfit pr g.1 g.2.1 (xq x 4) s
  | 15 => isO (s 0)
  | 17 => isO (s 0)
  | 16 => !isI (s 0)
  | 18 => part pr (s 0) (some rs)
  | 20 => part pr (s 1) (some 1) && isI (s 0)
  | 21 => part pr (s 2) (some 1) && (isI (s 1) && isI (s 0))
  | 22 => part pr (s 0) (some 1)
  | 25 => !isI (s 1) && !isI (s 0)
  | _ => true
/-- the first FAULT of an INSTRUCTION on a row of TYPES (LOCALS, height, STACK) -/
def flt (tb : Nat → Bool) (pr : Nat → Option Nat) (ow fi ft : Nat → Nat) (sg : Int32 → Option Sg) (o : Nat) (x : Int32) (sz : Nat) (fr tt tg kd : Nat → Nat) (nc rs pc : Nat) (rw : Nat → Option Nat) (h : Nat) : Nat :=
  if f4 o x sz fr tt tg nc pc then 4 else if f5 tb ow fi sg o x fr tt kd nc pc then 5 else if f1 sg o x h then 1 else if tfi pr fi ft sg o x rs (fun j => rw (6 + h - j)) (rw (x.toNatClampNeg)) then 0 else 2
def CkAt (σ : jl_S) : Prop := σ[8]? = some (.inr (0, [.ref 1]))
/-- the METHODS that a CALL finds have these PARAMETERS and RESULTS -/
def SgC (σ : jl_S) (tb : Nat → Bool) (pr mt : Nat → Option Nat) (sg : Int32 → Option Sg) : Prop := ∀ x : Int32,
  (found tb pr mt (x / nI 4) (x - x / nI 4 * nI 4) = none → sg x = none) ∧
  ∀ a, found tb pr mt (x / nI 4) (x - x / nI 4 * nI 4) = some a → ∃ q1 q2 rs fs, σ[a]? = some (.inr (2, .int (en q1) :: .int (en q2) :: .int (nI rs) :: fs)) ∧ sg x = some (q1, q2, rs) ∧ ob 16 q1 ∧ ob 16 q2 ∧ rs < 16 ∧ (q1 = none → q2 = none)
section JQl
variable {l : Launch} {G : jl_G} {M : jl_M} {u : Nat × Nat} {pc : Nat} {ls : List (Option Value)} {st : List Value} {σ : jl_S} {o : jl_O} {σ' : jl_S}
theorem jr_ialdQ {a n i : Nat} {f : Nat → Int32} {v : Int32} (hd : decode M.2.1 pc = .ok (.iaload, 1)) (ha : σ[a]? = some (.inl (0, n, .inl f))) (hi : i < n) (hn : n < 2 ^ 31) (hv : f i = v) (k : jl_W l G M u (pc + 1) ls (.int v :: st) σ o σ') : jl_W l G M u pc ls (.int (nI i) :: .ref a :: st) σ o σ' := jr_ialdN hd ha hi hn (by rw [hv]; exact k)
theorem jr_baldQ {a n i : Nat} {f : Nat → Int32} {v : Int32} (hd : decode M.2.1 pc = .ok (.baload, 1)) (ha : σ[a]? = some (.inl (1, n, .inl f))) (hi : i < n) (hn : n < 2 ^ 31) (hv : f i = v) (k : jl_W l G M u (pc + 1) ls (.int v :: st) σ o σ') : jl_W l G M u pc ls (.int (nI i) :: .ref a :: st) σ o σ' := jr_baldN hd ha hi hn (by rw [hv]; exact k)
theorem jr_aaldQ {a n i : Nat} {f : Nat → Option Nat} {v : Option Nat} (hd : decode M.2.1 pc = .ok (.aaload, 1)) (ha : σ[a]? = some (.inl (3, n, .inr (.inr (.inr (.inr f)))))) (hi : i < n) (hn : n < 2 ^ 31) (hv : f i = v) (k : jl_W l G M u (pc + 1) ls (va_rf v :: st) σ o σ') : jl_W l G M u pc ls (.int (nI i) :: .ref a :: st) σ o σ' := jr_aaldN hd ha hi hn (by rw [hv]; exact k)
theorem jr_tkldN {i : Nat} (hd : decode M.2.1 pc = .ok (.iaload, 1)) (hi : i < 26) (k : jl_W l G M u (pc + 1) ls (.int (nI (tk0 i)) :: st) σ o σ') : jl_W l G M u pc ls (.int (nI i) :: .retAddr G.2.2.2.1 :: st) σ o σ' := jr_tkld hd (vp_in_nI hi (by decide)) (by rw [nI_clamp (by omega), tk_n hi]; exact k)
theorem jr_ptldN {i : Nat} (hd : decode M.2.1 pc = .ok (.iaload, 1)) (hi : i < 26) (k : jl_W l G M u (pc + 1) ls (.int (nI (pts i)) :: st) σ o σ') : jl_W l G M u pc ls (.int (nI i) :: .retAddr G.2.2.2.2.1 :: st) σ o σ' := jr_ptld hd (vp_in_nI hi (by decide)) (by rw [nI_clamp (by omega), pt_n hi]; exact k)
theorem jr_oeq {v w : Value} (h : v = w) (k : jl_W l G M u pc ls (w :: st) σ o σ') : jl_W l G M u pc ls (v :: st) σ o σ' := h ▸ k
end JQl
