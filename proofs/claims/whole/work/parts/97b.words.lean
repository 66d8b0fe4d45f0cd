/-! words of the machine: CATCHERS, one step, a run; the class's METHODS -/
def dop (d : MDt) : Nat → Nat := d.2.2.2.1
def dag (d : MDt) : Nat → Int32 := d.2.2.2.2.1
def dsz (d : MDt) : Nat := d.2.2.2.2.2.1
def dfr (d : MDt) : Nat → Nat := d.2.2.2.2.2.2.1
def dtt (d : MDt) : Nat → Nat := d.2.2.2.2.2.2.2.1
def dtg (d : MDt) : Nat → Nat := d.2.2.2.2.2.2.2.2.1
def dkd (d : MDt) : Nat → Nat := d.2.2.2.2.2.2.2.2.2.1
def dnc (d : MDt) : Nat := d.2.2.2.2.2.2.2.2.2.2
/-- a CATCHER for class k (6: all) takes TYPE y (none: a SIGNAL) -/
def cty (pr : Nat → Option Nat) (k : Nat) (y : Option Nat) : Bool := decide (k = 6) || (match y with
  | none => false
  | some a => decide (10 ≤ a) && ab pr k (some (a - 10)))
/-- the first of the CATCHERS i .. i + n - 1 around p that takes y -/
def cti (pr : Nat → Option Nat) (d : MDt) (p : Nat) (y : Option Nat) : Nat → Nat → Option Nat
  | 0, _ => none
  | n + 1, i => if aro (dfr d) (dtt d) i p && cty pr (dkd d i) y then some i else cti pr d p y n (i + 1)
def cgt (d : MDt) (f : Fm) (i : Nat) (y : Option Nat) (v : Int32) : Fm := if dkd d i = 6 then ⟨f.m, dtg d i, va_up f.R 6 (some 0), f.V⟩ else ⟨f.m, dtg d i, psh f.R 0 y, va_up f.V 7 v⟩
def rse (pr : Nat → Option Nat) (D : Nat → MDt) (y : Option Nat) (v : Int32) : List Fm → Option (List Fm)
  | [] => none
  | f :: fs => match cti pr (D f.m) f.p y (dnc (D f.m)) 0 with
    | some i => some (cgt (D f.m) f i y v :: fs)
    | none => rse pr D y v fs
/-- what a step leads to -/
abbrev Sr : Type := (List Fm × Hp) ⊕ (Nat × Nat × Option Int32 × Hp)
abbrev Sr.go (F : List Fm) (H : Hp) : Sr := .inl (F, H)
abbrev Sr.fin (how what : Nat) (an : Option Int32) (H : Hp) : Sr := .inr (how, what, an, H)
def sgn (pr : Nat → Option Nat) (D : Nat → MDt) (n : Nat) (F : List Fm) (H : Hp) : Sr := match rse pr D none (-1) F with
  | some F' => .go F' H
  | none => .fin n 0 none H
def jtk (o : Nat) (R : Rw) (V : Nat → Int32) (b : Nat) : Bool := match o with
  | 7 => true
  | 8 => decide (V (7 + b) = 0)
  | 9 => decide (V (7 + b) < V (8 + b))
  | 16 => decide (R (7 + b) = some 2)
  | _ => false
/-- the row of a METHOD that is called with n PARAMETERS -/
def cwR (R : Rw) (b n : Nat) : Rw := fun j => if j = 6 then some 0 else if j < 6 ∧ j ≤ n then R (7 + b + j) else none
def cwW (V : Nat → Int32) (b n : Nat) : Nat → Int32 := fun j => if j < 6 ∧ j ≤ n then V (7 + b + j) else -1
def stp (pr : Nat → Option Nat) (ow fi ft : Nat → Nat) (sg : Int32 → Option Sg) (hs : Nat → Bool) (D : Nat → MDt) (f : Fm) (fs : List Fm) (H : Hp) : Sr :=
  let o := dop (D f.m) f.p
  let x := dag (D f.m) f.p
  let b := hgt f.R - tks sg o x
  if jmp o = true then .go (⟨f.m, if jtk o f.R f.V b then x.toNatClampNeg else f.p + 1, va_up f.R 6 (some b), f.V⟩ :: fs) H
  else if o = 14 then (match f.R (7 + b) with
    | none => .fin 6 0 none H
    | some y => if y = 2 then sgn pr D 2 (f :: fs) H else if 11 ≤ fs.length then .fin 6 0 none H else (match mmo pr hs (xr x 4) 6 (some (y - 10)) with
      | none => .fin 6 0 none H
      | some m => .go (⟨m, 0, cwR f.R b (prS (sg x)), cwW f.V b (prS (sg x))⟩ :: ⟨f.m, f.p, va_up f.R 6 (some b), f.V⟩ :: fs) H))
  else if o = 17 then (if f.R (7 + b) = some 2 then sgn pr D 2 (f :: fs) H else (match rse pr D (f.R (7 + b)) (f.V (7 + b)) (f :: fs) with
    | some F' => .go F' H
    | none => .fin 7 ((f.R (7 + b)).getD 10 - 10) none H))
  else if o = 18 then (match fs with
    | [] => .fin 0 0 (some (f.V (7 + b))) H
    | g :: gs => .go (⟨g.m, g.p + 1, psh g.R (hgt g.R) (f.R (7 + b)), va_up g.V (7 + hgt g.R) (f.V (7 + b))⟩ :: gs) H)
  else (match ins pr ow fi ft o x f.R f.V b H with
    | .inl (R', V', H') => .go (⟨f.m, f.p + 1, R', V'⟩ :: fs) H'
    | .inr (some n) => sgn pr D n (f :: fs) H
    | .inr none => .fin 6 0 none H)
/-- the class's world and METHODS -/
def WX (σ : jl_S) (tb : Nat → Bool) (pr : Nat → Option Nat) (ow fi ft : Nat → Nat) (mt : Nat → Option Nat) (sg : Int32 → Option Sg) (D : Nat → MDt) (MP : Nat → Nat → Int32) (FH : Nat → Nat → Bool) : Prop :=
  WoAt σ tb pr ow fi ft mt ∧ CkAt σ ∧ SgC σ tb pr mt sg ∧ ∀ m a, mt m = some a → MeD σ a (D m) (MP m) (FH m)
section WWx
variable {σ σ' : jl_S} {tb : Nat → Bool} {pr : Nat → Option Nat} {ow fi ft : Nat → Nat} {mt : Nat → Option Nat} {sg : Int32 → Option Sg} {D : Nat → MDt} {MP : Nat → Nat → Int32} {FH : Nat → Nat → Bool}
theorem WX.fr (h : WX σ tb pr ow fi ft mt sg D MP FH) (hf : FrK σ σ') (hmt : MtOk mt) : WX σ' tb pr ow fi ft mt sg D MP FH := by
  obtain ⟨⟨w1, w2, w3, w4, w5, w6, w7⟩, h2, h3, h4⟩ := h
  have f : ∀ {i : Nat} {c : jl_C}, (i < 13 ∨ 21 < i) → σ[i]? = some c → σ'[i]? = some c := fun hi e => (hf.2 _ hi).trans e
  refine ⟨⟨f (by omega) w1, f (by omega) w2, f (by omega) w3, f (by omega) w4, f (by omega) w5, f (by omega) w6, f (by omega) w7⟩, f (by omega) h2, fun x => ⟨(h3 x).1, fun a ha => ?_⟩, fun m a ha => ?_⟩
  · obtain ⟨q1, q2, rs, z, e1, e2⟩ := (h3 x).2 a ha
    obtain ⟨j, hj⟩ := found_mt ha
    have := (hmt j a hj).1
    exact ⟨q1, q2, rs, z, f (by omega) e1, e2⟩
  · obtain ⟨hM, g1, g2, g3, g4, g5, g6, g7, g8⟩ := h4 m a ha
    have := (hmt m a ha).1
    exact ⟨f (by omega) hM, f (by omega) g1, f (by omega) g2, f (by omega) g3, f (by omega) g4, f (by omega) g5, f (by omega) g6, f (by omega) g7, f (by omega) g8⟩
end WWx
section WTf
variable {l : Launch} {G : jl_G} {σ : jl_S} {tb : Nat → Bool} {pr : Nat → Option Nat} {ow fi ft : Nat → Nat} {mt : Nat → Option Nat} {ss : Nat → Nat} {sy : Nat → Option Nat} {sv : Nat → Int32} {sm : Nat}
theorem bi_t1 : bi true = nI 1 := by decide +kernel
theorem bi_f0 : bi false = nI 0 := by decide +kernel
theorem ne10 {k c : Nat} (hk : k < 6) (hc : c < 10) : ¬ nI (10 + k) = nI c := fun e => by rw [nI_eq (by omega) (by omega)] at e; omega
theorem st_fullT (hl : l.stackTraces = false) (hS : StAt σ ss sy sv sm) (hm : sm ≤ 40) (h : 40 ≤ sm) : jl_m l G m_St_isFull [.ref 14] σ (.inl (some (.int (nI 1)))) σ := by
  have z := st_full (G := G) hl hS hm
  rw [decide_eq_true h, bi_t1] at z
  exact z
theorem st_fullF (hl : l.stackTraces = false) (hS : StAt σ ss sy sv sm) (h : sm < 40) : jl_m l G m_St_isFull [.ref 14] σ (.inl (some (.int (nI 0)))) σ := by
  have z := st_full (G := G) hl hS (Nat.le_of_lt h)
  rw [decide_eq_false (by omega), bi_f0] at z
  exact z
theorem wo_partT (hl : l.stackTraces = false) {x y : Option Nat} (hw : WoAt σ tb pr ow fi ft mt) (hok : ∀ j, ob 6 (pr j)) (hx : ob 16 x) (hy : ob 16 y) (h : part pr x y = true) : jl_m l G m_Wo_isPart [.ref 1, .int (en x), .int (en y)] σ (.inl (some (.int (nI 1)))) σ := by
  have z := wo_part (G := G) hl hw hok hx hy
  rw [h, bi_t1] at z
  exact z
theorem wo_partF (hl : l.stackTraces = false) {x y : Option Nat} (hw : WoAt σ tb pr ow fi ft mt) (hok : ∀ j, ob 6 (pr j)) (hx : ob 16 x) (hy : ob 16 y) (h : ¬ part pr x y = true) : jl_m l G m_Wo_isPart [.ref 1, .int (en x), .int (en y)] σ (.inl (some (.int (nI 0)))) σ := by
  have z := wo_part (G := G) hl hw hok hx hy
  rw [Bool.eq_false_iff.mpr h, bi_f0] at z
  exact z
theorem wo_foundE (hl : l.stackTraces = false) {k sl : Int32} {a : Nat} (hw : WoAt σ tb pr ow fi ft mt) (hok : ∀ j, ob 6 (pr j)) (h : found tb pr mt k sl = some a) : jl_m l G m_Wo_found [.ref 1, .int k, .int sl] σ (.inl (some (.ref a))) σ := by
  have z := wo_found (G := G) hl hw hok (k := k) (sl := sl)
  rw [h] at z
  exact z
theorem st_hasT (hl : l.stackTraces = false) {n i : Int32} (hS : StAt σ ss sy sv sm) (hm : sm ≤ 40) (h : stH ss sm n i = true) : jl_m l G m_St_has [.ref 14, .int n, .int i] σ (.inl (some (.int (nI 1)))) σ := by
  have z := st_has (G := G) hl hS hm (n := n) (i := i)
  rw [h, bi_t1] at z
  exact z
theorem st_hasF (hl : l.stackTraces = false) {n i : Int32} (hS : StAt σ ss sy sv sm) (hm : sm ≤ 40) (h : stH ss sm n i = false) : jl_m l G m_St_has [.ref 14, .int n, .int i] σ (.inl (some (.int (nI 0)))) σ := by
  have z := st_has (G := G) hl hS hm (n := n) (i := i)
  rw [h, bi_f0] at z
  exact z
end WTf
