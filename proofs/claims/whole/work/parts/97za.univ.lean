/-! all that a run of calls knows; what each call does to it -/
abbrev Un : Type := (Nat → Bool) × (Nat → Option Nat) × (Nat → Nat) × (Nat → Nat) × (Nat → Nat) × (Nat → Bool) × (Nat → MDt) × (Nat → Nat → Option Rw) × (Bool) × (Int32) × (Int32) × (Int32) × (Int32) × (Int32) × (Hp)
abbrev Un.tb (U : Un) : Nat → Bool := U.1
abbrev Un.pr (U : Un) : Nat → Option Nat := U.2.1
abbrev Un.ow (U : Un) : Nat → Nat := U.2.2.1
abbrev Un.fi (U : Un) : Nat → Nat := U.2.2.2.1
abbrev Un.ft (U : Un) : Nat → Nat := U.2.2.2.2.1
abbrev Un.hs (U : Un) : Nat → Bool := U.2.2.2.2.2.1
abbrev Un.D (U : Un) : Nat → MDt := U.2.2.2.2.2.2.1
abbrev Un.A (U : Un) : Nat → Nat → Option Rw := U.2.2.2.2.2.2.2.1
abbrev Un.vf (U : Un) : Bool := U.2.2.2.2.2.2.2.2.1
abbrev Un.wr (U : Un) : Int32 := U.2.2.2.2.2.2.2.2.2.1
abbrev Un.wz (U : Un) : Int32 := U.2.2.2.2.2.2.2.2.2.2.1
abbrev Un.su (U : Un) : Int32 := U.2.2.2.2.2.2.2.2.2.2.2.1
abbrev Un.dt (U : Un) : Int32 := U.2.2.2.2.2.2.2.2.2.2.2.2.1
abbrev Un.dn (U : Un) : Int32 := U.2.2.2.2.2.2.2.2.2.2.2.2.2.1
abbrev Un.H (U : Un) : Hp := U.2.2.2.2.2.2.2.2.2.2.2.2.2.2
def mkU (tb : Nat → Bool) (pr : Nat → Option Nat) (ow fi ft : Nat → Nat) (hs : Nat → Bool) (D : Nat → MDt) (A : Nat → Nat → Option Rw) (vf : Bool) (wr wz su dt dn : Int32) (H : Hp) : Un := (tb, pr, ow, fi, ft, hs, D, A, vf, wr, wz, su, dt, dn, H)
def sgU (U : Un) : Int32 → Option Sg := fun x => if x < 0 then none else sgm U.tb U.pr U.hs (fun m => (U.D m).1) (fun m => (U.D m).2.1) (fun m => (U.D m).2.2.1) x.toNatClampNeg
def VRu (U : Un) (m : Nat) : Option (Nat × Nat) × MF := VRm U.tb U.pr U.ow U.fi U.ft (sgU U) (U.D m) (m / 4)
def HS (H : Hp) : Prop := H.n ≤ 40 ∧ (∀ j, ob 16 (H.ty j)) ∧ ∀ j, H.sz j ≤ 18
def UI (U : Un) : Prop := WoOk U.tb U.pr U.ow U.fi ∧ (∀ j, tyv (some (U.ft j))) ∧ (∀ m, U.hs m = true → m < 24 ∧ U.tb (m / 4) = true) ∧ (∀ m, U.hs m = true → MdOk (U.D m)) ∧ SgE U.pr U.hs U.D ∧ (U.vf = true → ∀ m, U.hs m = true → (VRu U m).1 = none) ∧ (∀ m, AV (U.A m)) ∧ (∀ m, U.hs m = false → U.A m = fun _ => none) ∧ HS U.H
def uDefine (U : Un) (k : Nat) (b : Option Nat) : Un := mkU (va_up U.tb k true) (va_up U.pr k b) U.ow (va_up U.fi k (fcO U.fi U.ow b)) U.ft U.hs U.D U.A (false) U.wr U.wz U.su U.dt U.dn U.H
def uField (U : Un) (k t : Nat) : Un := mkU U.tb U.pr (va_up U.ow k (U.ow k + 1)) U.fi (va_up U.ft (k * 3 + U.ow k) t) U.hs U.D U.A (false) U.wr U.wz U.su U.dt U.dn U.H
def d0 (p q : Option Nat) (r : Nat) : MDt := (p, q, r, fun _ => 0, fun _ => 0, 0, fun _ => 0, fun _ => 0, fun _ => 0, fun _ => 0, 0)
def uMethod (U : Un) (m : Nat) (p q : Option Nat) (r : Nat) : Un := mkU U.tb U.pr U.ow U.fi U.ft (va_up U.hs m true) (va_up U.D m (d0 p q r)) U.A (false) U.wr U.wz U.su U.dt U.dn U.H
def dCode (d : MDt) (o : Nat) (x : Int32) : MDt := (d.1, d.2.1, d.2.2.1, va_up (dop d) (dsz d) o, va_up (dag d) (dsz d) x, dsz d + 1, dfr d, dtt d, dtg d, dkd d, dnc d)
def uCode (U : Un) (m o : Nat) (x : Int32) : Un := mkU U.tb U.pr U.ow U.fi U.ft U.hs (va_up U.D m (dCode (U.D m) o x)) U.A (false) U.wr U.wz U.su U.dt U.dn U.H
def dCat (d : MDt) (sp tr ki : Nat) : MDt := (d.1, d.2.1, d.2.2.1, dop d, dag d, dsz d, va_up (dfr d) (dnc d) (sp / 32), va_up (dtt d) (dnc d) (sp % 32), va_up (dtg d) (dnc d) tr, va_up (dkd d) (dnc d) ki, dnc d + 1)
def uCat (U : Un) (m sp tr ki : Nat) : Un := mkU U.tb U.pr U.ow U.fi U.ft U.hs (va_up U.D m (dCat (U.D m) sp tr ki)) U.A (false) U.wr U.wz U.su U.dt U.dn U.H
/-- METHODS that a new one in slot sl of class k must be like, and isn't -/
def clU (U : Un) (k sl : Nat) (p q : Option Nat) (r : Nat) : Bool := anyC (fun i => U.hs (4 * i + sl) && (ab U.pr i (some k) || ab U.pr k (some i)) && !(decide ((U.D (4 * i + sl)).1 = p) && decide ((U.D (4 * i + sl)).2.1 = q) && decide ((U.D (4 * i + sl)).2.2.1 = r))) 6 0
/-- the first FAULT that VERIFYING meets -/
def vfst (U : Un) : Nat → Nat → Option (Nat × Nat × Nat)
  | 0, _ => none
  | n + 1, m => if U.hs m = true then (match (VRu U m).1 with | some z => some (m, z.1, z.2) | none => vfst U n (m + 1)) else vfst U n (m + 1)
def uVer (U : Un) : Un := match vfst U 24 0 with
  | none => mkU U.tb U.pr U.ow U.fi U.ft U.hs U.D (fun m => if U.hs m = true then (VRu U m).2.1 else fun _ => none) (true) (-1) (-1) U.su U.dt U.dn U.H
  | some (m, pc, f) => mkU U.tb U.pr U.ow U.fi U.ft U.hs U.D (fun q => if q ≤ m ∧ U.hs q = true then (VRu U q).2.1 else fun _ => none) (false) (nI (1000 * (m / 4) + 100 * (m % 4) + pc)) (nI f) U.su U.dt U.dn U.H
def rnU (U : Un) (k m : Nat) (a b : Int32) (fuel : Nat) (gd : Bool) : Nat × Nat × Nat × Option Int32 × Hp := mrn U.tb U.pr U.ow U.fi U.ft (sgU U) U.hs U.D gd fuel ⟨m, 0, bgR k (U.D m).1 (U.D m).2.1, bgV (U.D m).1 (U.D m).2.1 a b⟩ [] (mkO U.pr U.ow U.fi U.ft ⟨0, U.H.sz, U.H.ty, U.H.va, U.H.so⟩ k) 0
def uRun (U : Un) (z : Nat × Nat × Nat × Option Int32 × Hp) : Un := mkU U.tb U.pr U.ow U.fi U.ft U.hs U.D U.A U.vf U.wr U.wz (nI z.1) (nI z.2.1) (nI z.2.2.1) (z.2.2.2.2)
section WUn
variable {U : Un} {k m sl : Nat} {b p q : Option Nat} {r : Nat}
theorem UI.ft (h : UI U) : ∀ k f, tyv (some (fty U.pr U.fi U.ft k f)) := fun k f => h.2.1 _
theorem sgU_M : SgM U.tb U.pr U.hs (fun m => (U.D m).1) (fun m => (U.D m).2.1) (fun m => (U.D m).2.2.1) (sgU U) := by
  refine ⟨fun x hx => ?_, fun n hn => ?_⟩
  · unfold sgU; rw [if_pos hx]
  · unfold sgU; rw [if_neg (nI_pos hn), nI_clamp hn]
theorem UI.sgv (h : UI U) : ∀ x g, sgU U x = some g → tyv (some g.2.2) := fun x g hg => by
  obtain ⟨n, m0, hn, ex, hn6, htb, hm0, eg⟩ := sgU_M.of hg
  obtain ⟨c0, _, hc06, em0, hhs0⟩ := mmo_of h.1 6 _ hn6 hn6 hm0
  rw [eg]
  exact (h.2.2.2.1 m0 hhs0).2.2.1
theorem Anc_def (hok : WoOk U.tb U.pr U.ow U.fi) (hk : U.tb k = false) {c j : Nat} (a : Anc (va_up U.pr k b) c j) : j < 6 → j ≠ k → Anc U.pr c j := by
  refine Anc.ind (mo := fun j => j < 6 → j ≠ k → Anc U.pr c j) (fun _ _ => .refl) (fun j p e _ ih hj hjk => ?_) a
  rw [va_up_ne _ _ hjk] at e
  obtain ⟨h1, _, h3⟩ := hok.2.2.2.1 _ hj _ e
  exact .step e (ih (by omega) (fun z => by rw [z, hk] at h3; cases h3))
theorem UI.define (h : UI U) (hk : k < 6) (hb : ob 6 b) (hd : dfOk U.tb k b = true) : UI (uDefine U k b) := by
  obtain ⟨hok, h2, h3, h4, h5, h6, h7, h8, h9⟩ := h
  unfold dfOk at hd
  rw [Bool.and_eq_true] at hd
  have htk : U.tb k = false := by simpa using hd.1
  have hbk : ∀ p, b = some p → p < k ∧ U.tb p = true := fun p e => by subst e; simpa using hd.2
  have hnot : ∀ j, j < 6 → ∀ p, U.pr j = some p → p ≠ k := fun j hj p e z => by
    have := (hok.2.2.2.1 j hj p e).2.2
    rw [z, htk] at this; cases this
  have hfc : fcO U.fi U.ow b ≤ 18 := by
    cases b with
    | none => exact Nat.zero_le _
    | some p => exact fc18 hok (hb p rfl)
  refine ⟨⟨fun j => ?_, hok.2.1, fun j hj => ?_, fun j hj p e => ?_, fun j hj e => ?_, fun j hj e => ?_⟩, h2, fun m hm => ⟨(h3 m hm).1, ?_⟩, h4, fun c j sl hc hj hsl ha hc1 hj1 => ?_, fun z => (by cases z), h7, h8, h9⟩
  · show ob 6 (va_up U.pr k b j)
    by_cases z : j = k
    · rw [z, va_up_self]; exact hb
    · rw [va_up_ne _ _ z]; exact hok.1 j
  · show va_up U.fi k _ j ≤ 18
    by_cases z : j = k
    · rw [z, va_up_self]; exact hfc
    · rw [va_up_ne _ _ z]; exact hok.2.2.1 j hj
  · replace e : va_up U.pr k b j = some p := e
    show p < j ∧ va_up U.fi k (fcO U.fi U.ow b) j = va_up U.fi k (fcO U.fi U.ow b) p + U.ow p ∧ va_up U.tb k true p = true
    by_cases z : j = k
    · rw [z, va_up_self] at e
      obtain ⟨a1, a2⟩ := hbk p e
      rw [z, va_up_self, va_up_ne _ _ (by omega), va_up_ne _ _ (by omega), e]
      exact ⟨a1, rfl, a2⟩
    · rw [va_up_ne _ _ z] at e
      have hpk := hnot j hj p e
      obtain ⟨a1, a2, a3⟩ := hok.2.2.2.1 j hj p e
      rw [va_up_ne _ _ z, va_up_ne _ _ hpk, va_up_ne _ _ hpk]
      exact ⟨a1, a2, a3⟩
  · replace e : va_up U.pr k b j = none := e
    show va_up U.fi k (fcO U.fi U.ow b) j = 0
    by_cases z : j = k
    · rw [z, va_up_self] at e
      rw [z, va_up_self, e]; rfl
    · rw [va_up_ne _ _ z] at e
      rw [va_up_ne _ _ z]; exact hok.2.2.2.2.1 j hj e
  · replace e : va_up U.tb k true j = false := e
    show U.ow j = 0 ∧ va_up U.pr k b j = none
    by_cases z : j = k
    · rw [z, va_up_self] at e; cases e
    · rw [va_up_ne _ _ z] at e ⊢; exact hok.2.2.2.2.2 j hj e
  · show va_up U.tb k true (m / 4) = true
    by_cases z : m / 4 = k
    · rw [z, va_up_self]
    · rw [va_up_ne _ _ z]; exact (h3 m hm).2
  · have hjk : j ≠ k := fun z => by
      have := (h3 _ hj1).2
      rw [show (4 * j + sl) / 4 = j by omega, z, htk] at this; cases this
    exact h5 c j sl hc hj hsl (Anc_def hok htk ha hj hjk) hc1 hj1
theorem UI.field (h : UI U) {t : Nat} (hk : k < 6) (ht : tyv (some t)) (htb : U.tb k = true) (hf : flOk U.pr U.ow k = true) (hns : ∀ j, j < 6 → U.pr j ≠ some k) : UI (uField U k t) := by
  obtain ⟨hok, h2, h3, h4, h5, h6, h7, h8, h9⟩ := h
  unfold flOk at hf
  rw [Bool.and_eq_true, decide_eq_true_eq] at hf
  refine ⟨⟨hok.1, fun j hj => ?_, hok.2.2.1, fun j hj p e => ?_, hok.2.2.2.2.1, fun j hj e => ?_⟩, fun j => ?_, h3, h4, h5, fun z => (by cases z), h7, h8, h9⟩
  · show va_up U.ow k (U.ow k + 1) j ≤ 3
    by_cases z : j = k
    · rw [z, va_up_self]; omega
    · rw [va_up_ne _ _ z]; exact hok.2.1 j hj
  · show p < j ∧ U.fi j = U.fi p + va_up U.ow k (U.ow k + 1) p ∧ U.tb p = true
    rw [va_up_ne _ _ (fun z => hns j hj (by rw [← z]; exact e))]
    exact hok.2.2.2.1 j hj p e
  · show va_up U.ow k (U.ow k + 1) j = 0 ∧ U.pr j = none
    rw [va_up_ne _ _ (fun z => by rw [z] at e; rw [show U.tb k = false from e] at htb; cases htb)]
    exact hok.2.2.2.2.2 j hj e
  · show tyv (some (va_up U.ft (k * 3 + U.ow k) t j))
    by_cases z : j = k * 3 + U.ow k
    · rw [z, va_up_self]; exact ht
    · rw [va_up_ne _ _ z]; exact h2 j
theorem UI.method (h : UI U) (hk : k < 6) (hsl : sl < 4) (htb : U.tb k = true) (hn : U.hs (4 * k + sl) = false) (hp : tyv p) (hq : tyv q) (hr : tyv (some r)) (hpq : p = none → q = none) (hc : clU U k sl p q r = false) : UI (uMethod U (4 * k + sl) p q r) := by
  obtain ⟨hok, h2, h3, h4, h5, h6, h7, h8, h9⟩ := h
  have hcl : ∀ i, i < 6 → U.hs (4 * i + sl) = true → (ab U.pr i (some k) = true ∨ ab U.pr k (some i) = true) → (U.D (4 * i + sl)).1 = p ∧ (U.D (4 * i + sl)).2.1 = q ∧ (U.D (4 * i + sl)).2.2.1 = r := by
    intro i hi h1 h2
    have z := (anyC_f 6 0).mp hc i (Nat.zero_le _) (by omega)
    rw [h1, Bool.true_and] at z
    have : (ab U.pr i (some k) || ab U.pr k (some i)) = true := by rw [Bool.or_eq_true]; exact h2
    rw [this, Bool.true_and] at z
    simpa [and_assoc] using z
  refine ⟨hok, h2, fun m hm => ?_, fun m hm => ?_, fun c j s hc6 hj6 hs4 ha hc1 hj1 => ?_, fun z => (by cases z), h7, fun m hm => ?_, h9⟩
  · replace hm : va_up U.hs (4 * k + sl) true m = true := hm
    by_cases z : m = 4 * k + sl
    · rw [z, show (4 * k + sl) / 4 = k by omega]; exact ⟨by omega, htb⟩
    · rw [va_up_ne _ _ z] at hm; exact h3 m hm
  · replace hm : va_up U.hs (4 * k + sl) true m = true := hm
    show MdOk (va_up U.D (4 * k + sl) (d0 p q r) m)
    by_cases z : m = 4 * k + sl
    · rw [z, va_up_self]
      exact ⟨hp, hq, hr, fun _ _ => (by decide : 0 < 26), Nat.zero_le _, Nat.zero_le _, fun _ _ => ⟨(by decide : 0 < 100), (by decide : 0 < 100), (by decide : 0 < 24), (by decide : 0 < 7)⟩, hpq⟩
    · rw [va_up_ne _ _ z] at hm ⊢; exact h4 m hm
  · replace hc1 : va_up U.hs (4 * k + sl) true (4 * c + s) = true := hc1
    replace hj1 : va_up U.hs (4 * k + sl) true (4 * j + s) = true := hj1
    show (va_up U.D (4 * k + sl) (d0 p q r) (4 * c + s)).1 = (va_up U.D (4 * k + sl) (d0 p q r) (4 * j + s)).1 ∧ (va_up U.D (4 * k + sl) (d0 p q r) (4 * c + s)).2.1 = (va_up U.D (4 * k + sl) (d0 p q r) (4 * j + s)).2.1 ∧ (va_up U.D (4 * k + sl) (d0 p q r) (4 * c + s)).2.2.1 = (va_up U.D (4 * k + sl) (d0 p q r) (4 * j + s)).2.2.1
    by_cases z1 : 4 * c + s = 4 * k + sl
    · by_cases z2 : 4 * j + s = 4 * k + sl
      · rw [z1, z2]; exact ⟨rfl, rfl, rfl⟩
      · rw [va_up_ne _ _ z2] at hj1
        have e1 : c = k := by omega
        have e2 : s = sl := by omega
        subst e1 e2
        obtain ⟨a1, a2, a3⟩ := hcl j hj6 hj1 (Or.inr ((anc_ab hok hj6).mpr ha))
        rw [va_up_self, va_up_ne _ _ z2]
        exact ⟨a1.symm, a2.symm, a3.symm⟩
    · rw [va_up_ne _ _ z1] at hc1
      by_cases z2 : 4 * j + s = 4 * k + sl
      · have e1 : j = k := by omega
        have e2 : s = sl := by omega
        subst e1 e2
        rw [va_up_self, va_up_ne _ _ z1]
        exact hcl c hc6 hc1 (Or.inl ((anc_ab hok hj6).mpr ha))
      · rw [va_up_ne _ _ z2] at hj1
        rw [va_up_ne _ _ z1, va_up_ne _ _ z2]
        exact h5 c j s hc6 hj6 hs4 ha hc1 hj1
  · replace hm : va_up U.hs (4 * k + sl) true m = false := hm
    by_cases z : m = 4 * k + sl
    · rw [z, va_up_self] at hm; cases hm
    · rw [va_up_ne _ _ z] at hm; exact h8 m hm
/-- a METHOD gets more INSTRUCTIONS or CATCHERS -/
theorem UI.data (h : UI U) {d : MDt} (hd : MdOk d) (e1 : d.1 = (U.D m).1) (e2 : d.2.1 = (U.D m).2.1) (e3 : d.2.2.1 = (U.D m).2.2.1) : UI (mkU U.tb U.pr U.ow U.fi U.ft U.hs (va_up U.D m d) U.A (false) U.wr U.wz U.su U.dt U.dn U.H) := by
  obtain ⟨hok, h2, h3, h4, h5, h6, h7, h8, h9⟩ := h
  have hs : ∀ j, (va_up U.D m d j).1 = (U.D j).1 ∧ (va_up U.D m d j).2.1 = (U.D j).2.1 ∧ (va_up U.D m d j).2.2.1 = (U.D j).2.2.1 := by
    intro j
    by_cases z : j = m
    · rw [z, va_up_self]; exact ⟨e1, e2, e3⟩
    · rw [va_up_ne _ _ z]; exact ⟨rfl, rfl, rfl⟩
  refine ⟨hok, h2, h3, fun j hj => ?_, fun c j s hc6 hj6 hs4 ha hc1 hj1 => ?_, fun z => (by cases z), h7, h8, h9⟩
  · show MdOk (va_up U.D m d j)
    by_cases z : j = m
    · rw [z, va_up_self]; exact hd
    · rw [va_up_ne _ _ z]; exact h4 j hj
  · have z := h5 c j s hc6 hj6 hs4 ha hc1 hj1
    have a := hs (4 * c + s)
    have b := hs (4 * j + s)
    show (va_up U.D m d (4 * c + s)).1 = (va_up U.D m d (4 * j + s)).1 ∧ (va_up U.D m d (4 * c + s)).2.1 = (va_up U.D m d (4 * j + s)).2.1 ∧ (va_up U.D m d (4 * c + s)).2.2.1 = (va_up U.D m d (4 * j + s)).2.2.1
    rw [a.1, a.2.1, a.2.2, b.1, b.2.1, b.2.2]
    exact z
theorem UI.code (h : UI U) {o : Nat} {x : Int32} (hm : U.hs m = true) (ho : o < 26) (hs : dsz (U.D m) < 24) : UI (uCode U m o x) := by
  obtain ⟨a, b, c, d, e, f, g, i⟩ := h.2.2.2.1 m hm
  refine h.data ⟨a, b, c, fun j hj => ?_, hs, f, g, i⟩ rfl rfl rfl
  show va_up (dop (U.D m)) (dsz (U.D m)) o j < 26
  by_cases z : j = dsz (U.D m)
  · rw [z, va_up_self]; exact ho
  · rw [va_up_ne _ _ z]; exact d j hj
theorem UI.cat (h : UI U) {sp tr ki : Nat} (hm : U.hs m = true) (hp : sp < 1024) (ht : tr < 24) (hi : ki < 7) (hs : dnc (U.D m) < 2) : UI (uCat U m sp tr ki) := by
  obtain ⟨a, b, c, d, e, f, g, i⟩ := h.2.2.2.1 m hm
  refine h.data ⟨a, b, c, d, e, hs, fun j hj => ?_, i⟩ rfl rfl rfl
  show va_up (dfr (U.D m)) (dnc (U.D m)) (sp / 32) j < 100 ∧ va_up (dtt (U.D m)) (dnc (U.D m)) (sp % 32) j < 100 ∧ va_up (dtg (U.D m)) (dnc (U.D m)) tr j < 24 ∧ va_up (dkd (U.D m)) (dnc (U.D m)) ki j < 7
  by_cases z : j = dnc (U.D m)
  · rw [z, va_up_self, va_up_self, va_up_self, va_up_self]; exact ⟨by omega, by omega, ht, hi⟩
  · rw [va_up_ne _ _ z, va_up_ne _ _ z, va_up_ne _ _ z, va_up_ne _ _ z]; exact g j hj
theorem vfst_none : ∀ n m, vfst U n m = none → ∀ j, m ≤ j → j < m + n → U.hs j = true → (VRu U j).1 = none := by
  intro n
  induction n with
  | zero => intro m _ j h1 h2; omega
  | succ n ih =>
    intro m e j h1 h2 hj
    rw [vfst] at e
    by_cases z : j = m
    · subst z
      rw [if_pos hj] at e
      cases hv : (VRu U j).1 with
      | none => rfl
      | some w => rw [hv] at e; cases e
    · by_cases hm : U.hs m = true
      · rw [if_pos hm] at e
        cases hv : (VRu U m).1 with
        | none => rw [hv] at e; exact ih _ e j (by omega) (by omega) hj
        | some w => rw [hv] at e; cases e
      · rw [if_neg hm] at e; exact ih _ e j (by omega) (by omega) hj
theorem vfst_at : ∀ n m i, m ≤ i → i < m + n → U.hs i = true → (∀ j, m ≤ j → j < i → U.hs j = true → (VRu U j).1 = none) → ∀ pc f, (VRu U i).1 = some (pc, f) → vfst U n m = some (i, pc, f) := by
  intro n
  induction n with
  | zero => intro m i h1 h2; omega
  | succ n ih =>
    intro m i h1 h2 hi hb pc f e
    rw [vfst]
    by_cases z : i = m
    · subst z; rw [if_pos hi, e]
    · by_cases hm : U.hs m = true
      · rw [if_pos hm, hb m (Nat.le_refl _) (by omega) hm]
        exact ih _ i (by omega) (by omega) hi (fun j h3 => hb j (by omega)) pc f e
      · rw [if_neg hm]
        exact ih _ i (by omega) (by omega) hi (fun j h3 => hb j (by omega)) pc f e
theorem vfst_no : ∀ n m, (∀ j, m ≤ j → j < m + n → U.hs j = true → (VRu U j).1 = none) → vfst U n m = none := by
  intro n
  induction n with
  | zero => intro m _; rfl
  | succ n ih =>
    intro m h
    rw [vfst]
    by_cases hm : U.hs m = true
    · rw [if_pos hm, h m (Nat.le_refl _) (by omega) hm]
      exact ih _ (fun j h1 h2 => h j (by omega) (by omega))
    · rw [if_neg hm]
      exact ih _ (fun j h1 h2 => h j (by omega) (by omega))
/-- of the rest of what is known a run of calls keeps what VERIFYING and runs don't touch -/
theorem UI.keep (h : UI U) {A : Nat → Nat → Option Rw} {vf : Bool} {wr wz su dt dn : Int32} {H : Hp} (h1 : vf = true → ∀ m, U.hs m = true → (VRu U m).1 = none) (h2 : ∀ m, AV (A m)) (h3 : ∀ m, U.hs m = false → A m = fun _ => none) (h4 : HS H) : UI (mkU U.tb U.pr U.ow U.fi U.ft U.hs U.D (A) (vf) (wr) (wz) (su) (dt) (dn) (H)) := by
  obtain ⟨hok, g2, g3, g4, g5, g6, g7, g8, g9⟩ := h
  exact ⟨hok, g2, g3, g4, g5, h1, h2, h3, h4⟩
theorem HI.hs {tb : Nat → Bool} {pr : Nat → Option Nat} {ow fi ft : Nat → Nat} {H : Hp} (h : HI tb pr ow fi ft H) : HS H := ⟨h.1, h.2.1, h.2.2.1⟩
theorem verA_SV {tb : Nat → Bool} {pr : Nat → Option Nat} {ow fi ft : Nat → Nat} {sg : Int32 → Option Sg} {op : Nat → Nat} {ag : Nat → Int32} {sz nc rs : Nat} {fr tt tg kd : Nat → Nat} (hok : WoOk tb pr ow fi) (hop : ∀ j, j < 24 → op j < 26) (hnc : nc ≤ 2) (hk : ∀ i, i < 2 → kd i < 7) (hft : ∀ k f, tyv (some (fty pr fi ft k f))) (hsg : ∀ x g, sg x = some g → tyv (some g.2.2)) : ∀ n (s : MF), SV s → SV (verA tb pr ow fi ft sg op ag sz fr tt tg kd nc rs n s).2 := by
  intro n
  induction n with
  | zero => intro s hs; exact hs
  | succ n ih =>
    intro s hs
    rw [verA]
    cases hl : lfr s.2 24 0 with
    | none => exact hs
    | some pc =>
      dsimp only
      obtain ⟨_, hp, hfl⟩ := lfr_of 24 0 pc hl
      obtain ⟨r, hr⟩ : ∃ r, s.1 pc = some r := Option.ne_none_iff_exists'.mp (hs.2 pc hfl)
      obtain ⟨h, hv⟩ := hs.1 pc r hr
      rw [hr]
      dsimp only
      rw [hO_r hv]
      have hw2 := lookA_w hok (hop pc (by omega)) hnc hk hft hsg hv (hs.off pc) (op := op) (ag := ag) (sz := sz) (fr := fr) (tt := tt) (tg := tg) (rs := rs)
      split
      · exact ih _ hw2.2
      · exact hw2.2
theorem UI.AVu (h : UI U) (hm : U.hs m = true) : AV (VRu U m).2.1 := by
  obtain ⟨d1, d2, d3, d4, d5, d6, d7, d8⟩ := h.2.2.2.1 m hm
  have hm24 := (h.2.2.1 m hm).1
  unfold VRu VRm vmA
  split
  · have hav : AV (va_up s00.1 0 (some (strt (m / 4) (U.D m).1 (U.D m).2.1))) := fun q r z => by
      by_cases e : q = 0
      · rw [e, va_up_self] at z; cases z; exact ⟨0, rv_strt (by omega) d1 d2⟩
      · rw [va_up_ne _ _ e] at z; cases z
    exact (verA_SV h.1 d4 d6 (fun i hi => (d7 i hi).2.2.2) h.ft h.sgv _ _ (SV.st hav (fun _ z => by cases z))).1
  · exact fun _ _ z => by cases z
theorem AV_none : AV (fun _ => none) := fun _ _ z => by cases z
theorem UI.ver (h : UI U) : UI (uVer U) := by
  unfold uVer
  cases e : vfst U 24 0 with
  | none =>
    refine h.keep (fun _ m hm => vfst_none 24 0 e m (Nat.zero_le _) (by have := (h.2.2.1 m hm).1; omega) hm) (fun m => ?_) (fun m hm => ?_) h.2.2.2.2.2.2.2.2
    · by_cases z : U.hs m = true
      · rw [if_pos z]; exact h.AVu z
      · rw [if_neg z]; exact AV_none
    · rw [if_neg (by rw [hm]; decide)]
  | some w =>
    obtain ⟨m0, pc, f⟩ := w
    refine h.keep (fun z => by cases z) (fun m => ?_) (fun m hm => ?_) h.2.2.2.2.2.2.2.2
    · by_cases z : m ≤ m0 ∧ U.hs m = true
      · rw [if_pos z]; exact h.AVu z.2
      · rw [if_neg z]; exact AV_none
    · rw [if_neg (fun z => by rw [hm] at z; cases z.2)]
theorem mrn_hs {tb : Nat → Bool} {pr : Nat → Option Nat} {ow fi ft : Nat → Nat} {hs : Nat → Bool} {sg : Int32 → Option Sg} {D : Nat → MDt} {W : Nat → Nat → Option Rw} {gd : Bool} (hok : WoOk tb pr ow fi) (hft : ∀ k f, tyv (some (fty pr fi ft k f))) (hD : ∀ m, m < 24 → hs m = true → MdOk (D m)) (hsg : SgM tb pr hs (fun m => (D m).1) (fun m => (D m).2.1) (fun m => (D m).2.2.1) sg) (hW : gd = false → FixW tb pr ow fi ft sg hs D W) (hE : SgE pr hs D) : ∀ n f fs H dn, SF tb pr ow fi ft hs D W gd f fs H → HS (mrn tb pr ow fi ft sg hs D gd n f fs H dn).2.2.2.2 := by
  intro n
  induction n with
  | zero => intro f fs H dn h; exact h.1.1.hs
  | succ n ih =>
    intro f fs H dn h
    rw [mrn]
    split
    · exact h.1.1.hs
    · next hg =>
      have h0 := h.flt hok hD hsg hW hg
      split
      · next f' fs' H' e =>
        obtain ⟨f2, fs2, e2, h2⟩ := h.step hok hft hD hsg hW hE h0 e
        cases e2
        exact ih _ _ _ _ h2
      · next H' e =>
        obtain ⟨f2, fs2, e2, h2⟩ := h.step hok hft hD hsg hW hE h0 e
        cases e2
      · next how what an H' e => exact (h.fin hok hft hD hsg h0 e).1.hs
theorem UI.run (h : UI U) {z : Nat × Nat × Nat × Option Int32 × Hp} (hH : HS z.2.2.2.2) : UI (uRun U z) := h.keep h.2.2.2.2.2.1 h.2.2.2.2.2.2.1 h.2.2.2.2.2.2.2.1 hH
/-- what a run may rely on -/
theorem UI.fix (h : UI U) (hv : U.vf = true) : FixW U.tb U.pr U.ow U.fi U.ft (sgU U) U.hs U.D (VA U.tb U.pr U.ow U.fi U.ft (sgU U) U.D) := FixW_of h.1 h.ft (fun m _ hm => h.2.2.2.1 m hm) h.sgv (fun m _ hm => h.2.2.2.2.2.1 hv m hm)
theorem UI.start (h : UI U) {gd : Bool} {a c : Int32} (hg : gd = true ∨ U.vf = true) (hk : k < 6) (htb : U.tb k = true) (hm : mmo U.pr U.hs 0 6 (some k) = some m) : SF U.tb U.pr U.ow U.fi U.ft U.hs U.D (VA U.tb U.pr U.ow U.fi U.ft (sgU U) U.D) gd ⟨m, 0, bgR k (U.D m).1 (U.D m).2.1, bgV (U.D m).1 (U.D m).2.1 a c⟩ [] (mkO U.pr U.ow U.fi U.ft ⟨0, U.H.sz, U.H.ty, U.H.va, U.H.so⟩ k) :=
  SF.start (sg := sgU U) h.1 h.ft (fun m _ hm => h.2.2.2.1 m hm) (fun z => h.fix (by rcases hg with q | q; (rw [z] at q; cases q); exact q)) hk htb hm rfl h.2.2.2.2.2.2.2.2.2.1 h.2.2.2.2.2.2.2.2.2.2
end WUn
