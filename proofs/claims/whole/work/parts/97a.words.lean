/-! words of the machine: METHODS under way, what is made, what an INSTRUCTION does -/
abbrev Fm : Type := Nat × Nat × Rw × (Nat → Int32)
abbrev Fm.m (f : Fm) : Nat := f.1
abbrev Fm.p (f : Fm) : Nat := f.2.1
abbrev Fm.R (f : Fm) : Rw := f.2.2.1
abbrev Fm.V (f : Fm) : Nat → Int32 := f.2.2.2
abbrev Hp : Type := Nat × (Nat → Nat) × (Nat → Option Nat) × (Nat → Int32) × (Nat → Option Nat)
abbrev Hp.n (H : Hp) : Nat := H.1
abbrev Hp.sz (H : Hp) : Nat → Nat := H.2.1
abbrev Hp.ty (H : Hp) : Nat → Option Nat := H.2.2.1
abbrev Hp.va (H : Hp) : Nat → Int32 := H.2.2.2.1
abbrev Hp.so (H : Hp) : Nat → Option Nat := H.2.2.2.2
def wr {α : Type} (f : Nat → α) (b n : Nat) (g : Nat → α) : Nat → α := fun j => if b ≤ j ∧ j < b + n then g (j - b) else f j
theorem wrt.e {α : Type} {f f' : Nat → α} {b n : Nat} {g : Nat → α} (h : wrt f f' b n g) : f' = wr f b n g := funext h
def mkR (H : Hp) (n : Nat) : Hp := ⟨H.n + 1, va_up H.sz H.n n, H.ty, wr H.va (H.n * 18) n (fun _ => 0), va_up H.so H.n none⟩
def mkO (pr : Nat → Option Nat) (ow fi ft : Nat → Nat) (H : Hp) (k : Nat) : Hp := ⟨H.n + 1, va_up H.sz H.n (fi k + ow k), wr H.ty (H.n * 18) (fi k + ow k) (fun f => if fty pr fi ft k f = 0 then some 0 else some 2), wr H.va (H.n * 18) (fi k + ow k) (fun f => if fty pr fi ft k f = 0 then 0 else -1), va_up H.so H.n (some k)⟩
/-- what an INSTRUCTION that the next one follows does: a new row; a SIGNAL; too much is made -/
abbrev Ir : Type := (Rw × (Nat → Int32) × Hp) ⊕ Option Nat
abbrev Ir.ok (R : Rw) (V : Nat → Int32) (H : Hp) : Ir := .inl (R, V, H)
abbrev Ir.sg (n : Nat) : Ir := .inr (some n)
abbrev Ir.full : Ir := .inr none
theorem Ir.oki {R R' : Rw} {V V' : Nat → Int32} {H H' : Hp} (e : Ir.ok R V H = Ir.ok R' V' H') : R = R' ∧ V = V' ∧ H = H' := by cases e; exact ⟨rfl, rfl, rfl⟩
/-- the place of FIELD or index f of what number v names -/
def clo (v : Int32) (f : Nat) : Nat := v.toNatClampNeg * 18 + f
/-- b: the STACK's height without what the INSTRUCTION takes -/
def ins (pr : Nat → Option Nat) (ow fi ft : Nat → Nat) (o : Nat) (x : Int32) (R : Rw) (V : Nat → Int32) (b : Nat) (H : Hp) : Ir := match o with
  | 0 => .ok (psh R b (some 0)) (va_up V (7 + b) x) H
  | 1 => .ok (psh R b (R x.toNatClampNeg)) (va_up V (7 + b) (V x.toNatClampNeg)) H
  | 2 => .ok (va_up (va_up R 6 (some b)) x.toNatClampNeg (R (7 + b))) (va_up V x.toNatClampNeg (V (7 + b))) H
  | 3 => .ok (psh R b (some 0)) (va_up V (7 + b) (V (7 + b) + V (8 + b))) H
  | 4 => .ok (psh R b (some 0)) (va_up V (7 + b) (V (7 + b) - V (8 + b))) H
  | 5 => .ok (psh R b (some 0)) (va_up V (7 + b) (V (7 + b) * V (8 + b))) H
  | 6 => if V (8 + b) = 0 then .sg 1 else .ok (psh R b (some 0)) (va_up V (7 + b) (V (7 + b) / V (8 + b))) H
  | 10 => .ok (psh R b (some 2)) (va_up V (7 + b) (-1)) H
  | 11 => if 40 ≤ H.n then .full else .ok (psh R b (some (10 + x.toNatClampNeg))) (va_up V (7 + b) (nI H.n)) (mkO pr ow fi ft H x.toNatClampNeg)
  | 12 => if R (7 + b) = some 2 then .sg 2 else .ok (psh R b (H.ty (clo (V (7 + b)) (xr x 32)))) (va_up V (7 + b) (H.va (clo (V (7 + b)) (xr x 32)))) H
  | 13 => if R (7 + b) = some 2 then .sg 2 else .ok (va_up R 6 (some b)) V ⟨H.n, H.sz, va_up H.ty (clo (V (7 + b)) (xr x 32)) (R (8 + b)), va_up H.va (clo (V (7 + b)) (xr x 32)) (V (8 + b)), H.so⟩
  | 15 => if part pr (R (7 + b)) (some (10 + x.toNatClampNeg)) = true then .ok R V H else .sg 4
  | 19 => if V (7 + b) < 0 then .sg 3 else if nI 8 < V (7 + b) then .sg 3 else if 40 ≤ H.n then .full else .ok (psh R b (some 1)) (va_up V (7 + b) (nI H.n)) (mkR H (V (7 + b)).toNatClampNeg)
  | 20 => if R (7 + b) = some 2 then .sg 2 else if stH H.sz H.n (V (7 + b)) (V (8 + b)) = false then .sg 3 else .ok (psh R b (some 0)) (va_up V (7 + b) (H.va (clo (V (7 + b)) (V (8 + b)).toNatClampNeg))) H
  | 21 => if R (7 + b) = some 2 then .sg 2 else if stH H.sz H.n (V (7 + b)) (V (8 + b)) = false then .sg 3 else .ok (va_up R 6 (some b)) V ⟨H.n, H.sz, H.ty, va_up H.va (clo (V (7 + b)) (V (8 + b)).toNatClampNeg) (V (9 + b)), H.so⟩
  | 22 => if R (7 + b) = some 2 then .sg 2 else .ok (psh R b (some 0)) (va_up V (7 + b) (nI (H.sz (V (7 + b)).toNatClampNeg))) H
  | 23 => .ok (va_up R 6 (some b)) V H
  | 24 => .ok (psh R (b + 1) (R (7 + b))) (va_up V (8 + b) (V (7 + b))) H
  | 25 => .ok (psh R b (some 0)) (va_up V (7 + b) (if V (7 + b) = V (8 + b) then 1 else 0)) H
  | _ => .full
/-- what number v of TYPE y names is made, or nothing -/
def ojt (H : Hp) (y : Option Nat) (v : Int32) : Prop := (y = some 2 ∧ v = -1) ∨ ∃ q k, q < H.n ∧ k < 6 ∧ y = some (10 + k) ∧ v = nI q ∧ H.so q = some k
def rwt (H : Hp) (y : Option Nat) (v : Int32) : Prop := (y = some 2 ∧ v = -1) ∨ ∃ q, q < H.n ∧ y = some 1 ∧ v = nI q ∧ H.so q = none
/-- what an INSTRUCTION without FAULT may rely on -/
def fit (tb : Nat → Bool) (o : Nat) (x : Int32) (R : Rw) (V : Nat → Int32) (b : Nat) (H : Hp) : Prop := match o with
  | 1 => ∃ n, n < 6 ∧ x = nI n ∧ R n ≠ none
  | 2 => ∃ n, n < 6 ∧ x = nI n
  | 11 => ∃ n, n < 6 ∧ x = nI n ∧ tb n = true
  | 12 => ∃ n, n < 192 ∧ n % 32 < 18 ∧ x = nI n ∧ ojt H (R (7 + b)) (V (7 + b))
  | 13 => ∃ n, n < 192 ∧ n % 32 < 18 ∧ x = nI n ∧ ojt H (R (7 + b)) (V (7 + b))
  | 15 => ∃ n, n < 6 ∧ x = nI n ∧ ojt H (R (7 + b)) (V (7 + b))
  | 20 => rwt H (R (7 + b)) (V (7 + b))
  | 21 => rwt H (R (7 + b)) (V (7 + b))
  | 22 => rwt H (R (7 + b)) (V (7 + b))
  | _ => True
/-! the class's cells of the machine -/
def hgt (R : Rw) : Nat := (R 6).getD 0
/-- METHOD f is at place t of the class's rows, as far as N -/
def FrA (mt uw : Nat → Option Nat) (ps : Nat → Nat) (ty : Rw) (va : Nat → Int32) (N t : Nat) (f : Fm) : Prop :=
  (∃ a, mt f.m = some a ∧ uw t = some a) ∧ ps t = f.p ∧ (∀ j, j < N → ty (t * 12 + j) = f.R j) ∧ ∀ j, j < N → j ≠ 6 → va (t * 12 + j) = f.V j
def FsA (mt uw : Nat → Option Nat) (ps : Nat → Nat) (ty : Rw) (va : Nat → Int32) : List Fm → Prop
  | [] => True
  | f :: fs => FrA mt uw ps ty va (7 + hgt f.R) fs.length f ∧ hgt f.R ≤ 5 ∧ FsA mt uw ps ty va fs
/-- METHOD (m, p, R, V) at the top, N places of it known, those of fs below -/
def FX (mt uw : Nat → Option Nat) (ps : Nat → Nat) (ty : Rw) (va : Nat → Int32) (N t m p : Nat) (R : Rw) (V : Nat → Int32) (fs : List Fm) : Prop :=
  FrA mt uw ps ty va N t ⟨m, p, R, V⟩ ∧ FsA mt uw ps ty va fs ∧ fs.length = t ∧ ∀ j, ob 16 (ty j)
/-- cells but the machine's are as they were -/
def FrK (σ σ' : jl_S) : Prop := σ'.length = σ.length ∧ ∀ i, (i < 13 ∨ 21 < i) → σ'[i]? = σ[i]?
def KB (σ0 : jl_S) (mt : Nat → Option Nat) (σ : jl_S) (N t m p : Nat) (R : Rw) (V : Nat → Int32) (fs : List Fm) (H : Hp) (su dt dq aw : Int32) : Prop :=
  ∃ uw ps ty va, MaAt σ (nI t) su dt dq aw ∧ σ[18]? = some (.inl (3, 12, .inr (.inr (.inr (.inr uw))))) ∧ σ[19]? = some (.inl (0, 12, .inl fun j => nI (ps j))) ∧ σ[20]? = some (.inl (0, 144, .inl fun j => en (ty j))) ∧ σ[21]? = some (.inl (0, 144, .inl va)) ∧ StAt σ H.sz H.ty H.va H.n ∧ FX mt uw ps ty va N t m p R V fs ∧ (∀ j, ob 16 (H.ty j)) ∧ FrK σ0 σ
/-- the machine when a run is over -/
def KZ (σ0 σ : jl_S) (H : Hp) (su dt dq aw : Int32) : Prop :=
  ∃ (tp : Int32) (uw : Nat → Option Nat) (ps : Nat → Nat) (ty : Rw) (va : Nat → Int32), MaAt σ tp su dt dq aw ∧ σ[18]? = some (.inl (3, 12, .inr (.inr (.inr (.inr uw))))) ∧ σ[19]? = some (.inl (0, 12, .inl fun j => nI (ps j))) ∧ σ[20]? = some (.inl (0, 144, .inl fun j => en (ty j))) ∧ σ[21]? = some (.inl (0, 144, .inl va)) ∧ StAt σ H.sz H.ty H.va H.n ∧ (∀ j, ob 16 (ty j)) ∧ (∀ j, ob 16 (H.ty j)) ∧ FrK σ0 σ
section WKb
variable {σ0 σ : jl_S} {mt uw uw' : Nat → Option Nat} {ps ps' : Nat → Nat} {ty ty' : Rw} {va va' : Nat → Int32} {N N' t m p h i : Nat} {R R' : Rw} {V V' : Nat → Int32} {fs : List Fm} {H : Hp} {su dt dq aw v : Int32} {y z : Option Nat}
theorem FrK.refl : FrK σ σ := ⟨rfl, fun _ _ => rfl⟩
theorem FrK.set {b : Nat} {c : jl_C} (h : FrK σ0 σ) (hb : 13 ≤ b ∧ b ≤ 21) : FrK σ0 (σ.set b c) := ⟨(List.length_set ..).trans h.1, fun i h3 => by rw [List.getElem?_set_ne (by omega)]; exact h.2 i h3⟩
theorem FrK.sto {σ' : jl_S} (h : FrK σ0 σ) (h2 : FrS σ σ') : FrK σ0 σ' := ⟨h2.1.trans h.1, fun i h3 => (h2.2 i (by omega)).trans (h.2 i h3)⟩
theorem FsA.low {t : Nat} (h1 : ∀ j, j < t → uw' j = uw j ∧ ps' j = ps j) (h2 : ∀ j, j < t * 12 → ty' j = ty j ∧ va' j = va j) : ∀ {fs : List Fm}, FsA mt uw ps ty va fs → fs.length ≤ t → FsA mt uw' ps' ty' va' fs := by
  intro fs
  induction fs with
  | nil => intro _ _; trivial
  | cons f fs ih =>
    intro h hl
    rw [List.length_cons] at hl
    have h5 := h.2.1
    refine ⟨⟨?_, ?_, fun j hj => ?_, fun j hj hn => ?_⟩, h5, ih h.2.2 (by omega)⟩
    · obtain ⟨a, ha, hb⟩ := h.1.1
      exact ⟨a, ha, (h1 _ (by omega)).1.trans hb⟩
    · exact (h1 _ (by omega)).2.trans h.1.2.1
    · exact (h2 _ (by omega)).1.trans (h.1.2.2.1 j hj)
    · exact (h2 _ (by omega)).2.trans (h.1.2.2.2 j hj hn)
theorem FX.le (h : FX mt uw ps ty va N t m p R V fs) (hN : N' ≤ N) : FX mt uw ps ty va N' t m p R V fs := ⟨⟨h.1.1, h.1.2.1, fun j hj => h.1.2.2.1 j (by omega), fun j hj => h.1.2.2.2 j (by omega)⟩, h.2⟩
theorem obU_up {f : Rw} (h : ∀ j, ob 16 (f j)) (hy : ob 16 y) : ∀ j, ob 16 (va_up f i y j) := by
  intro j
  by_cases e : j = i
  · rw [e, va_up_self]; exact hy
  · rw [va_up_ne _ _ e]; exact h j
theorem FX.rob (h : FX mt uw ps ty va N t m p R V fs) : ∀ j, j < N → ob 16 (R j) := fun j hj => (show ty (t * 12 + j) = R j from h.1.2.2.1 j hj) ▸ h.2.2.2 _
theorem FX.six (h : FX mt uw ps ty va N t m p R V fs) (hy : ob 16 y) : FX mt uw ps (va_up ty (t * 12 + 6) y) va N t m p (va_up R 6 y) V fs := by
  refine ⟨⟨h.1.1, h.1.2.1, fun j hj => ?_, h.1.2.2.2⟩, FsA.low (t := t) (fun _ _ => ⟨rfl, rfl⟩) (fun j hj => ⟨va_up_ne _ _ (by omega), rfl⟩) h.2.1 (by rw [h.2.2.1]; exact Nat.le_refl _), h.2.2.1, obU_up h.2.2.2 hy⟩
  show va_up ty (t * 12 + 6) y (t * 12 + j) = va_up R 6 y j
  by_cases e : j = 6
  · rw [e, va_up_self, va_up_self]
  · rw [va_up_ne _ _ (by omega), va_up_ne _ _ e]; exact h.1.2.2.1 j hj
theorem FX.loc (h : FX mt uw ps ty va N t m p R V fs) (hi : i < 6) (hy : ob 16 y) : FX mt uw ps (va_up ty (t * 12 + i) y) (upd va (t * 12 + i) v) N t m p (va_up R i y) (va_up V i v) fs := by
  rw [upd_up]
  refine ⟨⟨h.1.1, h.1.2.1, fun j hj => ?_, fun j hj hn => ?_⟩, FsA.low (t := t) (fun _ _ => ⟨rfl, rfl⟩) (fun j hj => ⟨va_up_ne _ _ (by omega), va_up_ne _ _ (by omega)⟩) h.2.1 (by rw [h.2.2.1]; exact Nat.le_refl _), h.2.2.1, obU_up h.2.2.2 hy⟩
  · show va_up ty (t * 12 + i) y (t * 12 + j) = va_up R i y j
    by_cases e : j = i
    · rw [e, va_up_self, va_up_self]
    · rw [va_up_ne _ _ (by omega), va_up_ne _ _ e]; exact h.1.2.2.1 j hj
  · show va_up va (t * 12 + i) v (t * 12 + j) = va_up V i v j
    by_cases e : j = i
    · rw [e, va_up_self, va_up_self]
    · rw [va_up_ne _ _ (by omega), va_up_ne _ _ e]; exact h.1.2.2.2 j hj hn
theorem FX.put (h : FX mt uw ps ty va N t m p R V fs) (hN : 7 + i ≤ N) (hi : i < 15) (hy : ob 16 y) : FX mt uw ps (va_up (va_up ty (t * 12 + 7 + i) y) (t * 12 + 6) (some (i + 1))) (upd va (t * 12 + 7 + i) v) (8 + i) t m p (psh R i y) (va_up V (7 + i) v) fs := by
  rw [upd_up]
  refine ⟨⟨h.1.1, h.1.2.1, fun j hj => ?_, fun j hj hn => ?_⟩, FsA.low (t := t) (fun _ _ => ⟨rfl, rfl⟩) (fun j hj => ⟨(va_up_ne _ _ (by omega)).trans (va_up_ne _ _ (by omega)), va_up_ne _ _ (by omega)⟩) h.2.1 (by rw [h.2.2.1]; exact Nat.le_refl _), h.2.2.1, obU_up (obU_up h.2.2.2 hy) (ob_s (by omega))⟩
  · show va_up (va_up ty (t * 12 + 7 + i) y) (t * 12 + 6) (some (i + 1)) (t * 12 + j) = psh R i y j
    unfold psh
    by_cases e : j = 6
    · rw [if_pos e, e, va_up_self]
    · rw [if_neg e, va_up_ne _ _ (by omega)]
      by_cases e2 : j = 7 + i
      · rw [if_pos e2, e2, ← Nat.add_assoc, va_up_self]
      · rw [if_neg e2, va_up_ne _ _ (by omega)]; exact h.1.2.2.1 j (by omega)
  · show va_up va (t * 12 + 7 + i) v (t * 12 + j) = va_up V (7 + i) v j
    by_cases e2 : j = 7 + i
    · rw [e2, va_up_self, ← Nat.add_assoc, va_up_self]
    · rw [va_up_ne _ _ (by omega), va_up_ne _ _ e2]; exact h.1.2.2.2 j (by omega) hn
theorem FX.six7 (h : FX mt uw ps ty va 6 t m p R V fs) (hy : ob 16 y) : FX mt uw ps (va_up ty (t * 12 + 6) y) va 7 t m p (va_up R 6 y) V fs := by
  have z := FX.six (y := y) h hy
  refine ⟨⟨z.1.1, z.1.2.1, fun j hj => ?_, fun j hj hn => z.1.2.2.2 j (by omega) hn⟩, z.2⟩
  by_cases e : j = 6
  · show va_up ty (t * 12 + 6) y (t * 12 + j) = va_up R 6 y j
    rw [e, va_up_self, va_up_self]
  · exact z.1.2.2.1 j (by omega)
theorem FX.pc {p2 : Nat} (h : FX mt uw ps ty va N t m p R V fs) : FX mt uw (va_up ps t p2) ty va N t m p2 R V fs :=
  ⟨⟨h.1.1, va_up_self _ _ _, h.1.2.2⟩, FsA.low (t := t) (fun j hj => ⟨rfl, va_up_ne _ _ (by omega)⟩) (fun _ _ => ⟨rfl, rfl⟩) h.2.1 (by rw [h.2.2.1]; exact Nat.le_refl _), h.2.2⟩
theorem FX.out {q : Nat} (h : FX mt uw ps ty va N t m p R V fs) (hN : N ≤ 12) (hq : t * 12 + 12 ≤ q) (hy : ob 16 y) : FX mt uw ps (va_up ty q y) va N t m p R V fs :=
  ⟨⟨h.1.1, h.1.2.1, fun j hj => (va_up_ne _ _ (by omega)).trans (h.1.2.2.1 j hj), h.1.2.2.2⟩, FsA.low (t := t) (fun _ _ => ⟨rfl, rfl⟩) (fun j hj => ⟨va_up_ne _ _ (by omega), rfl⟩) h.2.1 (by rw [h.2.2.1]; exact Nat.le_refl _), h.2.2.1, obU_up h.2.2.2 hy⟩
/-- the METHOD below the top -/
theorem FX.dn {g : Fm} (h : FX mt uw ps ty va N t m p R V (g :: fs)) : FX mt uw ps ty va (7 + hgt g.R) fs.length g.m g.p g.R g.V fs ∧ hgt g.R ≤ 5 ∧ t = fs.length + 1 := ⟨⟨h.2.1.1, h.2.1.2.2, rfl, h.2.2.2⟩, h.2.1.2.1, h.2.2.1.symm⟩
theorem FX.cc (h : FX mt uw ps ty va N t m p R V fs) (e1 : R = R') (e2 : V = V') : FX mt uw ps ty va N t m p R' V' fs := by
  subst e1 e2
  exact h
theorem FX.lo (h : FX mt uw ps ty va N t m p R V fs) (hN : 6 ≤ N) (h1 : ∀ j, j < 6 → R j = R' j ∧ V j = V' j) : FX mt uw ps ty va 6 t m p R' V' fs := by
  refine ⟨⟨h.1.1, h.1.2.1, fun j hj => ?_, fun j hj hn => ?_⟩, h.2⟩
  · exact (h.1.2.2.1 j (by omega)).trans (h1 j hj).1
  · exact (h.1.2.2.2 j (by omega) hn).trans (h1 j hj).2
theorem KB.le (h : KB σ0 mt σ N t m p R V fs H su dt dq aw) (hN : N' ≤ N) : KB σ0 mt σ N' t m p R V fs H su dt dq aw := by
  obtain ⟨uw, ps, ty, va, a, b, c, d, e, f, g, i⟩ := h
  exact ⟨uw, ps, ty, va, a, b, c, d, e, f, g.le hN, i⟩
theorem KB.kz (h : KB σ0 mt σ N t m p R V fs H su dt dq aw) : KZ σ0 σ H su dt dq aw := by
  obtain ⟨uw, ps, ty, va, a, b, c, d, e, f, g, i, j⟩ := h
  exact ⟨_, uw, ps, ty, va, a, b, c, d, e, f, g.2.2.2, i, j⟩
theorem KB.lo (h : KB σ0 mt σ N t m p R V fs H su dt dq aw) (hN : 6 ≤ N) (h1 : ∀ j, j < 6 → R j = R' j ∧ V j = V' j) : KB σ0 mt σ 6 t m p R' V' fs H su dt dq aw := by
  obtain ⟨uw, ps, ty, va, a, b, c, d, e, f, g, i⟩ := h
  exact ⟨uw, ps, ty, va, a, b, c, d, e, f, g.lo hN h1, i⟩
theorem ob_wr {f g : Nat → Option Nat} {c n : Nat} (h1 : ∀ j, ob 16 (f j)) (h2 : ∀ j, ob 16 (g j)) : ∀ j, ob 16 (wr f c n g j) := by
  intro j
  unfold wr
  split
  · exact h2 _
  · exact h1 _
theorem mkO_ob {pr : Nat → Option Nat} {ow fi ft : Nat → Nat} {n : Nat} (h : ∀ j, ob 16 (H.ty j)) : ∀ j, ob 16 ((mkO pr ow fi ft H n).ty j) := by
  intro j
  show ob 16 (wr H.ty (H.n * 18) (fi n + ow n) (fun f => if fty pr fi ft n f = 0 then some 0 else some 2) j)
  refine ob_wr h (fun i => ?_) j
  split <;> exact ob_s (by decide)
theorem psh_six : psh (va_up R 6 z) h y = psh R h y := by
  funext j
  unfold psh
  by_cases e : j = 6
  · rw [if_pos e, if_pos e]
  · rw [if_neg e, if_neg e, va_up_ne _ _ e]
theorem six_six {α : Type} {f : Nat → α} {x x' : α} : va_up (va_up f i x) i x' = va_up f i x' := by
  funext j
  by_cases e : j = i
  · rw [e, va_up_self, va_up_self]
  · rw [va_up_ne _ _ e, va_up_ne _ _ e, va_up_ne _ _ e]
theorem up_id {α : Type} {f : Nat → α} : va_up f i (f i) = f := by
  funext j
  by_cases e : j = i
  · rw [e, va_up_self]
  · rw [va_up_ne _ _ e]
theorem psh_id (h6 : R 6 = some (h + 1)) : psh R h (R (7 + h)) = R := by
  funext j
  unfold psh
  by_cases e : j = 6
  · rw [if_pos e, e, h6]
  · rw [if_neg e]
    by_cases e2 : j = 7 + h
    · rw [if_pos e2, e2]
    · rw [if_neg e2]
theorem psh_psh : psh (psh R h (R (7 + h))) (h + 1) y = psh R (h + 1) y := by
  funext j
  unfold psh
  by_cases e : j = 6
  · rw [if_pos e, if_pos e]
  · rw [if_neg e, if_neg e, if_neg e]
    by_cases e3 : j = 7 + (h + 1)
    · rw [if_pos e3, if_pos e3]
    · rw [if_neg e3, if_neg e3]
      by_cases e2 : j = 7 + h
      · rw [if_pos e2, e2]
      · rw [if_neg e2]
end WKb
