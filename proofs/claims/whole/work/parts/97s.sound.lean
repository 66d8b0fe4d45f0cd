/-! VERIFIED: no FAULT is met -/
def VA (tb : Nat → Bool) (pr : Nat → Option Nat) (ow fi ft : Nat → Nat) (sg : Int32 → Option Sg) (D : Nat → MDt) (m : Nat) : Nat → Option Rw := (VRm tb pr ow fi ft sg (D m) (m / 4)).2.1
/-- the row of the METHOD at the top is below its INSTRUCTION's MAP -/
def TI (pr : Nat → Option Nat) (W : Nat → Nat → Option Rw) (f : Fm) : Prop := ∃ r, W f.m f.p = some r ∧ rle pr f.R r (hgt f.R)
def LI (pr : Nat → Option Nat) (W : Nat → Nat → Option Rw) (f : Fm) : Prop := ∃ r, W f.m f.p = some r ∧ ∀ j, j < 6 → le pr (f.R j) (r j)
/-- METHODS that wait for a RESULT of TYPE rs -/
def WS (pr : Nat → Option Nat) (D : Nat → MDt) (W : Nat → Nat → Option Rw) : Nat → List Fm → Prop
  | _, [] => True
  | rs, g :: gs => (LI pr W g ∧ Gle pr (W g.m) (g.p + 1) (psh g.R (hgt g.R) (some rs)) (hgt g.R + 1)) ∧ WS pr D W (D g.m).2.2.1 gs
def CH (pr : Nat → Option Nat) (D : Nat → MDt) (W : Nat → Nat → Option Rw) (f : Fm) (fs : List Fm) : Prop := TI pr W f ∧ WS pr D W (D f.m).2.2.1 fs
section WSo
variable {tb : Nat → Bool} {pr : Nat → Option Nat} {ow fi ft : Nat → Nat} {hs : Nat → Bool} {sg : Int32 → Option Sg} {D : Nat → MDt} {W : Nat → Nat → Option Rw} {H H' : Hp} {y : Option Nat} {v x : Int32} {R r : Rw} {V : Nat → Int32} {h b i rs o : Nat} {f g : Fm} {fs F : List Fm}
theorem part_0 {x : Option Nat} (h : part pr x (some 0) = true) : x = some 0 := by
  rcases part_cases h with e | ⟨_, c, e, _⟩ | ⟨_, c, _, e, _, hc, _⟩
  · exact e
  · cases e; omega
  · cases e; omega
theorem part_i {y : Option Nat} (h : part pr (some 0) y = true) : y = some 0 := by
  rcases part_cases h with e | ⟨e, _⟩ | ⟨a, _, e, _, ha, _⟩
  · exact e.symm
  · cases e
  · cases e; omega
theorem isI_m {x y : Option Nat} (h : part pr x y = true) (hy : isI y = true) : isI x = true := by
  unfold isI at hy ⊢
  rw [beq_iff_eq] at hy ⊢
  rw [hy] at h
  exact part_0 h
theorem isI_m2 {x y : Option Nat} (h : part pr x y = true) (hy : isI y = false) : isI x = false := by
  unfold isI at hy ⊢
  rw [beq_eq_false_iff_ne] at hy ⊢
  intro e
  rw [e] at h
  exact hy (part_i h)
theorem isO_m {x y : Option Nat} (h : part pr x y = true) (hy : isO y = true) : isO x = true := by
  rcases part_cases h with e | ⟨e, _⟩ | ⟨a, _, e, _, ha, _⟩
  · rw [e]; exact hy
  · rw [e]; rfl
  · rw [e]; unfold isO; simp [ha]
theorem tfi_m (hok : WoOk tb pr ow fi) {s s' : Nat → Option Nat} {ld ld' : Option Nat} (ho : o < 26) (hp : ∀ j, j < tks sg o x → part pr (s' j) (s j) = true ∧ ob 16 (s' j) ∧ ob 16 (s j)) (hld : ld.isSome = true → ld'.isSome = true) (hpq : ∀ g, sg x = some g → g.1 = none → g.2.1 = none) (h : tfi pr fi ft sg o x rs s ld = true) : tfi pr fi ft sg o x rs s' ld' = true := by
  have tr : ∀ j, j < tks sg o x → ∀ z, part pr (s j) z = true → part pr (s' j) z = true := fun j hj z hz => part_trans hok (hp j hj).2.1 (hp j hj).2.2 (hp j hj).1 hz
  have ii : ∀ j, j < tks sg o x → isI (s j) = true → isI (s' j) = true := fun j hj => isI_m (hp j hj).1
  have nn : ∀ j, j < tks sg o x → isI (s j) = false → isI (s' j) = false := fun j hj => isI_m2 (hp j hj).1
  have oo : ∀ j, j < tks sg o x → isO (s j) = true → isO (s' j) = true := fun j hj => isO_m (hp j hj).1
  match o, ho with
  | 0, _ => exact rfl
  | 1, _ => exact hld h
  | 2, _ => exact rfl
  | 3, _ =>
    have h : (isI (s 1) && isI (s 0)) = true := h
    rw [Bool.and_eq_true] at h
    show (isI (s' 1) && isI (s' 0)) = true
    rw [ii 1 (show 1 < 2 by decide) h.1, ii 0 (show 0 < 2 by decide) h.2]; rfl
  | 4, _ =>
    have h : (isI (s 1) && isI (s 0)) = true := h
    rw [Bool.and_eq_true] at h
    show (isI (s' 1) && isI (s' 0)) = true
    rw [ii 1 (show 1 < 2 by decide) h.1, ii 0 (show 0 < 2 by decide) h.2]; rfl
  | 5, _ =>
    have h : (isI (s 1) && isI (s 0)) = true := h
    rw [Bool.and_eq_true] at h
    show (isI (s' 1) && isI (s' 0)) = true
    rw [ii 1 (show 1 < 2 by decide) h.1, ii 0 (show 0 < 2 by decide) h.2]; rfl
  | 6, _ =>
    have h : (isI (s 1) && isI (s 0)) = true := h
    rw [Bool.and_eq_true] at h
    show (isI (s' 1) && isI (s' 0)) = true
    rw [ii 1 (show 1 < 2 by decide) h.1, ii 0 (show 0 < 2 by decide) h.2]; rfl
  | 7, _ => exact rfl
  | 8, _ => exact ii 0 (show 0 < 1 by decide) h
  | 9, _ =>
    have h : (isI (s 1) && isI (s 0)) = true := h
    rw [Bool.and_eq_true] at h
    show (isI (s' 1) && isI (s' 0)) = true
    rw [ii 1 (show 1 < 2 by decide) h.1, ii 0 (show 0 < 2 by decide) h.2]; rfl
  | 10, _ => exact rfl
  | 11, _ => exact rfl
  | 12, _ => exact tr 0 (show 0 < 1 by decide) _ h
  | 13, _ =>
    have h : (part pr (s 1) (some (10 + xq x 32)) && part pr (s 0) (some (fty pr fi ft (xq x 32) (xr x 32)))) = true := h
    rw [Bool.and_eq_true] at h
    show (part pr (s' 1) (some (10 + xq x 32)) && part pr (s' 0) (some (fty pr fi ft (xq x 32) (xr x 32)))) = true
    rw [tr 1 (show 1 < 2 by decide) _ h.1, tr 0 (show 0 < 2 by decide) _ h.2]; rfl
  | 14, _ =>
    cases hg : sg x with
    | none =>
      have h : (match sg x with | none => false | some g => cfit pr g.1 g.2.1 (xq x 4) s) = true := h
      rw [hg] at h; cases h
    | some g =>
      have h : (match sg x with | none => false | some g => cfit pr g.1 g.2.1 (xq x 4) s) = true := h
      rw [hg] at h
      show (match sg x with | none => false | some g => cfit pr g.1 g.2.1 (xq x 4) s') = true
      rw [hg]
      have hts : tks sg 14 x = 1 + prm g.1 g.2.1 := by unfold tks; rw [if_pos rfl, hg]; rfl
      dsimp only at h ⊢
      have hq := hpq g hg
      obtain ⟨p, q, rs'⟩ := g
      dsimp only at h hts hq ⊢
      unfold cfit at h ⊢
      cases p with
      | none => exact tr 0 (by rw [hts]; unfold prm; rw [if_pos rfl]; decide) _ h
      | some a =>
        cases q with
        | none =>
          have hp : prm (some a) none = 1 := rfl
          dsimp only at h ⊢
          rw [Bool.and_eq_true] at h
          rw [tr 0 (by omega) _ h.1, tr 1 (by omega) _ h.2]; rfl
        | some c =>
          have hp : prm (some a) (some c) = 2 := rfl
          dsimp only at h ⊢
          rw [Bool.and_eq_true, Bool.and_eq_true] at h
          rw [tr 1 (by omega) _ h.1, tr 0 (by omega) _ h.2.1, tr 2 (by omega) _ h.2.2]; rfl
  | 15, _ => exact oo 0 (show 0 < 1 by decide) h
  | 16, _ =>
    have h : (!isI (s 0)) = true := h
    show (!isI (s' 0)) = true
    rw [nn 0 (show 0 < 1 by decide) (by simpa using h)]; rfl
  | 17, _ => exact oo 0 (show 0 < 1 by decide) h
  | 18, _ => exact tr 0 (show 0 < 1 by decide) _ h
  | 19, _ => exact ii 0 (show 0 < 1 by decide) h
  | 20, _ =>
    have h : (part pr (s 1) (some 1) && isI (s 0)) = true := h
    rw [Bool.and_eq_true] at h
    show (part pr (s' 1) (some 1) && isI (s' 0)) = true
    rw [tr 1 (show 1 < 2 by decide) _ h.1, ii 0 (show 0 < 2 by decide) h.2]; rfl
  | 21, _ =>
    have h : (part pr (s 2) (some 1) && (isI (s 1) && isI (s 0))) = true := h
    rw [Bool.and_eq_true, Bool.and_eq_true] at h
    show (part pr (s' 2) (some 1) && (isI (s' 1) && isI (s' 0))) = true
    rw [tr 2 (show 2 < 3 by decide) _ h.1, ii 1 (show 1 < 3 by decide) h.2.1, ii 0 (show 0 < 3 by decide) h.2.2]; rfl
  | 22, _ => exact tr 0 (show 0 < 1 by decide) _ h
  | 23, _ => exact rfl
  | 24, _ => exact rfl
  | 25, _ =>
    have h : (!isI (s 1) && !isI (s 0)) = true := h
    rw [Bool.and_eq_true] at h
    show (!isI (s' 1) && !isI (s' 0)) = true
    rw [nn 1 (show 1 < 2 by decide) (by simpa using h.1), nn 0 (show 0 < 2 by decide) (by simpa using h.2)]; rfl
  | o + 26, h => omega
theorem le_part {x : Option Nat} {y : Option Nat} (h : le pr x y) (hy : y ≠ none) : part pr x y = true := by
  rcases h with e | e
  · exact absurd e hy
  · exact e
theorem flt_m {sz nc pc : Nat} {fr tt tg kd : Nat → Nat} (hok : WoOk tb pr ow fi) (ho : o < 26) (hpq : ∀ g, sg x = some g → g.1 = none → g.2.1 = none) (h0 : flt tb pr ow fi ft sg o x sz fr tt tg kd nc rs pc r h = 0) (hv : rv r h) (hle : ∀ j, j < 7 + h → j ≠ 6 → le pr (R j) (r j)) (hob : ∀ j, j < 7 + h → j ≠ 6 → ob 16 (R j)) : flt tb pr ow fi ft sg o x sz fr tt tg kd nc rs pc R h = 0 := by
  obtain ⟨z4, z5, z1, zt⟩ := flt0 h0
  obtain ⟨k1, k2⟩ := f1_b z1
  have z5o : f5o tb ow fi sg o x = false := by unfold f5 at z5; rw [Bool.or_eq_false_iff] at z5; exact z5.2
  unfold flt
  rw [z4, z5, z1]
  rw [if_neg (by decide), if_neg (by decide), if_neg (by decide), if_pos]
  by_cases h1 : o = 1
  · subst h1
    obtain ⟨n, hn, e⟩ := lt6_of (x := x) (by simpa [f5o] using z5o)
    subst e
    have hc : (nI n).toNatClampNeg = n := nI_clamp (by omega)
    have zt : (r (nI n).toNatClampNeg).isSome = true := zt
    show (R (nI n).toNatClampNeg).isSome = true
    rw [hc] at zt ⊢
    have hp := le_part (hle n (by omega) (by omega)) (fun e => by rw [e] at zt; cases zt)
    cases hR : R n with
    | some _ => rfl
    | none =>
      rw [hR] at hp
      rcases part_cases hp with e | ⟨e, _⟩ | ⟨_, _, e, _⟩
      · rw [← e] at zt; cases zt
      · cases e
      · cases e
  · refine tfi_m hok ho (fun j hj => ?_) (fun z => ?_) hpq ((tfi_ld h1).trans zt : tfi pr fi ft sg o x rs (fun j => r (6 + h - j)) (R x.toNatClampNeg) = true)
    · have hn := hv.2.2.2.1 (h - 1 - j) (by omega)
      rw [show 7 + (h - 1 - j) = 6 + h - j by omega] at hn
      exact ⟨le_part (hle _ (by omega) (by omega)) hn, hob _ (by omega) (by omega), hv.ob _⟩
    · exact z
end WSo
