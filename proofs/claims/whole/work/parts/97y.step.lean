/-! the equations of a step -/
section WEq
variable {tb : Nat → Bool} {pr : Nat → Option Nat} {ow fi ft : Nat → Nat} {hs : Nat → Bool} {sg : Int32 → Option Sg} {D : Nat → MDt} {H H' : Hp} {x : Int32} {R : Rw} {V : Nat → Int32} {b o : Nat} {f g : Fm} {fs gs : List Fm}
theorem stp_j (ho : dop (D f.m) f.p = o) (hx : dag (D f.m) f.p = x) (hb : hgt f.R - tks sg o x = b) (hj : jmp o = true) : stp pr ow fi ft sg hs D f fs H = .go (⟨f.m, if jtk o f.R f.V b then x.toNatClampNeg else f.p + 1, va_up f.R 6 (some b), f.V⟩ :: fs) H := by
  unfold stp
  rw [ho, hx]
  dsimp only
  rw [if_pos hj, hb]
theorem stp_14n (ho : dop (D f.m) f.p = 14) (hx : dag (D f.m) f.p = x) (hb : hgt f.R - tks sg 14 x = b) (hy : f.R (7 + b) = some 2) : stp pr ow fi ft sg hs D f fs H = sgn pr D 2 (f :: fs) H := by
  unfold stp
  rw [ho, hx]
  dsimp only
  rw [if_neg (by decide), if_pos rfl, hb, hy]
  dsimp only
  rw [if_pos rfl]
theorem stp_14f {k : Nat} (ho : dop (D f.m) f.p = 14) (hx : dag (D f.m) f.p = x) (hb : hgt f.R - tks sg 14 x = b) (hy : f.R (7 + b) = some (10 + k)) (h11 : 11 ≤ fs.length) : stp pr ow fi ft sg hs D f fs H = .fin 6 0 none H := by
  unfold stp
  rw [ho, hx]
  dsimp only
  rw [if_neg (by decide), if_pos rfl, hb, hy]
  dsimp only
  rw [if_neg (by omega), if_pos h11]
theorem stp_14 {k m : Nat} (ho : dop (D f.m) f.p = 14) (hx : dag (D f.m) f.p = x) (hb : hgt f.R - tks sg 14 x = b) (hy : f.R (7 + b) = some (10 + k)) (h11 : ¬ 11 ≤ fs.length) (hm : mmo pr hs (xr x 4) 6 (some k) = some m) : stp pr ow fi ft sg hs D f fs H = .go (⟨m, 0, cwR f.R b (prS (sg x)), cwW f.V b (prS (sg x))⟩ :: ⟨f.m, f.p, va_up f.R 6 (some b), f.V⟩ :: fs) H := by
  unfold stp
  rw [ho, hx]
  dsimp only
  rw [if_neg (by decide), if_pos rfl, hb, hy]
  dsimp only
  rw [if_neg (by omega), if_neg h11, Nat.add_sub_cancel_left, hm]
theorem stp_17n (ho : dop (D f.m) f.p = 17) (hx : dag (D f.m) f.p = x) (hb : hgt f.R - tks sg 17 x = b) (hy : f.R (7 + b) = some 2) : stp pr ow fi ft sg hs D f fs H = sgn pr D 2 (f :: fs) H := by
  unfold stp
  rw [ho, hx]
  dsimp only
  rw [if_neg (by decide), if_neg (by decide), if_pos rfl, hb, if_pos hy]
theorem stp_17 (ho : dop (D f.m) f.p = 17) (hx : dag (D f.m) f.p = x) (hb : hgt f.R - tks sg 17 x = b) (hy : ¬ f.R (7 + b) = some 2) : stp pr ow fi ft sg hs D f fs H = (match rse pr D (f.R (7 + b)) (f.V (7 + b)) (f :: fs) with | some F' => Sr.go F' H | none => .fin 7 ((f.R (7 + b)).getD 10 - 10) none H) := by
  unfold stp
  rw [ho, hx]
  dsimp only
  rw [if_neg (by decide), if_neg (by decide), if_pos rfl, hb, if_neg hy]
  rfl
theorem stp_18z (ho : dop (D f.m) f.p = 18) (hx : dag (D f.m) f.p = x) (hb : hgt f.R - tks sg 18 x = b) : stp pr ow fi ft sg hs D f [] H = .fin 0 0 (some (f.V (7 + b))) H := by
  unfold stp
  rw [ho, hx]
  dsimp only
  rw [if_neg (by decide), if_neg (by decide), if_neg (by decide), if_pos rfl, hb]
theorem stp_18s (ho : dop (D f.m) f.p = 18) (hx : dag (D f.m) f.p = x) (hb : hgt f.R - tks sg 18 x = b) : stp pr ow fi ft sg hs D f (g :: gs) H = .go (⟨g.m, g.p + 1, psh g.R (hgt g.R) (f.R (7 + b)), va_up g.V (7 + hgt g.R) (f.V (7 + b))⟩ :: gs) H := by
  unfold stp
  rw [ho, hx]
  dsimp only
  rw [if_neg (by decide), if_neg (by decide), if_neg (by decide), if_pos rfl, hb]
theorem stp_i (ho : dop (D f.m) f.p = o) (hx : dag (D f.m) f.p = x) (hb : hgt f.R - tks sg o x = b) (hj : jmp o = false) (h14 : o ≠ 14) (h17 : o ≠ 17) (h18 : o ≠ 18) : stp pr ow fi ft sg hs D f fs H = (match ins pr ow fi ft o x f.R f.V b H with | .inl (R', V', H') => Sr.go (⟨f.m, f.p + 1, R', V'⟩ :: fs) H' | .inr (some n) => sgn pr D n (f :: fs) H | .inr none => .fin 6 0 none H) := by
  unfold stp
  rw [ho, hx]
  dsimp only
  rw [if_neg (by rw [hj]; decide), if_neg h14, if_neg h17, if_neg h18, hb]
  rfl
theorem sgn_s {n : Nat} {F : List Fm} (h : rse pr D none (-1) (f :: fs) = some F) : sgn pr D n (f :: fs) H = .go F H := by unfold sgn; rw [h]
theorem sgn_n {n : Nat} (h : rse pr D none (-1) (f :: fs) = none) : sgn pr D n (f :: fs) H = .fin n 0 none H := by unfold sgn; rw [h]
/-- a FAULT is told by the places below the height alone -/
theorem flt_w {sz nc pc rs h : Nat} {fr tt tg kd : Nat → Nat} {W : Rw} (hok : WoOk tb pr ow fi) (ho : o < 26) (hpq : ∀ g, sg x = some g → g.1 = none → g.2.1 = none) (he : ∀ j, j < 7 + h → j ≠ 6 → R j = W j) (hob : ∀ j, j < 7 + h → j ≠ 6 → ob 16 (R j)) : flt tb pr ow fi ft sg o x sz fr tt tg kd nc rs pc R h = flt tb pr ow fi ft sg o x sz fr tt tg kd nc rs pc W h := by
  unfold flt
  by_cases z4 : f4 o x sz fr tt tg nc pc = true
  · rw [if_pos z4, if_pos z4]
  rw [if_neg z4, if_neg z4]
  by_cases z5 : f5 tb ow fi sg o x fr tt kd nc pc = true
  · rw [if_pos z5, if_pos z5]
  rw [if_neg z5, if_neg z5]
  by_cases z1 : f1 sg o x h = true
  · rw [if_pos z1, if_pos z1]
  rw [if_neg z1, if_neg z1]
  obtain ⟨k1, k2⟩ := f1_b (Bool.eq_false_iff.mpr z1)
  have z5o : f5o tb ow fi sg o x = false := by
    have := Bool.eq_false_iff.mpr z5
    unfold f5 at this
    rw [Bool.or_eq_false_iff] at this
    exact this.2
  have hld : o = 1 → R x.toNatClampNeg = W x.toNatClampNeg := fun e => by
    subst e
    obtain ⟨n, hn, e⟩ := lt6_of (x := x) (by simpa [f5o] using z5o)
    subst e
    rw [nI_clamp (by omega)]
    exact he n (by omega) (by omega)
  have key : ∀ A B : Rw, (∀ j, j < 7 + h → j ≠ 6 → A j = B j) → (∀ j, j < 7 + h → j ≠ 6 → ob 16 (A j)) → (o = 1 → A x.toNatClampNeg = B x.toNatClampNeg) → tfi pr fi ft sg o x rs (fun j => A (6 + h - j)) (A x.toNatClampNeg) = true → tfi pr fi ft sg o x rs (fun j => B (6 + h - j)) (B x.toNatClampNeg) = true := by
    intro A B hab hoA hl ht
    have hld' : tfi pr fi ft sg o x rs (fun j => A (6 + h - j)) (B x.toNatClampNeg) = true := by
      by_cases e : o = 1
      · rw [← hl e]; exact ht
      · exact (tfi_ld e).trans ht
    refine tfi_m hok ho (fun j hj => ?_) (fun z => z) hpq hld'
    have e1 : A (6 + h - j) = B (6 + h - j) := hab _ (by omega) (by omega)
    show part pr (B (6 + h - j)) (A (6 + h - j)) = true ∧ ob 16 (B (6 + h - j)) ∧ ob 16 (A (6 + h - j))
    rw [← e1]
    exact ⟨part_refl, hoA _ (by omega) (by omega), hoA _ (by omega) (by omega)⟩
  have hW : ∀ j, j < 7 + h → j ≠ 6 → ob 16 (W j) := fun j hj hn => he j hj hn ▸ hob j hj hn
  cases ht : tfi pr fi ft sg o x rs (fun j => R (6 + h - j)) (R x.toNatClampNeg) with
  | true => rw [key R W he hob hld ht]
  | false =>
    cases ht2 : tfi pr fi ft sg o x rs (fun j => W (6 + h - j)) (W x.toNatClampNeg) with
    | false => rfl
    | true => rw [key W R (fun j hj hn => (he j hj hn).symm) hW (fun e => (hld e).symm) ht2] at ht; cases ht
end WEq
