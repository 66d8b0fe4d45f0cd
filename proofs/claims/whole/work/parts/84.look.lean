/-! the model: lookAt (wip/gen/p84.py) -/
section JNa
variable {l : Launch} {G : jl_G} {σ : jl_S}
variable {tb : Nat → Bool} {pr : Nat → Option Nat} {ow fi ft : Nat → Nat} {hs : Nat → Bool} {fa vf wh wy hg dp md ov oh dn an : Int32}
variable {u1 u2 : Nat → Option Nat} {ur ul uo : Nat → Nat} {ua : Nat → Int32} {uc us ut uk : Nat → Nat}
variable {lo sk kp : Rw} {mm : Nat → Int32} {fm : Nat → Bool}
variable {sg : Int32 → Option Sg}
theorem RlM0 {r lo sk : Rw} {h : Nat} (hl : ∀ i, i < 6 → lo i = r i) : RlM (low r h h) lo sk 0 := by
  refine ⟨fun i hi => ?_, fun j hj => absurd hj (Nat.not_lt_zero _)⟩
  rw [hl i hi]
  unfold low
  rw [if_neg (by omega), if_neg (by omega)]
theorem tfi_e {o rs : Nat} {x : Int32} {s t : Nat → Option Nat} {p q : Option Nat} (ho : o < 26) (h : ∀ j, j < tks sg o x → s j = t j) (hp : o = 1 → p = q) : tfi pr fi ft sg o x rs s p = tfi pr fi ft sg o x rs t q := by
  have hq : o = 0 ∨ o = 1 ∨ o = 2 ∨ o = 3 ∨ o = 4 ∨ o = 5 ∨ o = 6 ∨ o = 7 ∨ o = 8 ∨ o = 9 ∨ o = 10 ∨ o = 11 ∨ o = 12 ∨ o = 13 ∨ o = 14 ∨ o = 15 ∨ o = 16 ∨ o = 17 ∨ o = 18 ∨ o = 19 ∨ o = 20 ∨ o = 21 ∨ o = 22 ∨ o = 23 ∨ o = 24 ∨ o = 25 := by omega
  rcases hq with rfl | rfl | rfl | rfl | rfl | rfl | rfl | rfl | rfl | rfl | rfl | rfl | rfl | rfl | rfl | rfl | rfl | rfl | rfl | rfl | rfl | rfl | rfl | rfl | rfl | rfl
  · simp only [tfi]
  · simp only [tfi]; rw [hp rfl]
  · simp only [tfi]
  · simp only [tfi]; rw [h 0 (show 0 < 2 by omega), h 1 (show 1 < 2 by omega)]
  · simp only [tfi]; rw [h 0 (show 0 < 2 by omega), h 1 (show 1 < 2 by omega)]
  · simp only [tfi]; rw [h 0 (show 0 < 2 by omega), h 1 (show 1 < 2 by omega)]
  · simp only [tfi]; rw [h 0 (show 0 < 2 by omega), h 1 (show 1 < 2 by omega)]
  · simp only [tfi]
  · simp only [tfi]; rw [h 0 (show 0 < 1 by omega)]
  · simp only [tfi]; rw [h 0 (show 0 < 2 by omega), h 1 (show 1 < 2 by omega)]
  · simp only [tfi]
  · simp only [tfi]
  · simp only [tfi]; rw [h 0 (show 0 < 1 by omega)]
  · simp only [tfi]; rw [h 0 (show 0 < 2 by omega), h 1 (show 1 < 2 by omega)]
  · simp only [tfi]
    cases e : sg x with
    | none => rfl
    | some g =>
      have ht : tks sg 14 x = 1 + prm g.1 g.2.1 := by unfold tks; rw [if_pos rfl, e]; rfl
      rw [ht] at h
      obtain ⟨a, b, c⟩ := g
      cases a with
      | none => simp only [cfit]; rw [h 0 (by omega)]
      | some a =>
        cases b with
        | none => simp only [cfit]; rw [h 0 (by omega), h 1 (show 1 < 1 + 1 by omega)]
        | some b => simp only [cfit]; rw [h 0 (by omega), h 1 (show 1 < 1 + 2 by omega), h 2 (show 2 < 1 + 2 by omega)]
  · simp only [tfi]; rw [h 0 (show 0 < 1 by omega)]
  · simp only [tfi]; rw [h 0 (show 0 < 1 by omega)]
  · simp only [tfi]; rw [h 0 (show 0 < 1 by omega)]
  · simp only [tfi]; rw [h 0 (show 0 < 1 by omega)]
  · simp only [tfi]; rw [h 0 (show 0 < 1 by omega)]
  · simp only [tfi]; rw [h 0 (show 0 < 2 by omega), h 1 (show 1 < 2 by omega)]
  · simp only [tfi]; rw [h 0 (show 0 < 3 by omega), h 1 (show 1 < 3 by omega), h 2 (show 2 < 3 by omega)]
  · simp only [tfi]; rw [h 0 (show 0 < 1 by omega)]
  · simp only [tfi]
  · simp only [tfi]
  · simp only [tfi]; rw [h 0 (show 0 < 2 by omega), h 1 (show 1 < 2 by omega)]
theorem flt_eM {o sz nc rs pc h : Nat} {x : Int32} {fr tt tg kd : Nat → Nat} {r : Rw} (ho : o < 26) (hr : RlM r lo sk h) : flt tb pr ow fi ft sg o x sz fr tt tg kd nc rs pc (rwM lo sk) h = flt tb pr ow fi ft sg o x sz fr tt tg kd nc rs pc r h := by
  unfold flt
  by_cases e4 : f4 o x sz fr tt tg nc pc = true
  · rw [if_pos e4, if_pos e4]
  rw [if_neg e4, if_neg e4]
  by_cases e5 : f5 tb ow fi sg o x fr tt kd nc pc = true
  · rw [if_pos e5, if_pos e5]
  rw [if_neg e5, if_neg e5]
  by_cases e1 : f1 sg o x h = true
  · rw [if_pos e1, if_pos e1]
  rw [if_neg e1, if_neg e1]
  have hb := f1_b (sg := sg) (o := o) (x := x) (h := h) (by simpa using e1)
  have := tfi_e (pr := pr) (fi := fi) (ft := ft) (sg := sg) (rs := rs) (x := x) (s := fun j => rwM lo sk (6 + h - j)) (t := fun j => r (6 + h - j)) (p := rwM lo sk x.toNatClampNeg) (q := r x.toNatClampNeg) ho (fun j hj => by
    show rwM lo sk (6 + h - j) = r (6 + h - j)
    rw [rwM_s (by omega), hr.2 _ (by omega)]
    congr 1
    omega) (fun e => by
    subst e
    have h5 : f5o tb ow fi sg 1 x = false := f5o_f (by simpa using e5)
    obtain ⟨n, hn, rfl⟩ := lt6_of (x := x) (by simpa [f5o] using h5)
    rw [nI_clamp (by omega)]
    unfold rwM
    rw [if_pos hn]
    exact hr.1 n hn)
  rw [this]
end JNa
