/-! words of the model's VERIFYING -/
def MB (σ : jl_S) (tb : Nat → Bool) (pr : Nat → Option Nat) (ow ft : Nat → Nat) (hs : Nat → Bool) (u1 u2 : Nat → Option Nat) (ur ul uo : Nat → Nat) (ua : Nat → Int32) (uc us ut uk : Nat → Nat) (fa vf wh wy hg dp md ov oh dn an : Int32) (lo sk kp : Rw) (mm : Nat → Int32) (fm : Nat → Bool) : Prop :=
  MoO σ fa vf wh wy hg dp md ov oh dn an ∧ MoW σ tb pr ow ft hs ∧ MoM σ u1 u2 ur ul uo ua uc us ut uk ∧ MoR σ lo sk ∧ σ[42]? = some (.inl (0, 8, .inl fun j => en (kp j))) ∧ σ[38]? = some (.inl (0, 6912, .inl mm)) ∧ σ[39]? = some (.inl (1, 24, .inl fun j => bi (fm j)))
def FrM (σ σ' : jl_S) : Prop := σ'.length = σ.length ∧ ∀ i, i ≠ 22 → (i < 38 ∨ 42 < i) → σ'[i]? = σ[i]?
theorem FrM.refl {σ : jl_S} : FrM σ σ := ⟨rfl, fun _ _ _ => rfl⟩
theorem FrM.trans {σ σ1 σ2 : jl_S} (h : FrM σ σ1) (h2 : FrM σ1 σ2) : FrM σ σ2 := ⟨h2.1.trans h.1, fun i h3 h4 => (h2.2 i h3 h4).trans (h.2 i h3 h4)⟩
theorem FrM.set {b : Nat} {σ σ1 : jl_S} {c : jl_C} (h : FrM σ σ1) (hb : b = 22 ∨ (38 ≤ b ∧ b ≤ 42)) : FrM σ (σ1.set b c) := ⟨(List.length_set ..).trans h.1, fun i h3 h4 => by rw [List.getElem?_set_ne (by omega)]; exact h.2 i h3 h4⟩
section WMB
variable {σ : jl_S} {tb : Nat → Bool} {pr : Nat → Option Nat} {ow ft : Nat → Nat} {hs : Nat → Bool} {u1 u2 : Nat → Option Nat} {ur ul uo : Nat → Nat} {ua : Nat → Int32} {uc us ut uk : Nat → Nat} {fa vf wh wy hg dp md ov oh dn an fa' vf' wh' wy' hg' dp' md' ov' oh' dn' an' : Int32} {lo sk kp lo' sk' kp' : Rw} {mm mm' : Nat → Int32} {fm fm' : Nat → Bool}
theorem MB.s22 (h : MB σ tb pr ow ft hs u1 u2 ur ul uo ua uc us ut uk fa vf wh wy hg dp md ov oh dn an lo sk kp mm fm) : MB (σ.set 22 (.inr (7, MoF fa' vf' wh' wy' hg' dp' md' ov' oh' dn' an'))) tb pr ow ft hs u1 u2 ur ul uo ua uc us ut uk fa' vf' wh' wy' hg' dp' md' ov' oh' dn' an' lo sk kp mm fm := by
  obtain ⟨h1, h2, h3, h4, h5, h6, h7⟩ := h
  exact ⟨h1.s, h2.sx (Or.inl (by decide)), h3.sx (Or.inl (by decide)), ⟨jl_sn (by decide) h4.1, jl_sn (by decide) h4.2⟩, jl_sn (by decide) h5, jl_sn (by decide) h6, jl_sn (by decide) h7⟩
theorem MB.s38 (h : MB σ tb pr ow ft hs u1 u2 ur ul uo ua uc us ut uk fa vf wh wy hg dp md ov oh dn an lo sk kp mm fm) : MB (σ.set 38 (.inl (0, 6912, .inl mm'))) tb pr ow ft hs u1 u2 ur ul uo ua uc us ut uk fa vf wh wy hg dp md ov oh dn an lo sk kp mm' fm := by
  obtain ⟨h1, h2, h3, h4, h5, h6, h7⟩ := h
  exact ⟨h1.sx (by decide), h2.sx (Or.inr (by decide)), h3.sx (Or.inr (by decide)), ⟨jl_sn (by decide) h4.1, jl_sn (by decide) h4.2⟩, jl_sn (by decide) h5, jl_ss h6, jl_sn (by decide) h7⟩
theorem MB.s39 (h : MB σ tb pr ow ft hs u1 u2 ur ul uo ua uc us ut uk fa vf wh wy hg dp md ov oh dn an lo sk kp mm fm) : MB (σ.set 39 (.inl (1, 24, .inl fun j => bi (fm' j)))) tb pr ow ft hs u1 u2 ur ul uo ua uc us ut uk fa vf wh wy hg dp md ov oh dn an lo sk kp mm fm' := by
  obtain ⟨h1, h2, h3, h4, h5, h6, h7⟩ := h
  exact ⟨h1.sx (by decide), h2.sx (Or.inr (by decide)), h3.sx (Or.inr (by decide)), ⟨jl_sn (by decide) h4.1, jl_sn (by decide) h4.2⟩, jl_sn (by decide) h5, jl_sn (by decide) h6, jl_ss h7⟩
theorem MB.s40 (h : MB σ tb pr ow ft hs u1 u2 ur ul uo ua uc us ut uk fa vf wh wy hg dp md ov oh dn an lo sk kp mm fm) : MB (σ.set 40 (.inl (0, 6, .inl fun j => en (lo' j)))) tb pr ow ft hs u1 u2 ur ul uo ua uc us ut uk fa vf wh wy hg dp md ov oh dn an lo' sk kp mm fm := by
  obtain ⟨h1, h2, h3, h4, h5, h6, h7⟩ := h
  exact ⟨h1.sx (by decide), h2.sx (Or.inr (by decide)), h3.sx (Or.inr (by decide)), ⟨jl_ss h4.1, jl_sn (by decide) h4.2⟩, jl_sn (by decide) h5, jl_sn (by decide) h6, jl_sn (by decide) h7⟩
theorem MB.s41 (h : MB σ tb pr ow ft hs u1 u2 ur ul uo ua uc us ut uk fa vf wh wy hg dp md ov oh dn an lo sk kp mm fm) : MB (σ.set 41 (.inl (0, 8, .inl fun j => en (sk' j)))) tb pr ow ft hs u1 u2 ur ul uo ua uc us ut uk fa vf wh wy hg dp md ov oh dn an lo sk' kp mm fm := by
  obtain ⟨h1, h2, h3, h4, h5, h6, h7⟩ := h
  exact ⟨h1.sx (by decide), h2.sx (Or.inr (by decide)), h3.sx (Or.inr (by decide)), ⟨jl_sn (by decide) h4.1, jl_ss h4.2⟩, jl_sn (by decide) h5, jl_sn (by decide) h6, jl_sn (by decide) h7⟩
theorem MB.s42 (h : MB σ tb pr ow ft hs u1 u2 ur ul uo ua uc us ut uk fa vf wh wy hg dp md ov oh dn an lo sk kp mm fm) : MB (σ.set 42 (.inl (0, 8, .inl fun j => en (kp' j)))) tb pr ow ft hs u1 u2 ur ul uo ua uc us ut uk fa vf wh wy hg dp md ov oh dn an lo sk kp' mm fm := by
  obtain ⟨h1, h2, h3, h4, h5, h6, h7⟩ := h
  exact ⟨h1.sx (by decide), h2.sx (Or.inr (by decide)), h3.sx (Or.inr (by decide)), ⟨jl_sn (by decide) h4.1, jl_sn (by decide) h4.2⟩, jl_ss h5, jl_sn (by decide) h6, jl_sn (by decide) h7⟩
end WMB
/-- the model's LOCALS and STACK are this row -/
def RlM (g lo sk : Rw) (h : Nat) : Prop := (∀ i, i < 6 → lo i = g i) ∧ ∀ j, j < h → sk j = g (7 + j)
/-- MAPS of METHOD m as the model has them -/
def MpM (mm : Nat → Int32) (m : Nat) (A : Nat → Option Rw) : Prop := ∀ pc, pc < 24 → match A pc with
  | none => mm (12 * (24 * m + pc) + 6) = -2
  | some r => ∀ i, i < 12 → mm (12 * (24 * m + pc) + i) = en (r i)
theorem MpM.n {mm : Nat → Int32} {m : Nat} {A : Nat → Option Rw} (h : MpM mm m A) {pc : Nat} (hp : pc < 24) (e : A pc = none) : mm (12 * (24 * m + pc) + 6) = -2 := by
  have := h pc hp
  rw [e] at this
  exact this
theorem MpM.s {mm : Nat → Int32} {m : Nat} {A : Nat → Option Rw} (h : MpM mm m A) {pc : Nat} (hp : pc < 24) {r : Rw} (e : A pc = some r) : ∀ i, i < 12 → mm (12 * (24 * m + pc) + i) = en (r i) := by
  have := h pc hp
  rw [e] at this
  exact this
/-- places of METHODS other than m are as they were -/
def MmF (m : Nat) (mm mm' : Nat → Int32) : Prop := ∀ j, (j < 288 * m ∨ 288 * m + 288 ≤ j) → mm' j = mm j
/-- of the twelve places from b on those that q names hold the row g, all else is as it was -/
def WR (mm mi : Nat → Int32) (b : Nat) (q : Nat → Bool) (g : Rw) : Prop := ∀ j, mi j = if b ≤ j ∧ j < b + 12 ∧ q (j - b) = true then en (g (j - b)) else mm j
theorem WR.z {mm : Nat → Int32} {b : Nat} {g : Rw} {q : Nat → Bool} (hq : ∀ z, z < 12 → q z = false) : WR mm mm b q g := fun j => by
  rw [if_neg]
  rintro ⟨h1, h2, h3⟩
  rw [hq _ (by omega)] at h3
  cases h3
theorem WR.e {mm mi : Nat → Int32} {b : Nat} {g : Rw} {q q' : Nat → Bool} (h : WR mm mi b q g) (hq : ∀ z, z < 12 → q z = q' z) : WR mm mi b q' g := fun j => by
  rw [h j]
  by_cases e : b ≤ j ∧ j < b + 12
  · rw [hq (j - b) (by omega)]
  · rw [if_neg (fun z => e ⟨z.1, z.2.1⟩), if_neg (fun z => e ⟨z.1, z.2.1⟩)]
theorem WR.s {mm mi : Nat → Int32} {b i : Nat} {g : Rw} {q q' : Nat → Bool} {v : Int32} (h : WR mm mi b q g) (hi : i < 12) (hv : v = en (g i)) (hq : ∀ z, z < 12 → q' z = (q z || z == i)) : WR mm (upd mi (b + i) v) b q' g := fun j => by
  by_cases e : j = b + i
  · subst e
    simp only [upd, if_pos]
    rw [if_pos ⟨by omega, by omega, by rw [hq _ (by omega)]; simp⟩, hv]
    congr 2
    omega
  · simp only [upd]
    rw [if_neg e, h j]
    by_cases e1 : b ≤ j ∧ j < b + 12
    · rw [hq (j - b) (by omega), show (j - b == i) = false from by simp; omega, Bool.or_false]
    · rw [if_neg (fun z => e1 ⟨z.1, z.2.1⟩), if_neg (fun z => e1 ⟨z.1, z.2.1⟩)]
theorem WR.at {mm mi : Nat → Int32} {b i : Nat} {g : Rw} {q : Nat → Bool} (h : WR mm mi b q g) (hi : i < 12) (hq : q i = false) : mi (b + i) = mm (b + i) := by
  rw [h (b + i), if_neg]
  rintro ⟨-, -, h3⟩
  rw [show b + i - b = i by omega, hq] at h3
  cases h3
theorem WR.up {mm mi : Nat → Int32} {m pc : Nat} {A : Nat → Option Rw} {g : Rw} {q : Nat → Bool} (h : WR mm mi (12 * (24 * m + pc)) q g) (hA : MpM mm m A) (hg : ∀ z, z < 12 → q z = false → mm (12 * (24 * m + pc) + z) = en (g z)) : MpM mi m (va_up A pc (some g)) := by
  intro p hp
  by_cases e : p = pc
  · subst e
    rw [va_up_self]
    intro i hi
    cases hq : q i with
    | true => rw [h, if_pos ⟨by omega, by omega, by rw [show 12 * (24 * m + p) + i - 12 * (24 * m + p) = i by omega]; exact hq⟩]; congr 2; omega
    | false => rw [h.at hi hq]; exact hg i hi hq
  · rw [va_up_ne _ _ e]
    have := hA p hp
    cases ha : A p with
    | none =>
      rw [ha] at this
      show mi (12 * (24 * m + p) + 6) = -2
      rw [h, if_neg (fun z => by omega)]
      exact this
    | some r =>
      rw [ha] at this
      intro i hi
      rw [h, if_neg (fun z => by omega)]
      exact this i hi
theorem WR.mf {mm mi : Nat → Int32} {m pc : Nat} {g : Rw} {q : Nat → Bool} (hp : pc < 24) (h : WR mm mi (12 * (24 * m + pc)) q g) : MmF m mm mi := fun j hj => by rw [h j, if_neg (fun z => by omega)]
/-- a change so far -/
def WC (r g : Rw) (q : Nat → Bool) (ch : Bool) : Prop := (ch = true → ∃ z, z < 12 ∧ q z = true ∧ g z ≠ r z) ∧ (ch = false → ∀ z, z < 12 → q z = true → g z = r z)
theorem WC.t {r g : Rw} {q q' : Nat → Bool} {ch : Bool} {i : Nat} (h : WC r g q ch) (hi : i < 12) (hq : ∀ z, z < 12 → q' z = (q z || z == i)) (e : g i ≠ r i) : WC r g q' true := ⟨fun _ => ⟨i, hi, by rw [hq i hi]; simp, e⟩, fun z => by cases z⟩
theorem WC.f {r g : Rw} {q q' : Nat → Bool} {ch : Bool} {i : Nat} (h : WC r g q ch) (hi : i < 12) (hq : ∀ z, z < 12 → q' z = (q z || z == i)) (e : g i = r i) : WC r g q' ch := by
  refine ⟨fun c => ?_, fun c z hz h1 => ?_⟩
  · obtain ⟨z, a, b, d⟩ := h.1 c
    exact ⟨z, a, by rw [hq z a, b]; rfl, d⟩
  · rw [hq z hz] at h1
    by_cases e2 : z = i
    · rw [e2]; exact e
    · have : (z == i) = false := by simp [e2]
      rw [this, Bool.or_false] at h1
      exact h.2 c z hz h1
theorem bor1 (ch : Bool) : bi ch ||| nI 1 = bi true := by cases ch <;> decide +kernel
theorem bor0 (ch : Bool) : bi ch ||| nI 0 = bi ch := by cases ch <;> decide +kernel
section WJr
variable {pr : Nat → Option Nat} {r g : Rw} {h : Nat} {ch : Bool}
theorem jrow_at {i : Nat} (h1 : i ≠ 6) (h2 : i < 7 + h) : jrow pr r g h i = join pr (r i) (g i) := by
  unfold jrow
  rw [if_neg h1, if_pos h2]
theorem jrow_out {i : Nat} (hr : rv r h) (hi : i < 12) (h1 : i = 6 ∨ 7 + h ≤ i) : r i = jrow pr r g h i := by
  unfold jrow
  by_cases e : i = 6
  · rw [if_pos e, e]; exact hr.1
  · rw [if_neg e, if_neg (by omega)]
    have := hr.2.2.2.2 (i - 7) (by omega) (by omega)
    rwa [show 7 + (i - 7) = i by omega] at this
theorem WC.mc (hh : h ≤ 5) (w : WC r (jrow pr r g h) (fun z => decide (z < 6) || (decide (7 ≤ z) && decide (z < 7 + h))) ch) : mch pr r g h = ch := by
  unfold mch
  cases ch with
  | true =>
    rw [anyC_t]
    obtain ⟨z, h1, h2, h3⟩ := w.1 rfl
    have hz : z < 6 ∨ (7 ≤ z ∧ z < 7 + h) := by simpa using h2
    rw [jrow_at (by omega) (by omega)] at h3
    exact ⟨z, by omega, by omega, by simp [h3]; omega⟩
  | false =>
    rw [anyC_f]
    intro z _ hz
    by_cases e : z = 6
    · simp [e]
    · have := w.2 rfl z (by omega) (by simp; omega)
      rw [jrow_at e (by omega)] at this
      simp [this]
theorem mbad_f (hn : ∀ j, j < h → join pr (r (7 + j)) (g (7 + j)) ≠ none) : mbad pr r g h = false := by
  unfold mbad
  rw [anyC_f]
  intro j _ hj
  cases q : join pr (r (7 + j)) (g (7 + j)) with
  | none => exact absurd q (hn j (by omega))
  | some _ => rfl
theorem mbad_t {j : Nat} (hj : j < h) (e : join pr (r (7 + j)) (g (7 + j)) = none) : mbad pr r g h = true := by
  unfold mbad
  rw [anyC_t]
  exact ⟨j, by omega, by omega, by rw [e]; rfl⟩
theorem join_ob (hok : ∀ j, ob 6 (pr j)) {hr hg i : Nat} (h1 : rv r hr) (h2 : rv g hg) (hi : i ≠ 6) : ob 16 (join pr (r i) (g i)) := (join_tyv hok (h1.2.2.1 i hi) (h2.2.2.1 i hi)).ob
end WJr
section WRl
variable {g lo sk : Rw} {h n : Nat} {t : Option Nat}
theorem RlM.low (hr : RlM g lo sk h) (hn : n ≤ h) : RlM (low g h n) lo sk (h - n) := by
  refine ⟨fun i hi => ?_, fun j hj => ?_⟩
  · rw [hr.1 i hi]
    show _ = if i = 6 then some (h - n) else if 7 + (h - n) ≤ i ∧ i < 7 + h then none else g i
    rw [if_neg (by omega), if_neg (by omega)]
  · rw [hr.2 j (by omega)]
    show _ = if 7 + j = 6 then some (h - n) else if 7 + (h - n) ≤ 7 + j ∧ 7 + j < 7 + h then none else g (7 + j)
    rw [if_neg (by omega), if_neg (by omega)]
theorem RlM.psh (hr : RlM g lo sk h) : RlM (psh g h t) lo (va_up sk h t) (h + 1) := by
  refine ⟨fun i hi => ?_, fun j hj => ?_⟩
  · rw [hr.1 i hi]
    show _ = if i = 6 then some (h + 1) else if i = 7 + h then t else g i
    rw [if_neg (by omega), if_neg (by omega)]
  · show _ = if 7 + j = 6 then some (h + 1) else if 7 + j = 7 + h then t else g (7 + j)
    rw [if_neg (by omega)]
    by_cases e : j = h
    · rw [e, va_up_self, if_pos rfl]
    · rw [va_up_ne _ _ e, if_neg (by omega)]
      exact hr.2 j (by omega)
theorem RlM.up (hr : RlM g lo sk h) (hn : n < 6) : RlM (va_up g n t) (va_up lo n t) sk h := by
  refine ⟨fun i hi => ?_, fun j hj => ?_⟩
  · by_cases e : i = n
    · rw [e, va_up_self, va_up_self]
    · rw [va_up_ne _ _ e, va_up_ne _ _ e]; exact hr.1 i hi
  · rw [va_up_ne _ _ (by omega)]; exact hr.2 j hj
theorem ob_up {f : Rw} {n : Nat} {t : Option Nat} (h : ∀ j, ob 16 (f j)) (ht : ob 16 t) : ∀ j, ob 16 (va_up f n t j) := by
  intro j
  by_cases e : j = n
  · rw [e, va_up_self]; exact ht
  · rw [va_up_ne _ _ e]; exact h j
end WRl
theorem MmF.refl {m : Nat} {mm : Nat → Int32} : MmF m mm mm := fun _ _ => rfl
theorem MmF.trans {m : Nat} {a b c : Nat → Int32} (h : MmF m a b) (h2 : MmF m b c) : MmF m a c := fun j hj => (h2 j hj).trans (h j hj)
