/-! words of the class's Store: what is made -/
def FrS (σ σ' : jl_S) : Prop := σ'.length = σ.length ∧ ∀ i, (i < 14 ∨ 17 < i) → σ'[i]? = σ[i]?
theorem FrS.refl {σ : jl_S} : FrS σ σ := ⟨rfl, fun _ _ => rfl⟩
theorem FrS.trans {σ σ1 σ2 : jl_S} (h : FrS σ σ1) (h2 : FrS σ1 σ2) : FrS σ σ2 := ⟨h2.1.trans h.1, fun i h3 => (h2.2 i h3).trans (h.2 i h3)⟩
theorem FrS.set {b : Nat} {σ σ1 : jl_S} {c : jl_C} (h : FrS σ σ1) (hb : 14 ≤ b ∧ b ≤ 17) : FrS σ (σ1.set b c) := ⟨(List.length_set ..).trans h.1, fun i h3 => by rw [List.getElem?_set_ne (by omega)]; exact h.2 i h3⟩
section WSt
variable {σ : jl_S} {ss ss' : Nat → Nat} {sy sy' : Nat → Option Nat} {sv sv' : Nat → Int32} {sm sm' : Nat}
theorem StAt.s14 (h : StAt σ ss sy sv sm) : StAt (σ.set 14 (.inr (3, [.ref 15, .ref 16, .ref 17, .int (nI sm')]))) ss sy sv sm' := ⟨jl_ss h.1, jl_sn (by decide) h.2.1, jl_sn (by decide) h.2.2.1, jl_sn (by decide) h.2.2.2⟩
theorem StAt.s15 (h : StAt σ ss sy sv sm) : StAt (σ.set 15 (.inl (0, 40, .inl fun j => nI (ss' j)))) ss' sy sv sm := ⟨jl_sn (by decide) h.1, jl_ss h.2.1, jl_sn (by decide) h.2.2.1, jl_sn (by decide) h.2.2.2⟩
theorem StAt.s16 (h : StAt σ ss sy sv sm) : StAt (σ.set 16 (.inl (0, 720, .inl fun j => en (sy' j)))) ss sy' sv sm := ⟨jl_sn (by decide) h.1, jl_sn (by decide) h.2.1, jl_ss h.2.2.1, jl_sn (by decide) h.2.2.2⟩
theorem StAt.s17 (h : StAt σ ss sy sv sm) : StAt (σ.set 17 (.inl (0, 720, .inl sv'))) ss sy sv' sm := ⟨jl_sn (by decide) h.1, jl_sn (by decide) h.2.1, jl_sn (by decide) h.2.2.1, jl_ss h.2.2.2⟩
end WSt
/-- places b .. b + n - 1 hold g, all else is as it was -/
def wrt {α : Type} (f f' : Nat → α) (b n : Nat) (g : Nat → α) : Prop := ∀ j, f' j = if b ≤ j ∧ j < b + n then g (j - b) else f j
theorem wrt.z {α : Type} {f : Nat → α} {b : Nat} {g : Nat → α} : wrt f f b 0 g := fun j => by rw [if_neg (by omega)]
theorem wrt.s {α : Type} {f f' : Nat → α} {b n : Nat} {g : Nat → α} {v : α} (h : wrt f f' b n g) (hv : v = g n) : wrt f (va_up f' (b + n) v) b (n + 1) g := by
  intro j
  by_cases e : j = b + n
  · rw [e, va_up_self, if_pos (by omega), hv]; congr 1; omega
  · rw [va_up_ne _ _ e, h j]
    by_cases q : b ≤ j ∧ j < b + n
    · rw [if_pos q, if_pos (by omega)]
    · rw [if_neg q, if_neg (by omega)]
theorem upd_up {f : Nat → Int32} {k : Nat} {v : Int32} : upd f k v = va_up f k v := by funext j; rfl
