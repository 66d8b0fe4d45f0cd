/-! the model's cells of METHODS: PARAMETERS, RESULT, length, INSTRUCTIONS, CATCHERS -/
def MoM (σ : jl_S) (u1 u2 : Nat → Option Nat) (ur ul uo : Nat → Nat) (ua : Nat → Int32) (uc us ut uk : Nat → Nat) : Prop :=
  σ[28]? = some (.inl (0, 24, .inl fun j => en (u1 j))) ∧ σ[29]? = some (.inl (0, 24, .inl fun j => en (u2 j))) ∧ σ[30]? = some (.inl (0, 24, .inl fun j => nI (ur j))) ∧ σ[31]? = some (.inl (0, 24, .inl fun j => nI (ul j))) ∧ σ[32]? = some (.inl (0, 576, .inl fun j => nI (uo j))) ∧ σ[33]? = some (.inl (0, 576, .inl ua)) ∧ σ[34]? = some (.inl (0, 24, .inl fun j => nI (uc j))) ∧ σ[35]? = some (.inl (0, 48, .inl fun j => nI (us j))) ∧ σ[36]? = some (.inl (0, 48, .inl fun j => nI (ut j))) ∧ σ[37]? = some (.inl (0, 48, .inl fun j => nI (uk j)))
def noM (tb hs : Nat → Bool) (k sl : Nat) : Bool := !tb k || !hs (4 * k + sl)
theorem MoM.sx {σ : jl_S} {u1 u2 : Nat → Option Nat} {ur ul uo : Nat → Nat} {ua : Nat → Int32} {uc us ut uk : Nat → Nat} {b : Nat} {d : jl_C} (h : MoM σ u1 u2 ur ul uo ua uc us ut uk) (hb : b < 28 ∨ 37 < b) : MoM (σ.set b d) u1 u2 ur ul uo ua uc us ut uk := by
  obtain ⟨h28, h29, h30, h31, h32, h33, h34, h35, h36, h37⟩ := h
  exact ⟨jl_sn (by omega) h28, jl_sn (by omega) h29, jl_sn (by omega) h30, jl_sn (by omega) h31, jl_sn (by omega) h32, jl_sn (by omega) h33, jl_sn (by omega) h34, jl_sn (by omega) h35, jl_sn (by omega) h36, jl_sn (by omega) h37⟩
