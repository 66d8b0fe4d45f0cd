/-! the model's cells of what is made, of its MAPS -/
def MoH (σ : jl_S) (ks : Nat → Int32) (kc : Nat → Nat) (kv : Nat → Int32) : Prop :=
  σ[50]? = some (.inl (0, 41, .inl ks)) ∧ σ[51]? = some (.inl (0, 41, .inl fun j => nI (kc j))) ∧ σ[52]? = some (.inl (0, 738, .inl kv))
def MoP (σ : jl_S) (mm : Nat → Int32) : Prop := σ[38]? = some (.inl (0, 6912, .inl mm))
