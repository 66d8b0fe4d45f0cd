/-! the cells of the class's verifier, machine and store -/
def VeAt (σ : jl_S) (wr wz : Int32) : Prop := σ[9]? = some (.inr (4, [.ref 1, .ref 8, .ref 10, .ref 11, .ref 12, .int wr, .int wz]))
def MaAt (σ : jl_S) (tp su dt dq aw : Int32) : Prop := σ[13]? = some (.inr (1, [.ref 1, .ref 8, .ref 14, .ref 18, .ref 19, .ref 20, .ref 21, .int tp, .int su, .int dt, .int dq, .int aw]))
def StAt (σ : jl_S) (ss : Nat → Nat) (sy : Nat → Option Nat) (sv : Nat → Int32) (sm : Nat) : Prop :=
  σ[14]? = some (.inr (3, [.ref 15, .ref 16, .ref 17, .int (nI sm)])) ∧ σ[15]? = some (.inl (0, 40, .inl fun j => nI (ss j))) ∧ σ[16]? = some (.inl (0, 720, .inl fun j => en (sy j))) ∧ σ[17]? = some (.inl (0, 720, .inl sv))
/-- place i of OBJECT or ROW n is there -/
def stH (ss : Nat → Nat) (sm : Nat) (n i : Int32) : Bool := if n < 0 then false else if nI sm ≤ n then false else if i < 0 then false else if nI (ss n.toNatClampNeg) ≤ i then false else true
theorem stH_of {ss : Nat → Nat} {sm : Nat} {n i : Int32} (hs : sm ≤ 40) (hz : ∀ j, j < 40 → ss j ≤ 18) (h : stH ss sm n i = true) : ∃ a b, a < sm ∧ b < ss a ∧ n = nI a ∧ i = nI b := by
  unfold stH at h
  by_cases h1 : n < 0
  · rw [if_pos h1] at h; cases h
  rw [if_neg h1] at h
  by_cases h2 : nI sm ≤ n
  · rw [if_pos h2] at h; cases h
  rw [if_neg h2] at h
  by_cases h3 : i < 0
  · rw [if_pos h3] at h; cases h
  rw [if_neg h3] at h
  obtain ⟨a, ha, e, -⟩ := pk_mu h1 h2 (by omega)
  subst e
  rw [nI_clamp (by omega)] at h
  have hza := hz a (by omega)
  by_cases h4 : nI (ss a) ≤ i
  · rw [if_pos h4] at h; cases h
  obtain ⟨b, hb, e2, -⟩ := pk_mu h3 h4 (by omega)
  exact ⟨a, b, ha, hb, rfl, e2⟩
