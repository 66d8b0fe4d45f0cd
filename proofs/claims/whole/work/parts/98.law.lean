theorem law_walk (l : Launch) (hl : l.stackTraces = false) {b L : Nat} {xs : Nat → Int32} (hL : L ≤ 3072) (G : jl_G) (hG : G.2.2.2.2.2 = (b, L, xs)) : ∃ σ', jl_W l G m_La_law (0, 0) 0 [some (.retAddr b), none, none, none, none, none, none] [] [] (.inl (some (.int 1))) σ' := by
  sorry
