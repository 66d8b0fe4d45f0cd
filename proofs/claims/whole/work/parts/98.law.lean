theorem law_walk (l : Launch) (hl : l.stackTraces = false) {b L : Nat} {xs : Nat → Int32} (hL : L ≤ 3072) (G : jl_G) (hG : G.2.2.2.2.2 = (b, L, xs)) : ∃ σ', jl_W l G m_La_law (0, 0) 0 [some (.retAddr b), none, none, none, none, none, none] [] [] (.inl (some (.int 1))) σ' := by
  have e1 : G.2.2.2.2.2.1 = b := by rw [hG]
  have e2 : G.2.2.2.2.2.2.1 ≤ 3072 := by rw [hG]; exact hL
  obtain ⟨o, σ', ho, k⟩ := law_start (l := l) (G := G) (P := fun o _ => o = .inl (some (.int 1))) hl e2 (fun _ => by rw [nI_one])
  rw [e1, ho] at k
  exact ⟨σ', k⟩
