/-! the law's start (wip/gen/p97zy.py) -/
section JLz
variable {l : Launch} {G : jl_G} {σ : jl_S}
/-- a new object: nothing is there -/
def U0 : Un := mkU (fun _ => false) pr0 (fun _ => 0) (fun _ => 0) (fun _ => 0) (fun _ => false) (fun _ => d0 none none 0) (fun _ _ => none) false (-1) (-1) (-1) (nI 0) (nI 0) ⟨0, fun _ => 0, fun _ => some 0, fun _ => 0, fun _ => none⟩
theorem pr0_n {j : Nat} (h : j < 6) : pr0 j = none := by unfold pr0; rw [if_pos h]
theorem tyv0 : tyv (some 0) := fun a e => by cases e; exact ⟨by decide, Or.inl (by decide)⟩
theorem UI0 : UI U0 := by
  refine ⟨⟨fun j => ?_, fun j hj => Nat.zero_le _, fun j hj => Nat.zero_le _, fun j hj p e => ?_, fun j hj e => rfl, fun j hj e => ⟨rfl, pr0_n hj⟩⟩, fun j => tyv0, fun m hm => absurd (show false = true from hm) (by decide), fun m hm => absurd (show false = true from hm) (by decide), fun c k sl _ _ _ _ h => absurd (show false = true from h) (by decide), fun h => absurd (show false = true from h) (by decide), fun m => AV_none, fun m _ => rfl, ⟨Nat.zero_le _, fun j => ob_s (by decide), fun j => Nat.zero_le _⟩⟩
  · show ob 6 (pr0 j)
    unfold pr0
    split
    · intro a e; cases e
    · exact ob_s (by decide)
  · have e : pr0 j = some p := e
    rw [pr0_n hj] at e
    cases e
theorem gok0 : gok (fun _ => some 0) := fun j _ => tyv0
theorem RC0 {τ : jl_S} (hJ : JcAt σ false) (hW : WoAt σ (fun _ => false) pr0 (fun _ => 0) (fun _ => 0) (fun _ => 0) (fun _ => none)) (hK : CkAt σ) (hV : VeAt σ (-1) (-1)) (h10 : σ[10]? = some (.inl (0, 12, .inl fun j => en ((fun _ => some 0 : Rw) j))) ∧ σ[11]? = some (.inl (0, 12, .inl fun j => en ((fun _ => some 0 : Rw) j))) ∧ σ[12]? = some (.inl (0, 12, .inl fun j => en ((fun _ => some 0 : Rw) j)))) (hZ : KZ σ σ ⟨0, fun _ => 0, fun _ => some 0, fun _ => 0, fun _ => none⟩ (-1) (nI 0) (nI 0) (nI 0)) (hf : ∀ i, i < 22 → τ[i]? = σ[i]?) (hL : τ.length = 54) : RC τ U0 := by
  obtain ⟨w1, w2, w3, w4, w5, w6, w7⟩ := hW
  have g : ∀ {j : Nat} {c : jl_C}, j < 22 → σ[j]? = some c → τ[j]? = some c := fun h1 e => (hf _ h1).trans e
  have hmt : mtH U0.hs (fun _ => none) := fun m => rfl
  have hM : ∀ m a, (fun _ => none : Nat → Option Nat) m = some a → MeD τ a (U0.D m) ((fun _ _ => 0 : Nat → Nat → Int32) m) ((fun _ _ => false : Nat → Nat → Bool) m) := fun m a e => by cases e
  refine ⟨fun _ => none, fun _ => some 0, fun _ => some 0, fun _ => some 0, fun _ _ => 0, fun _ _ => false, nI 0, g (by decide) hJ, ⟨⟨g (by decide) w1, g (by decide) w2, g (by decide) w3, g (by decide) w4, g (by decide) w5, g (by decide) w6, g (by decide) w7⟩, g (by decide) hK, SgC_of UI0 hmt hM, hM, g (by decide) hV, g (by decide) h10.1, g (by decide) h10.2.1, g (by decide) h10.2.2⟩, gok0, gok0, hZ.fr (fun i _ h2 => hf i h2), hmt, ⟨fun j a e => (by cases e), fun i j a e => (by cases e), fun j a e => (by cases e), ?_, ?_⟩, fun m hm => absurd (show false = true from hm) (by decide)⟩
  · rw [hL]; decide
  · rw [hL]
theorem RM0 (hO : MoO σ 0 0 (-1) (-1) 0 0 0 (-1) 0 0 0) (h24 : σ[24]? = some (.inl (0, 6, .inl fun j => en (pr0 j)))) (h38 : ∃ mm : Nat → Int32, σ[38]? = some (.inl (0, 6912, .inl mm)) ∧ ∀ j, j < 6912 → mm j = -2) (hA : ∀ i, i < 30 → i ≠ 1 → i ≠ 15 → σ[23 + i]? = some (mA i)) : RM σ U0 0 := by
  obtain ⟨mm, hm, hm2⟩ := h38
  have a : ∀ i, i < 30 → i ≠ 1 → i ≠ 15 → σ[23 + i]? = some (mA i) := hA
  refine ⟨0, 0, fun _ => some 0, fun _ => some 0, fun _ => 0, fun _ => 0, fun _ => 0, fun _ => 0, fun _ => 0, fun _ => 0, fun _ => 0, fun _ => 0, fun _ => some 0, mm, fun _ => false, ⟨fun _ => 0, fun _ => 0, fun _ => 0, fun _ => 0, fun _ => 0, fun _ => 0, fun _ => 0, fun _ => 0, fun _ => 0, fun _ => 0, fun _ => some 0, fun _ => some 0, hO, a 20 (by decide) (by decide) (by decide), a 21 (by decide) (by decide) (by decide), a 22 (by decide) (by decide) (by decide), a 23 (by decide) (by decide) (by decide), a 24 (by decide) (by decide) (by decide), a 25 (by decide) (by decide) (by decide), a 26 (by decide) (by decide) (by decide), ⟨a 27 (by decide) (by decide) (by decide), a 28 (by decide) (by decide) (by decide), a 29 (by decide) (by decide) (by decide)⟩, (fun q hq => absurd hq (Nat.not_lt_zero _)), trivial, ⟨⟨a 17 (by decide) (by decide) (by decide), a 18 (by decide) (by decide) (by decide)⟩, fun _ => ob_s (by decide), fun _ => ob_s (by decide)⟩, FrN.refl⟩, ⟨a 0 (by decide) (by decide) (by decide), h24, a 2 (by decide) (by decide) (by decide), a 3 (by decide) (by decide) (by decide), a 4 (by decide) (by decide) (by decide)⟩, ⟨a 5 (by decide) (by decide) (by decide), a 6 (by decide) (by decide) (by decide), a 7 (by decide) (by decide) (by decide), a 8 (by decide) (by decide) (by decide), a 9 (by decide) (by decide) (by decide), a 10 (by decide) (by decide) (by decide), a 11 (by decide) (by decide) (by decide), a 12 (by decide) (by decide) (by decide), a 13 (by decide) (by decide) (by decide), a 14 (by decide) (by decide) (by decide)⟩, a 19 (by decide) (by decide) (by decide), hm, a 16 (by decide) (by decide) (by decide), ⟨⟨fun m _ => ⟨ob_s (by decide), ob_s (by decide), (by decide : 0 < 16), Nat.zero_le _, Nat.zero_le _, fun z => (by cases z)⟩, fun j _ => (by decide : 0 < 26), fun j _ => ⟨(by decide : 0 < 1024), (by decide : 0 < 24), (by decide : 0 < 7)⟩⟩, fun m => ⟨tyv0, tyv0, tyv0⟩, fun m _ h => absurd (show false = true from h) (by decide), fun m _ _ => ⟨rfl, rfl, rfl, rfl, fun p _ => ⟨rfl, rfl⟩, rfl, fun i _ => ⟨(show 0 = 0 / 32 by decide), (show 0 = 0 % 32 by decide), rfl, rfl⟩⟩⟩, fun m hm4 pc hpc => ?_⟩
  show mm (12 * (24 * m + pc) + 6) = -2
  exact hm2 _ (by omega)
theorem w_La_law_0 : jl_nw m_La_law 8 6 4 = true := by decide +kernel
theorem w_La_law_8 : jl_nw m_La_law 59 7 41 = true := by decide +kernel
theorem k_La_law_58 : jl_ci m_La_law m_JC_init 58 0 = true := by decide +kernel
theorem k_La_law_61 : jl_ci m_La_law m_Mo_init 61 0 = true := by decide +kernel
theorem d_La_law_0 : decode m_La_law.2.1 0 = .ok (.new 8, 3) := by decide +kernel
theorem d_La_law_3 : decode m_La_law.2.1 3 = .ok (.dup, 1) := by decide +kernel
theorem d_La_law_4 : decode m_La_law.2.1 4 = .ok (.invokespecial 58, 3) := by decide +kernel
theorem d_La_law_7 : decode m_La_law.2.1 7 = .ok (.astore_n 1, 1) := by decide +kernel
theorem d_La_law_8 : decode m_La_law.2.1 8 = .ok (.new 59, 3) := by decide +kernel
theorem d_La_law_11 : decode m_La_law.2.1 11 = .ok (.dup, 1) := by decide +kernel
theorem d_La_law_12 : decode m_La_law.2.1 12 = .ok (.invokespecial 61, 3) := by decide +kernel
theorem d_La_law_15 : decode m_La_law.2.1 15 = .ok (.astore_n 2, 1) := by decide +kernel
theorem d_La_law_16 : decode m_La_law.2.1 16 = .ok (.iconst 1, 1) := by decide +kernel
theorem d_La_law_17 : decode m_La_law.2.1 17 = .ok (.newarray .long, 2) := by decide +kernel
theorem d_La_law_19 : decode m_La_law.2.1 19 = .ok (.astore_n 3, 1) := by decide +kernel
theorem d_La_law_20 : decode m_La_law.2.1 20 = .ok (.iconst 0, 1) := by decide +kernel
theorem d_La_law_21 : decode m_La_law.2.1 21 = .ok (.istore 4, 2) := by decide +kernel
theorem law_start (hl : l.stackTraces = false) {P : jl_O → jl_S → Prop} (hL : G.2.2.2.2.2.2.1 ≤ 3072) (hP : ∀ σ', P (.inl (some (.int (nI 1)))) σ') : jl_E l G m_La_law (0, 0) 0 [some (.retAddr G.2.2.2.2.2.1), none, none, none, none, none, none] [] [] P := by
  refine er_newOL (b := 0) (fs := [.null, .null, .null, .int (0)]) d_La_law_0 w_La_law_0 (by decide) rfl (by decide) (by decide) ?_
  show jl_E l G m_La_law (1, 4) 3 [some (.retAddr G.2.2.2.2.2.1), none, none, none, none, none, none] [.ref 0] (([] : jl_S) ++ ([.inr (6, [.null, .null, .null, .int (0)])] : jl_S)) P
  obtain ⟨o1, σ1, hp1, hm1⟩ := jc_init2 (G := G) (σ := ([] : jl_S) ++ ([.inr (6, [.null, .null, .null, .int (0)])] : jl_S)) hl rfl rfl
  obtain ⟨eo1, hL1, hJ, hW, hK, hV, h10, hZ⟩ := hp1
  subst eo1
  refine er_dup d_La_law_3 rfl ?_
  refine er_callI (As := []) d_La_law_4 k_La_law_58 rfl (Nat.le_of_ble_eq_true rfl) (by decide) (by decide) hm1 ?_
  show jl_E l G m_La_law (22, 1928) 7 [some (.retAddr G.2.2.2.2.2.1), none, none, none, none, none, none] [.ref 0] (σ1) P
  refine er_astore_n d_La_law_7 (by decide) ?_
  show jl_E l G m_La_law (22, 1928) 8 [some (.retAddr G.2.2.2.2.2.1), some (.ref 0), none, none, none, none, none] [] (σ1) P
  refine er_newOL (b := 22) (fs := [.int (0), .null, .null, .null, .null, .null, .null, .null, .null, .null, .null, .null, .null, .null, .null, .null, .int (0), .int (0), .int (0), .null, .null, .null, .null, .int (0), .null, .null, .null, .null, .null, .null, .null, .null, .int (0), .null, .null, .null, .int (0), .int (0), .int (0), .int (0), .int (0)]) d_La_law_8 w_La_law_8 (by decide) hL1 (by decide) (by decide) ?_
  show jl_E l G m_La_law (23, 1969) 11 [some (.retAddr G.2.2.2.2.2.1), some (.ref 0), none, none, none, none, none] [.ref 22] (σ1 ++ ([.inr (7, [.int (0), .null, .null, .null, .null, .null, .null, .null, .null, .null, .null, .null, .null, .null, .null, .null, .int (0), .int (0), .int (0), .null, .null, .null, .null, .int (0), .null, .null, .null, .null, .null, .null, .null, .null, .int (0), .null, .null, .null, .int (0), .int (0), .int (0), .int (0), .int (0)])] : jl_S)) P
  obtain ⟨o2, σ2, hp2, hm2⟩ := mo_init (G := G) (σ := σ1 ++ ([.inr (7, [.int (0), .null, .null, .null, .null, .null, .null, .null, .null, .null, .null, .null, .null, .null, .null, .null, .int (0), .int (0), .int (0), .null, .null, .null, .null, .int (0), .null, .null, .null, .null, .null, .null, .null, .null, .int (0), .null, .null, .null, .int (0), .int (0), .int (0), .int (0), .int (0)])] : jl_S)) (P := fun o σ' => o = .inl none ∧ σ'.length = 53 ∧ MoO σ' 0 0 (-1) (-1) 0 0 0 (-1) 0 0 0 ∧ σ'[24]? = some (.inl (0, 6, .inl fun j => en (pr0 j))) ∧ (∃ mm : Nat → Int32, σ'[38]? = some (.inl (0, 6912, .inl mm)) ∧ ∀ j, j < 6912 → mm j = -2) ∧ (∀ i, i < 22 → σ'[i]? = (σ1 ++ ([.inr (7, [.int (0), .null, .null, .null, .null, .null, .null, .null, .null, .null, .null, .null, .null, .null, .null, .null, .int (0), .int (0), .int (0), .null, .null, .null, .null, .int (0), .null, .null, .null, .null, .null, .null, .null, .null, .int (0), .null, .null, .null, .int (0), .int (0), .int (0), .int (0), .int (0)])] : jl_S))[i]?) ∧ ∀ i, i < 30 → i ≠ 1 → i ≠ 15 → σ'[23 + i]? = some (mA i)) hl (by rw [List.length_append, hL1]; rfl) (jl_an hL1) (fun σ' a1 a2 a3 a4 a5 a6 => ⟨rfl, a1, a2, a3, a4, a5, a6⟩)
  obtain ⟨eo2, hL2, hO, h24, h38, hf2, hA⟩ := hp2
  subst eo2
  refine er_dup d_La_law_11 rfl ?_
  refine er_callI (As := []) d_La_law_12 k_La_law_61 rfl (Nat.le_of_ble_eq_true rfl) (by decide) (by decide) hm2 ?_
  show jl_E l G m_La_law (53, 11548) 15 [some (.retAddr G.2.2.2.2.2.1), some (.ref 0), none, none, none, none, none] [.ref 22] (σ2) P
  refine er_astore_n d_La_law_15 (by decide) ?_
  show jl_E l G m_La_law (53, 11548) 16 [some (.retAddr G.2.2.2.2.2.1), some (.ref 0), some (.ref 22), none, none, none, none] [] (σ2) P
  refine er_iconst (nI 1) d_La_law_16 (by decide) ?_
  refine er_newJL (N := 1) (b := 53) d_La_law_17 hL2 rfl (by decide) (by decide) (by decide) ?_
  show jl_E l G m_La_law (54, 11549) 19 [some (.retAddr G.2.2.2.2.2.1), some (.ref 0), some (.ref 22), none, none, none, none] [.ref 53] (σ2 ++ ([.inl (2, 1, .inr (.inl fun _ => 0))] : jl_S)) P
  refine er_astore_n d_La_law_19 (by decide) ?_
  show jl_E l G m_La_law (54, 11549) 20 [some (.retAddr G.2.2.2.2.2.1), some (.ref 0), some (.ref 22), some (.ref 53), none, none, none] [] (σ2 ++ ([.inl (2, 1, .inr (.inl fun _ => 0))] : jl_S)) P
  refine er_iconst (nI 0) d_La_law_20 (by decide) ?_
  refine er_istore d_La_law_21 (by decide) ?_
  show jl_E l G m_La_law (54, 11549) 23 [some (.retAddr G.2.2.2.2.2.1), some (.ref 0), some (.ref 22), some (.ref 53), some (.int (nI (6 * 0))), none, none] [] (σ2 ++ ([.inl (2, 1, .inr (.inl fun _ => 0))] : jl_S)) P
  have q1 : ∀ i, i < 53 → (σ2 ++ ([.inl (2, 1, .inr (.inl fun _ => 0))] : jl_S))[i]? = σ2[i]? := fun i hi => List.getElem?_append_left (by rw [hL2]; exact hi)
  have q2 : ∀ i, i < 22 → (σ1 ++ ([.inr (7, [.int (0), .null, .null, .null, .null, .null, .null, .null, .null, .null, .null, .null, .null, .null, .null, .null, .int (0), .int (0), .int (0), .null, .null, .null, .null, .int (0), .null, .null, .null, .null, .null, .null, .null, .null, .int (0), .null, .null, .null, .int (0), .int (0), .int (0), .int (0), .int (0)])] : jl_S))[i]? = σ1[i]? := fun i hi => List.getElem?_append_left (by rw [hL1]; exact hi)
  refine law_loop hl hL hP 514 0 _ U0 0 (fun _ => 0) 54 11549 (by omega) (by omega) (by omega) (by omega) UI0 (RC0 hJ hW hK hV h10 hZ (fun i hi => (q1 i (by omega)).trans ((hf2 i hi).trans (q2 i hi))) (by rw [List.length_append, hL2]; rfl)) (RM0 ((q1 22 (by decide)).trans hO) ((q1 24 (by decide)).trans h24) ?_ (fun i h1 h2 h3 => (q1 (23 + i) (by omega)).trans (hA i h1 h2 h3))) (jl_an hL2)
  obtain ⟨mm, a1, a2⟩ := h38
  exact ⟨mm, (q1 38 (by decide)).trans a1, a2⟩
end JLz
