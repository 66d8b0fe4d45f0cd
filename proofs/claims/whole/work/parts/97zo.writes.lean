/-! define, field, code, catcher: class and model answer alike and hold the same afterwards -/
section WWr
variable {l : Launch} {G : jl_G} {σ σ' : jl_S} {U U' : Un} {mt : Nat → Option Nat} {bf gv jn : Rw} {MP : Nat → Nat → Int32} {FH : Nat → Nat → Bool} {aw : Int32} {u1 u2 : Nat → Option Nat} {ur ul uo : Nat → Nat} {ua : Nat → Int32} {uc us ut uk : Nat → Nat} {d : MDt} {m m' o k sl : Nat} {x : Int32}
theorem RC.w (hU' : UI U') (hj : JcAt σ' U'.vf) (hw : WoAt σ' U'.tb U'.pr U'.ow U'.fi U'.ft mt) (hgv : GV σ U.tb U.pr U.ow U.fi U.ft mt (sgU U) U.D U.wr U.wz bf gv jn MP FH) (hbf : gok bf) (hgk : gok gv) (hz : KZ σ σ U.H U.su U.dt U.dn aw) (hmt : mtH U.hs mt) (hrl : RL mt σ.length) (hA : ∀ m, U.hs m = true → MpC (MP m) (U.A m)) (hf : ∀ i, 8 ≤ i → σ'[i]? = σ[i]?) (hL : σ'.length = σ.length) (e1 : U'.D = U.D) (e2 : U'.hs = U.hs) (e3 : U'.A = U.A) (e4 : U'.wr = U.wr) (e5 : U'.wz = U.wz) (e6 : U'.H = U.H) (e7 : U'.su = U.su) (e8 : U'.dt = U.dt) (e9 : U'.dn = U.dn) : RC σ' U' := by
  obtain ⟨w, v2, v3, v4, v5, v6, v7, v8⟩ := hgv
  have g : ∀ {j : Nat} {c : jl_C}, 8 ≤ j → σ[j]? = some c → σ'[j]? = some c := fun h1 e => (hf _ h1).trans e
  have hM : ∀ m a, mt m = some a → MeD σ' a (U'.D m) (MP m) (FH m) := fun m a e => by
    rw [e1]
    exact (v4 m a e).fr9 (fun i h1 h2 => hf i (by have := (hrl.1 m a e).1; omega))
  have hm' : mtH U'.hs mt := by rw [e2]; exact hmt
  refine ⟨mt, bf, gv, jn, MP, FH, aw, hj, ⟨hw, g (by decide) v2, SgC_of hU' hm' hM, hM, ?_, g (by decide) v6, g (by decide) v7, g (by decide) v8⟩, hbf, hgk, ?_, hm', ?_, ?_⟩
  · rw [e4, e5]; exact g (by decide) v5
  · rw [e6, e7, e8, e9]; exact hz.fr (fun i h1 h2 => hf i (by omega))
  · rw [hL]; exact hrl
  · rw [e2, e3]; exact hA
theorem co_define (hl : l.stackTraces = false) (hU : UI U) (hC : RC σ U) {k b : Int32} : Two l G m_JC_define m_Mo_define [xA, xS] [.int k, .int b] σ U := by
  obtain ⟨mt, bf, gv, jn, MP, FH, aw, hj, hgv, hbf, hgk, hz, hmt, hrl, hA⟩ := id hC
  have hw := hgv.1
  by_cases h : k < nI 0 ∨ nI 5 < k
  · exact Two.rd (c := 1) (v := nI 0) hU hC (by decide) (jc_define_A hl hj hw h) (fun σ1 fa hg an u1 u2 ur ul uo ua uc us ut uk kp mm fm hx => mo_define_A hl hx.1.o hx.2.1 (Or.inl (rg_out (by decide) h)))
  obtain ⟨k, hk, e⟩ := rg_of (by decide) h
  subst e
  by_cases h : b < -1 ∨ nI 5 < b
  · exact Two.rd (c := 1) (v := nI 0) hU hC (by decide) (jc_define_B hl hj hw hk h) (fun σ1 fa hg an u1 u2 ur ul uo ua uc us ut uk kp mm fm hx => mo_define_A hl hx.1.o hx.2.1 (Or.inr h))
  obtain ⟨b, hb, e⟩ := rg_enf (by decide) h
  subst e
  have h1 := jc_define (G := G) hl hj hw hk hb hU.1.2.2.1
  cases hd : dfOk U.tb k b with
  | false =>
    rw [if_neg (by rw [hd]; decide), if_neg (by rw [hd]; decide)] at h1
    refine Two.rd (c := 2) (v := nI 0) hU hC (by decide) h1 (fun σ1 fa hg an u1 u2 ur ul uo ua uc us ut uk kp mm fm hx => ?_)
    have z := mo_define (G := G) hl hx.1.o hx.2.1 hk hb
    rw [if_neg (by rw [hd]; decide), if_neg (by rw [hd]; decide)] at z
    exact z
  | true =>
    rw [if_pos hd, if_pos hd] at h1
    have hU' := hU.define hk hb hd
    obtain ⟨w1, w2, w3, w4, w5, w6, w7⟩ := hw
    refine ⟨0, nI (cnt (va_up U.tb k true) 6 0), uDefine U k b, hU', Nat.zero_le _, ⟨_, _, ⟨rfl, ?_, (((FrC.refl.set (by decide)).set (by decide)).set (by decide)).set (by decide)⟩, h1⟩, fun σ1 fa hM => ?_⟩
    · refine RC.w (U := U) hU' (jl_ss (jl_sn (by decide) (jl_sn (by decide) (jl_sn (by decide) hj)))) ⟨jl_sn (by decide) (jl_sn (by decide) (jl_sn (by decide) (jl_sn (by decide) w1))), jl_sn (by decide) (jl_sn (by decide) (jl_sn (by decide) (jl_ss w2))), jl_sn (by decide) (jl_sn (by decide) (jl_ss (jl_sn (by decide) w3))), jl_sn (by decide) (jl_sn (by decide) (jl_sn (by decide) (jl_sn (by decide) w4))), jl_sn (by decide) (jl_ss (jl_sn (by decide) (jl_sn (by decide) w5))), jl_sn (by decide) (jl_sn (by decide) (jl_sn (by decide) (jl_sn (by decide) w6))), jl_sn (by decide) (jl_sn (by decide) (jl_sn (by decide) (jl_sn (by decide) w7)))⟩ hgv hbf hgk hz hmt hrl hA (fun i hi => ?_) ?_ rfl rfl rfl rfl rfl rfl rfl rfl rfl
      · rw [List.getElem?_set_ne (by omega), List.getElem?_set_ne (by omega), List.getElem?_set_ne (by omega), List.getElem?_set_ne (by omega)]
      · rw [List.length_set, List.length_set, List.length_set, List.length_set]
    · obtain ⟨hg, an, u1, u2, ur, ul, uo, ua, uc, us, ut, uk, kp, mm, fm, hx⟩ := hM
      have z := mo_define (G := G) hl hx.1.o hx.2.1 hk hb
      rw [if_pos hd, if_pos hd] at z
      obtain ⟨x1, ⟨y1, y2, y3, y4, y5⟩, x3, x4, x5, x6, x7, x8⟩ := hx
      refine ⟨_, _, ⟨rfl, ⟨hg, an, u1, u2, ur, ul, uo, ua, uc, us, ut, uk, kp, mm, fm, ?_⟩, (((FrX.refl.set (by decide)).set (by decide)).set (by decide)).set (by decide)⟩, z⟩
      exact ⟨((((x1.set22).setw (by decide)).setw (by decide)).set22).refl, ⟨jl_sn (by decide) (jl_sn (by decide) (jl_ss (jl_sn (by decide) y1))), jl_sn (by decide) (jl_ss (jl_sn (by decide) (jl_sn (by decide) y2))), jl_sn (by decide) (jl_sn (by decide) (jl_sn (by decide) (jl_sn (by decide) y3))), jl_sn (by decide) (jl_sn (by decide) (jl_sn (by decide) (jl_sn (by decide) y4))), jl_sn (by decide) (jl_sn (by decide) (jl_sn (by decide) (jl_sn (by decide) y5)))⟩, MoM.sx (MoM.sx (MoM.sx (MoM.sx x3 (Or.inl (by decide))) (Or.inl (by decide))) (Or.inl (by decide))) (Or.inl (by decide)), jl_sn (by decide) (jl_sn (by decide) (jl_sn (by decide) (jl_sn (by decide) x4))), jl_sn (by decide) (jl_sn (by decide) (jl_sn (by decide) (jl_sn (by decide) x5))), jl_sn (by decide) (jl_sn (by decide) (jl_sn (by decide) (jl_sn (by decide) x6))), x7, x8⟩
theorem sup_f {pr : Nat → Option Nat} {k : Nat} : ∀ n i, sup pr k n i = false → ∀ j, i ≤ j → j < i + n → pr j ≠ some k := by
  intro n
  induction n with
  | zero => intro i _ j h1 h2; omega
  | succ n ih =>
    intro i h j h1 h2 e
    by_cases z : j = i
    · subst z; simp [sup, e] at h
    · refine ih (i + 1) ?_ j (by omega) (by omega) e
      simp only [sup] at h
      first | (rw [Bool.or_eq_false_iff] at h; exact h.2) | (split at h; (cases h); exact h) | simp_all
theorem co_field (hl : l.stackTraces = false) (hU : UI U) (hC : RC σ U) {k t : Int32} : Two l G m_JC_field m_Mo_field [xA, xN, xS] [.int k, .int t] σ U := by
  obtain ⟨mt, bf, gv, jn, MP, FH, aw, hj, hgv, hbf, hgk, hz, hmt, hrl, hA⟩ := id hC
  have hw := hgv.1
  by_cases h : k < nI 0 ∨ nI 5 < k
  · exact Two.rd (c := 1) (v := nI 0) hU hC (by decide) (jc_field_A hl hj hw h) (fun σ1 fa hg an u1 u2 ur ul uo ua uc us ut uk kp mm fm hx => mo_field_A hl hx.1.o hx.2.1 (Or.inl (rg_out (by decide) h)))
  obtain ⟨k, hk, e⟩ := rg_of (by decide) h
  subst e
  cases hty : isTyp t with
  | false => exact Two.rd (c := 1) (v := nI 0) hU hC (by decide) (jc_field_B hl hj hw hk hty) (fun σ1 fa hg an u1 u2 ur ul uo ua uc us ut uk kp mm fm hx => mo_field_A hl hx.1.o hx.2.1 (Or.inr (by rw [isTyM_eq]; exact hty)))
  | true =>
    cases ht : U.tb k with
    | false => exact Two.rd (c := 2) (v := nI 0) hU hC (by decide) (jc_field_C hl hj hw hk hty ht) (fun σ1 fa hg an u1 u2 ur ul uo ua uc us ut uk kp mm fm hx => mo_field_C hl hx.1.o hx.2.1 hk (by rw [isTyM_eq]; exact hty) ht)
    | true =>
      obtain ⟨t, ht1, ht2, e⟩ := isTyp_of hty
      subst e
      have h1 := jc_field (G := G) hl hj hw hk hty ht hU.1.1 (hU.1.2.2.1 k hk) (hU.1.2.1 k hk)
      have hns : flOk U.pr U.ow k = true → ∀ j, j < 6 → U.pr j ≠ some k := by
        intro hf j hj6 e
        unfold flOk at hf
        rw [Bool.and_eq_true] at hf
        have hs : sup U.pr k (6 - (k + 1)) (k + 1) = false := by simpa using hf.2
        have := (hU.1.2.2.2.1 j hj6 k e).1
        exact sup_f _ _ hs j (by omega) (by omega) e
      cases hf : flOk U.pr U.ow k with
      | false =>
        rw [if_neg (by rw [hf]; decide), if_neg (by rw [hf]; decide)] at h1
        refine Two.rd (c := 3) (v := nI 0) hU hC (by decide) h1 (fun σ1 fa hg an u1 u2 ur ul uo ua uc us ut uk kp mm fm hx => ?_)
        have z := mo_field (G := G) hl hx.1.o hx.2.1 hk (by rw [isTyM_eq]; exact hty) ht hU.1 (hU.1.2.1 k hk) (fun q => by rw [hf] at q; cases q)
        rw [if_neg (by rw [hf]; decide), if_neg (by rw [hf]; decide)] at z
        exact z
      | true =>
        rw [if_pos hf, if_pos hf] at h1
        have hU' := hU.field hk (isTyp_tyv ⟨ht1, ht2⟩) ht hf (hns hf)
        obtain ⟨w1, w2, w3, w4, w5, w6, w7⟩ := hw
        refine ⟨0, nI (U.fi k + U.ow k), uField U k t, hU', Nat.zero_le _, ⟨_, _, ⟨rfl, ?_, ((FrC.refl.set (by decide)).set (by decide)).set (by decide)⟩, h1⟩, fun σ1 fa hM => ?_⟩
        · refine RC.w (U := U) hU' (jl_sn (by decide) (jl_sn (by decide) (jl_ss hj))) ⟨jl_sn (by decide) (jl_sn (by decide) (jl_sn (by decide) w1)), jl_sn (by decide) (jl_sn (by decide) (jl_sn (by decide) w2)), jl_sn (by decide) (jl_sn (by decide) (jl_sn (by decide) w3)), jl_ss (jl_sn (by decide) (jl_sn (by decide) w4)), jl_sn (by decide) (jl_sn (by decide) (jl_sn (by decide) w5)), jl_sn (by decide) (jl_ss (jl_sn (by decide) w6)), jl_sn (by decide) (jl_sn (by decide) (jl_sn (by decide) w7))⟩ hgv hbf hgk hz hmt hrl hA (fun i hi => ?_) ?_ rfl rfl rfl rfl rfl rfl rfl rfl rfl
          · rw [List.getElem?_set_ne (by omega), List.getElem?_set_ne (by omega), List.getElem?_set_ne (by omega)]
          · rw [List.length_set, List.length_set, List.length_set]
        · obtain ⟨hg, an, u1, u2, ur, ul, uo, ua, uc, us, ut, uk, kp, mm, fm, hx⟩ := hM
          have z := mo_field (G := G) hl hx.1.o hx.2.1 hk (by rw [isTyM_eq]; exact hty) ht hU.1 (hU.1.2.1 k hk) (fun _ => hU'.1)
          rw [if_pos hf, if_pos hf, Nat.mul_comm 3 k] at z
          obtain ⟨x1, ⟨y1, y2, y3, y4, y5⟩, x3, x4, x5, x6, x7, x8⟩ := hx
          refine ⟨_, _, ⟨rfl, ⟨hg, an, u1, u2, ur, ul, uo, ua, uc, us, ut, uk, kp, mm, fm, ?_⟩, (((FrX.refl.set (by decide)).set (by decide)).set (by decide)).set (by decide)⟩, z⟩
          exact ⟨((((x1.set22).setw (by decide)).setw (by decide)).set22).refl, ⟨jl_sn (by decide) (jl_sn (by decide) (jl_sn (by decide) (jl_sn (by decide) y1))), jl_sn (by decide) (jl_sn (by decide) (jl_sn (by decide) (jl_sn (by decide) y2))), jl_sn (by decide) (jl_ss (jl_sn (by decide) (jl_sn (by decide) y3))), jl_sn (by decide) (jl_sn (by decide) (jl_ss (jl_sn (by decide) y4))), jl_sn (by decide) (jl_sn (by decide) (jl_sn (by decide) (jl_sn (by decide) y5)))⟩, MoM.sx (MoM.sx (MoM.sx (MoM.sx x3 (Or.inl (by decide))) (Or.inl (by decide))) (Or.inl (by decide))) (Or.inl (by decide)), jl_sn (by decide) (jl_sn (by decide) (jl_sn (by decide) (jl_sn (by decide) x4))), jl_sn (by decide) (jl_sn (by decide) (jl_sn (by decide) (jl_sn (by decide) x5))), jl_sn (by decide) (jl_sn (by decide) (jl_sn (by decide) (jl_sn (by decide) x6))), x7, x8⟩
end WWr
