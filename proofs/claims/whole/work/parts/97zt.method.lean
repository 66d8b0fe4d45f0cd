/-! method: class and model answer alike and hold the same afterwards -/
section WMt
variable {l : Launch} {G : jl_G} {σ σ' : jl_S} {U : Un} {mt : Nat → Option Nat} {MP : Nat → Nat → Int32} {FH : Nat → Nat → Bool} {u1 u2 : Nat → Option Nat} {ur ul uo : Nat → Nat} {ua : Nat → Int32} {uc us ut uk : Nat → Nat} {d : MDt} {m m' : Nat} {p q : Option Nat} {r : Nat}
theorem MdM.mN (h : MdM d u1 u2 ur ul uo ua uc us ut uk m') (hn : m' ≠ m) : MdM d (va_up u1 m p) (va_up u2 m q) (va_up ur m r) ul uo ua uc us ut uk m' := by
  obtain ⟨a1, a2, a3, a4, a5, a6⟩ := h
  exact ⟨(va_up_ne _ _ hn).trans a1, (va_up_ne _ _ hn).trans a2, (va_up_ne _ _ hn).trans a3, a4, a5, a6⟩
theorem MdM.m0 (h : MdM (d0 (u1 m) (u2 m) (ur m)) u1 u2 ur ul uo ua uc us ut uk m) : MdM (d0 p q r) (va_up u1 m p) (va_up u2 m q) (va_up ur m r) ul uo ua uc us ut uk m := by
  obtain ⟨a1, a2, a3, a4, a5, a6⟩ := h
  exact ⟨va_up_self _ _ _, va_up_self _ _ _, va_up_self _ _ _, a4, a5, a6⟩
theorem MhAt_of (hU : UI U) (hmt : mtH U.hs mt) (hM : ∀ m a, mt m = some a → MeD σ a (U.D m) (MP m) (FH m)) : MhAt σ mt (fun m => (U.D m).1) (fun m => (U.D m).2.1) (fun m => (U.D m).2.2.1) := by
  intro m a e
  have hd := hU.2.2.2.1 m (by rw [hmt, e]; rfl)
  exact ⟨_, _, _, _, _, _, _, _, _, _, (hM m a e).1, hd.1.ob, hd.2.1.ob, (hd.2.2.1 _ rfl).1⟩
theorem RL.new {n : Nat} (h : RL mt n) (hm : mt m = none) : RL (va_up mt m (some n)) (n + 9) := by
  obtain ⟨h1, h2, h3, h4, h5⟩ := h
  have key : ∀ j a, va_up mt m (some n) j = some a → (j = m ∧ a = n) ∨ (j ≠ m ∧ mt j = some a) := fun j a e => by
    by_cases z : j = m
    · rw [z, va_up_self] at e; cases e; exact Or.inl ⟨z, rfl⟩
    · rw [va_up_ne _ _ z] at e; exact Or.inr ⟨z, e⟩
  refine ⟨fun j a e => ?_, fun i j a e1 e2 => ?_, fun j a e => ?_, by omega, by omega⟩
  · rcases key j a e with ⟨_, e⟩ | ⟨_, e⟩
    · subst e; exact ⟨h4, h5⟩
    · exact h1 j a e
  · rcases key i a e1 with ⟨z1, q1⟩ | ⟨z1, q1⟩ <;> rcases key j a e2 with ⟨z2, q2⟩ | ⟨z2, q2⟩
    · rw [z1, z2]
    · have := h3 j a q2; omega
    · have := h3 i a q1; omega
    · exact h2 i j a q1 q2
  · rcases key j a e with ⟨_, e⟩ | ⟨_, e⟩
    · omega
    · have := h3 j a e; omega
theorem co_method (hl : l.stackTraces = false) (hU : UI U) (hC : RC σ U) {k sl p q r : Int32} : Two l G m_JC_method m_Mo_method [xA, xN, xS] [.int k, .int sl, .int p, .int q, .int r] σ U := by
  obtain ⟨mt, bf, gv, jn, MP, FH, aw, hj, hgv, hbf, hgk, hz, hmt, hrl, hA⟩ := id hC
  have hw := hgv.1
  by_cases h : k < nI 0 ∨ nI 5 < k
  · exact Two.rd (c := 1) (v := nI 0) hU hC (by decide) (jc_method_A1 hl hj hw h) (fun σ1 fa hg an u1 u2 ur ul uo ua uc us ut uk kp mm fm hx => mo_method_A hl hx.1.o hx.2.1 (Or.inl (rg_out (by decide) h)))
  obtain ⟨k, hk, e⟩ := rg_of (by decide) h
  subst e
  by_cases h : sl < nI 0 ∨ nI 3 < sl
  · exact Two.rd (c := 1) (v := nI 0) hU hC (by decide) (jc_method_A2 hl hj hw hk h) (fun σ1 fa hg an u1 u2 ur ul uo ua uc us ut uk kp mm fm hx => mo_method_A hl hx.1.o hx.2.1 (Or.inr (Or.inl (rg_out (by decide) h))))
  obtain ⟨sl, hsl, e⟩ := rg_of (by decide) h
  subst e
  cases hpq : prOk p q with
  | false => exact Two.rd (c := 1) (v := nI 0) hU hC (by decide) (jc_method_A3 hl hj hw hk hsl hpq) (fun σ1 fa hg an u1 u2 ur ul uo ua uc us ut uk kp mm fm hx => mo_method_A hl hx.1.o hx.2.1 (Or.inr (Or.inr (Or.inl hpq))))
  | true =>
  cases hrt : isTyp r with
  | false => exact Two.rd (c := 1) (v := nI 0) hU hC (by decide) (jc_method_A4 hl hj hw hk hsl hpq hrt) (fun σ1 fa hg an u1 u2 ur ul uo ua uc us ut uk kp mm fm hx => mo_method_A hl hx.1.o hx.2.1 (Or.inr (Or.inr (Or.inr hrt))))
  | true =>
  obtain ⟨p, q, hp, hq, ep, eq, hpn⟩ := prOk_of hpq
  obtain ⟨r, hr, hr2, er⟩ := isTyp_of hrt
  subst ep eq er
  have hrv := isTyp_tyv ⟨hr, hr2⟩
  have em : 4 * k + sl = k * 4 + sl := by omega
  have hs22 : ∀ {σ1 : jl_S} {c1 c2 : jl_C}, (σ1.set 22 c1).set 22 c2 = σ1.set 22 c2 := fun {σ1 c1 c2} => List.set_set ..
  cases ht : U.tb k with
  | false =>
    refine Two.rd (c := 2) (v := nI 0) hU hC (by decide) (jc_method_N hl hj hw hk hsl hpq hrt ht) (fun σ1 fa hg an u1 u2 ur ul uo ua uc us ut uk kp mm fm hx => ?_)
    have z := mo_m0 (G := G) hl hx.1.o hx.2.1 hpq hrt (mo_m60_N hl (jl_ss hx.1.o) (MoW.sx hx.2.1 (Or.inl (by decide))) hk hsl ht)
    rw [hs22] at z
    exact z
  | true =>
  cases hm : mt (k * 4 + sl) with
  | some b =>
    have hh : U.hs (4 * k + sl) = true := by rw [hmt, em, hm]; rfl
    refine Two.rd (c := 3) (v := nI 0) hU hC (by decide) (jc_method_S1 hl hj hw hk hsl hpq hrt ht hp.ob hq.ob hr b hm) (fun σ1 fa hg an u1 u2 ur ul uo ua uc us ut uk kp mm fm hx => ?_)
    have z := mo_m0 (G := G) hl hx.1.o hx.2.1 hpq hrt (mo_m60_S1 hl (jl_ss hx.1.o) (MoW.sx hx.2.1 (Or.inl (by decide))) hk hsl ht hh)
    rw [hs22] at z
    exact z
  | none =>
  have hh : U.hs (4 * k + sl) = false := by rw [hmt, em, hm]; rfl
  have hmh := MhAt_of hU hmt hgv.2.2.2.1
  have hcm : ∀ {σ1 : jl_S} {fa hg an u1 u2 ur ul uo ua uc us ut uk kp mm fm}, RMx σ1 U fa hg an u1 u2 ur ul uo ua uc us ut uk kp mm fm → mcl U.tb U.pr U.hs u1 u2 ur k sl p q r 6 0 = clash U.pr mt (fun m => (U.D m).1) (fun m => (U.D m).2.1) (fun m => (U.D m).2.2.1) k sl p q r 6 0 := fun {σ1 fa hg an u1 u2 ur ul uo ua uc us ut uk kp mm fm} hx => by
    rw [clash_U hmt, mcl_U hU hsl (fun m hm => by
      obtain ⟨a1, a2, a3, _⟩ := hx.2.2.2.2.2.2.1.2.2.1 m (hU.2.2.1 m hm).1 hm
      exact ⟨a1, a2, a3⟩)]
  cases hcl : clash U.pr mt (fun m => (U.D m).1) (fun m => (U.D m).2.1) (fun m => (U.D m).2.2.1) k sl p q r 6 0 with
  | true =>
    refine Two.rd (c := 3) (v := nI 0) hU hC (by decide) (jc_method_S2 hl hj hw hk hsl hpq hrt ht hp.ob hq.ob hr hm hU.1.1 hmh hcl) (fun σ1 fa hg an u1 u2 ur ul uo ua uc us ut uk kp mm fm hx => ?_)
    have hy := hx.2.2.2.2.2.2.1.2.1
    have z := mo_m0 (G := G) hl hx.1.o hx.2.1 hpq hrt (mo_m60_S2 hl (jl_ss hx.1.o) (MoW.sx hx.2.1 (Or.inl (by decide))) (MoM.sx hx.2.2.1 (Or.inl (by decide))) hk hsl (dsc_of hU.1) hp.ob hq.ob hr (fun j => (hy j).1.ob) (fun j => (hy j).2.1.ob) (fun j => ((hy j).2.2 _ rfl).1) ht hh ((hcm hx).trans hcl))
    rw [hs22] at z
    exact z
  | false =>
    have hcu : clU U k sl p q r = false := by
      unfold clU
      rw [← clash_U (mt := mt) hmt]
      exact hcl
    have hU' : UI (uMethod U (4 * k + sl) p q r) := hU.method hk hsl ht hh hp hq hrv hpn hcu
    have hd := hU.2.2.2.2.2.2.2.1 _ hh
    obtain ⟨w1, w2, w3, w4, w5, w6, w7⟩ := hw
    have hL54 := hrl.2.2.2.1
    have hev : cnt (fun j => (va_up mt (k * 4 + sl) (some σ.length) (k * 4 + j)).isSome) 4 0 = cnt (fun j => va_up U.hs (4 * k + sl) true (4 * k + j)) 4 0 := cnt_e 4 0 (fun j _ _ => by
      rw [show 4 * k + j = k * 4 + j by omega, em]
      by_cases z : k * 4 + j = k * 4 + sl
      · rw [z, va_up_self, va_up_self]; rfl
      · rw [va_up_ne _ _ z, va_up_ne _ _ z, hmt])
    refine ⟨0, nI (cnt (fun j => va_up U.hs (4 * k + sl) true (4 * k + j)) 4 0), _, hU', Nat.zero_le _, ?_, fun σ1 fa hM => ?_⟩
    · refine jl_mE.mono (jc_method2 hl hj ⟨w1, w2, w3, w4, w5, w6, w7⟩ hk hsl hpq hrt ht hp.ob hq.ob hr hm hU.1.1 hmh hcl rfl (by omega)) (fun o σ' ho => ?_)
      obtain ⟨eo, eL, ef, ej, e7, mp, fh, hme, hmp⟩ := ho
      refine ⟨by rw [eo, hev]; rfl, ?_, by rw [eL]; omega, fun i h1 h2 => ef i (by omega) (by omega) (by omega)⟩
      obtain ⟨_, v2, v3, v4, v5, v6, v7, v8⟩ := hgv
      have g : ∀ {j : Nat} {c : jl_C}, j ≠ 0 → j ≠ 7 → j < 54 → σ[j]? = some c → σ'[j]? = some c := fun h1 h2 h3 e => (ef _ h1 h2 (by omega)).trans e
      have hmt' : mtH (va_up U.hs (4 * k + sl) true) (va_up mt (k * 4 + sl) (some σ.length)) := fun j => by
        rw [em]
        by_cases z : j = k * 4 + sl
        · rw [z, va_up_self, va_up_self]; rfl
        · rw [va_up_ne _ _ z, va_up_ne _ _ z, hmt]
      have hM' : ∀ m a, va_up mt (k * 4 + sl) (some σ.length) m = some a → MeD σ' a (va_up U.D (4 * k + sl) (d0 p q r) m) (va_up MP (k * 4 + sl) mp m) (va_up FH (k * 4 + sl) fh m) := fun m a e => by
        rw [em]
        by_cases z : m = k * 4 + sl
        · rw [z, va_up_self] at e
          cases e
          rw [z, va_up_self, va_up_self, va_up_self]
          exact hme
        · rw [va_up_ne _ _ z] at e
          rw [va_up_ne _ _ z, va_up_ne _ _ z, va_up_ne _ _ z]
          have h9 := hrl.2.2.1 m a e
          have h5 := (hrl.1 m a e).1
          exact (v4 m a e).fr9 (fun i q1 q2 => ef i (by omega) (by omega) (by omega))
      refine ⟨va_up mt (k * 4 + sl) (some σ.length), bf, gv, jn, va_up MP (k * 4 + sl) mp, va_up FH (k * 4 + sl) fh, aw, ej, ⟨⟨g (by decide) (by decide) (by decide) w1, g (by decide) (by decide) (by decide) w2, g (by decide) (by decide) (by decide) w3, g (by decide) (by decide) (by decide) w4, g (by decide) (by decide) (by decide) w5, g (by decide) (by decide) (by decide) w6, e7⟩, g (by decide) (by decide) (by decide) v2, SgC_of hU' hmt' hM', hM', g (by decide) (by decide) (by decide) v5, g (by decide) (by decide) (by decide) v6, g (by decide) (by decide) (by decide) v7, g (by decide) (by decide) (by decide) v8⟩, hbf, hgk, hz.fr (fun i h1 h2 => ef i (by omega) (by omega) (by omega)), hmt', ?_, fun m hm2 => ?_⟩
      · rw [eL]; exact hrl.new hm
      · have hm2 : va_up U.hs (4 * k + sl) true m = true := hm2
        show MpC (va_up MP (k * 4 + sl) mp m) (U.A m)
        by_cases z : m = k * 4 + sl
        · rw [z, va_up_self, ← em, hd]; exact hmp
        · rw [va_up_ne _ _ (by omega)] at hm2
          rw [va_up_ne _ _ z]
          exact hA m hm2
    · obtain ⟨hg, an, u1, u2, ur, ul, uo, ua, uc, us, ut, uk, kp, mm, fm, hx⟩ := hM
      have hy := hx.2.2.2.2.2.2.1.2.1
      have z := mo_m0 (G := G) hl hx.1.o hx.2.1 hpq hrt (mo_m60 hl (jl_ss hx.1.o) (MoW.sx hx.2.1 (Or.inl (by decide))) (MoM.sx hx.2.2.1 (Or.inl (by decide))) hk hsl (dsc_of hU.1) hp.ob hq.ob hr (fun j => (hy j).1.ob) (fun j => (hy j).2.1.ob) (fun j => ((hy j).2.2 _ rfl).1) ht hh ((hcm hx).trans hcl))
      obtain ⟨x1, ⟨y1, y2, y3, y4, y5⟩, ⟨t1, t2, t3, t4, t5, t6, t7, t8, t9, t10⟩, x4, x5, x6, ⟨z1, z2, z3, z4⟩, x8⟩ := hx
      refine ⟨_, _, ⟨rfl, ⟨hg, an, _, _, _, ul, uo, ua, uc, us, ut, uk, kp, mm, fm, (((((((x1.set22).setw (by decide)).setw (by decide)).setw (by decide)).setw (by decide)).set22).refl), ⟨jl_sn (by decide) (jl_sn (by decide) (jl_sn (by decide) (jl_sn (by decide) (jl_sn (by decide) (jl_sn (by decide) (y1)))))), jl_sn (by decide) (jl_sn (by decide) (jl_sn (by decide) (jl_sn (by decide) (jl_sn (by decide) (jl_sn (by decide) (y2)))))), jl_sn (by decide) (jl_sn (by decide) (jl_sn (by decide) (jl_sn (by decide) (jl_sn (by decide) (jl_sn (by decide) (y3)))))), jl_sn (by decide) (jl_sn (by decide) (jl_sn (by decide) (jl_sn (by decide) (jl_sn (by decide) (jl_sn (by decide) (y4)))))), jl_sn (by decide) (jl_sn (by decide) (jl_sn (by decide) (jl_sn (by decide) (jl_ss (jl_sn (by decide) (y5))))))⟩, ⟨jl_sn (by decide) (jl_sn (by decide) (jl_sn (by decide) (jl_ss (jl_sn (by decide) (jl_sn (by decide) (t1)))))), jl_sn (by decide) (jl_sn (by decide) (jl_ss (jl_sn (by decide) (jl_sn (by decide) (jl_sn (by decide) (t2)))))), jl_sn (by decide) (jl_ss (jl_sn (by decide) (jl_sn (by decide) (jl_sn (by decide) (jl_sn (by decide) (t3)))))), jl_sn (by decide) (jl_sn (by decide) (jl_sn (by decide) (jl_sn (by decide) (jl_sn (by decide) (jl_sn (by decide) (t4)))))), jl_sn (by decide) (jl_sn (by decide) (jl_sn (by decide) (jl_sn (by decide) (jl_sn (by decide) (jl_sn (by decide) (t5)))))), jl_sn (by decide) (jl_sn (by decide) (jl_sn (by decide) (jl_sn (by decide) (jl_sn (by decide) (jl_sn (by decide) (t6)))))), jl_sn (by decide) (jl_sn (by decide) (jl_sn (by decide) (jl_sn (by decide) (jl_sn (by decide) (jl_sn (by decide) (t7)))))), jl_sn (by decide) (jl_sn (by decide) (jl_sn (by decide) (jl_sn (by decide) (jl_sn (by decide) (jl_sn (by decide) (t8)))))), jl_sn (by decide) (jl_sn (by decide) (jl_sn (by decide) (jl_sn (by decide) (jl_sn (by decide) (jl_sn (by decide) (t9)))))), jl_sn (by decide) (jl_sn (by decide) (jl_sn (by decide) (jl_sn (by decide) (jl_sn (by decide) (jl_sn (by decide) (t10))))))⟩, jl_sn (by decide) (jl_sn (by decide) (jl_sn (by decide) (jl_sn (by decide) (jl_sn (by decide) (jl_sn (by decide) (x4)))))), jl_sn (by decide) (jl_sn (by decide) (jl_sn (by decide) (jl_sn (by decide) (jl_sn (by decide) (jl_sn (by decide) (x5)))))), jl_sn (by decide) (jl_sn (by decide) (jl_sn (by decide) (jl_sn (by decide) (jl_sn (by decide) (jl_sn (by decide) (x6)))))), ⟨⟨fun j hj => ?_, z1.2.1, z1.2.2⟩, fun j => ?_, fun j hj hjs => ?_, fun j hj hjs => ?_⟩, x8⟩, (((((FrX.refl.set (by decide)).set (by decide)).set (by decide)).set (by decide)).set (by decide)).set (by decide)⟩, z⟩
      · obtain ⟨b1, b2, b3, b4, b5, b6⟩ := z1.1 j hj
        by_cases e : j = 4 * k + sl
        · rw [e, va_up_self, va_up_self, va_up_self]
          rw [e] at b4 b5
          exact ⟨hp.ob, hq.ob, hr, b4, b5, hpn⟩
        · rw [va_up_ne _ _ e, va_up_ne _ _ e, va_up_ne _ _ e]
          exact ⟨b1, b2, b3, b4, b5, b6⟩
      · by_cases e : j = 4 * k + sl
        · rw [e, va_up_self, va_up_self, va_up_self]; exact ⟨hp, hq, hrv⟩
        · rw [va_up_ne _ _ e, va_up_ne _ _ e, va_up_ne _ _ e]; exact z2 j
      · have hjs : va_up U.hs (4 * k + sl) true j = true := hjs
        show MdM (va_up U.D (4 * k + sl) (d0 p q r) j) _ _ _ _ _ _ _ _ _ _ j
        by_cases e : j = 4 * k + sl
        · rw [e, va_up_self]
          exact (z4 _ (by omega) hh).m0
        · rw [va_up_ne _ _ e] at hjs ⊢
          exact (z3 j hj hjs).mN e
      · have hjs : va_up U.hs (4 * k + sl) true j = false := hjs
        have e : j ≠ 4 * k + sl := fun e => by rw [e, va_up_self] at hjs; cases hjs
        rw [va_up_ne _ _ e] at hjs
        rw [va_up_ne _ _ e, va_up_ne _ _ e, va_up_ne _ _ e]
        exact (z4 j hj hjs).mN e
end WMt
