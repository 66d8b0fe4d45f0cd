/-! code, catcher: class and model answer alike and hold the same afterwards (wip/gen/p97zp.py) -/
section WCd
variable {l : Launch} {G : jl_G} {σ σ' : jl_S} {U U' : Un} {mt : Nat → Option Nat} {bf gv jn : Rw} {MP : Nat → Nat → Int32} {FH : Nat → Nat → Bool} {aw : Int32} {u1 u2 : Nat → Option Nat} {ur ul uo : Nat → Nat} {ua : Nat → Int32} {uc us ut uk : Nat → Nat} {d : MDt} {m m' o a : Nat} {x : Int32}
theorem MdM.code (h : MdM d u1 u2 ur ul uo ua uc us ut uk m) : MdM (dCode d o x) u1 u2 ur (va_up ul m (ul m + 1)) (va_up uo (24 * m + ul m) o) (upd ua (24 * m + ul m) x) uc us ut uk m := by
  obtain ⟨a1, a2, a3, a4, a5, a6⟩ := h
  rw [upd_up]
  refine ⟨a1, a2, a3, ?_, fun p hp => ?_, a6⟩
  · rw [va_up_self, a4]; rfl
  · show va_up uo (24 * m + ul m) o (24 * m + p) = va_up (dop d) (dsz d) o p ∧ va_up ua (24 * m + ul m) x (24 * m + p) = va_up (dag d) (dsz d) x p
    by_cases e : p = dsz d
    · rw [a4, e, va_up_self, va_up_self, va_up_self, va_up_self]; exact ⟨rfl, rfl⟩
    · exact ⟨(va_up_ne _ _ (by omega)).trans ((a5 p hp).1.trans (va_up_ne _ _ e).symm), (va_up_ne _ _ (by omega)).trans ((a5 p hp).2.trans (va_up_ne _ _ e).symm)⟩
theorem MdM.codeN (h : MdM d u1 u2 ur ul uo ua uc us ut uk m') (hn : m' ≠ m) (hu : ul m < 24) : MdM d u1 u2 ur (va_up ul m (ul m + 1)) (va_up uo (24 * m + ul m) o) (upd ua (24 * m + ul m) x) uc us ut uk m' := by
  obtain ⟨a1, a2, a3, a4, a5, a6⟩ := h
  rw [upd_up]
  refine ⟨a1, a2, a3, (va_up_ne _ _ hn).trans a4, fun p hp => ?_, a6⟩
  rw [va_up_ne _ _ (by omega), va_up_ne _ _ (by omega)]
  exact a5 p hp
theorem MdM.cat {sp tr ki : Nat} (h : MdM d u1 u2 ur ul uo ua uc us ut uk m) (hc : uc m < 2) : MdM (dCat d sp tr ki) u1 u2 ur ul uo ua (va_up uc m (uc m + 1)) (va_up us (2 * m + uc m) sp) (va_up ut (2 * m + uc m) tr) (va_up uk (2 * m + uc m) ki) m := by
  obtain ⟨a1, a2, a3, a4, a5, a6, a7⟩ := h
  refine ⟨a1, a2, a3, a4, a5, ?_, fun i hi => ?_⟩
  · rw [va_up_self, ← a6]; rfl
  · show va_up (dfr d) (dnc d) (sp / 32) i = va_up us (2 * m + uc m) sp (2 * m + i) / 32 ∧ va_up (dtt d) (dnc d) (sp % 32) i = va_up us (2 * m + uc m) sp (2 * m + i) % 32 ∧ va_up (dtg d) (dnc d) tr i = va_up ut (2 * m + uc m) tr (2 * m + i) ∧ va_up (dkd d) (dnc d) ki i = va_up uk (2 * m + uc m) ki (2 * m + i)
    by_cases e : i = dnc d
    · rw [e, ← a6, va_up_self, va_up_self, va_up_self, va_up_self, va_up_self, va_up_self, va_up_self]; exact ⟨rfl, rfl, rfl, rfl⟩
    · rw [va_up_ne _ _ e, va_up_ne _ _ e, va_up_ne _ _ e, va_up_ne _ _ e, va_up_ne _ _ (by omega), va_up_ne _ _ (by omega), va_up_ne _ _ (by omega)]; exact a7 i hi
theorem MdM.catN {sp tr ki : Nat} (h : MdM d u1 u2 ur ul uo ua uc us ut uk m') (hn : m' ≠ m) (hc : uc m < 2) : MdM d u1 u2 ur ul uo ua (va_up uc m (uc m + 1)) (va_up us (2 * m + uc m) sp) (va_up ut (2 * m + uc m) tr) (va_up uk (2 * m + uc m) ki) m' := by
  obtain ⟨a1, a2, a3, a4, a5, a6, a7⟩ := h
  refine ⟨a1, a2, a3, a4, a5, a6.trans (va_up_ne _ _ hn).symm, fun i hi => ?_⟩
  rw [va_up_ne _ _ (by omega), va_up_ne _ _ (by omega), va_up_ne _ _ (by omega)]
  exact a7 i hi
/-- METHOD m of the class is another, all else is as it was but VERIFIED -/
theorem RC.me (hU' : UI U') (hj : JcAt σ' U'.vf) (hm : mt m = some a) (hme : MeD σ' a (U'.D m) (MP m) (FH m)) (hgv : GV σ U.tb U.pr U.ow U.fi U.ft mt (sgU U) U.D U.wr U.wz bf gv jn MP FH) (hbf : gok bf) (hgk : gok gv) (hz : KZ σ σ U.H U.su U.dt U.dn aw) (hmt : mtH U.hs mt) (hrl : RL mt σ.length) (hA : ∀ m, U.hs m = true → MpC (MP m) (U.A m)) (hf : ∀ i, i ≠ 0 → ¬ (a ≤ i ∧ i < a + 9) → σ'[i]? = σ[i]?) (hL : σ'.length = σ.length) (e1 : ∀ j, j ≠ m → U'.D j = U.D j) (e2 : U'.hs = U.hs) (e3 : U'.A = U.A) (e4 : U'.wr = U.wr) (e5 : U'.wz = U.wz) (e6 : U'.H = U.H) (e7 : U'.su = U.su) (e8 : U'.dt = U.dt) (e9 : U'.dn = U.dn) (f1 : U'.tb = U.tb) (f2 : U'.pr = U.pr) (f3 : U'.ow = U.ow) (f4 : U'.fi = U.fi) (f5 : U'.ft = U.ft) : RC σ' U' := by
  obtain ⟨⟨w1, w2, w3, w4, w5, w6, w7⟩, v2, v3, v4, v5, v6, v7, v8⟩ := hgv
  have ha := (hrl.1 m a hm).1
  have g : ∀ {j : Nat} {c : jl_C}, j ≠ 0 → j < 54 → σ[j]? = some c → σ'[j]? = some c := fun h1 h2 e => (hf _ h1 (by omega)).trans e
  have hM : ∀ m a, mt m = some a → MeD σ' a (U'.D m) (MP m) (FH m) := fun m2 a2 e => by
    by_cases z : m2 = m
    · subst z
      rw [hm] at e
      cases e
      exact hme
    · rw [e1 m2 z]
      have h2 := hrl.1 m2 a2 e
      have h3 := hrl.1 m a hm
      have hne : a2 ≠ a := fun q => z (hrl.2.1 m2 m a2 e (by rw [q]; exact hm))
      exact (v4 m2 a2 e).fr9 (fun i q1 q2 => hf i (by omega) (by omega))
  have hm' : mtH U'.hs mt := by rw [e2]; exact hmt
  refine ⟨mt, bf, gv, jn, MP, FH, aw, hj, ⟨?_, g (by decide) (by decide) v2, SgC_of hU' hm' hM, hM, ?_, g (by decide) (by decide) v6, g (by decide) (by decide) v7, g (by decide) (by decide) v8⟩, hbf, hgk, ?_, hm', ?_, ?_⟩
  · rw [f1, f2, f3, f4, f5]
    exact ⟨g (by decide) (by decide) w1, g (by decide) (by decide) w2, g (by decide) (by decide) w3, g (by decide) (by decide) w4, g (by decide) (by decide) w5, g (by decide) (by decide) w6, g (by decide) (by decide) w7⟩
  · rw [e4, e5]; exact g (by decide) (by decide) v5
  · rw [e6, e7, e8, e9]; exact hz.fr (fun i h1 h2 => hf i (by omega) (by omega))
  · rw [hL]; exact hrl
  · rw [e2, e3]; exact hA
theorem co_code (hl : l.stackTraces = false) (hU : UI U) (hC : RC σ U) {k sl o x : Int32} : Two l G m_JC_code m_Mo_code [xA, xN, xS] [.int k, .int sl, .int o, .int x] σ U := by
  obtain ⟨mt, bf, gv, jn, MP, FH, aw, hj, hgv, hbf, hgk, hz, hmt, hrl, hA⟩ := id hC
  have hw := hgv.1
  by_cases h : k < nI 0 ∨ nI 5 < k
  · exact Two.rd (c := 1) (v := nI 0) hU hC (by decide) (jc_code_A1 hl hj hw h) (fun σ1 fa hg an u1 u2 ur ul uo ua uc us ut uk kp mm fm hx => mo_code_A hl hx.1.o hx.2.1 (Or.inl (rg_out (by decide) h)))
  obtain ⟨k, hk, e⟩ := rg_of (by decide) h
  subst e
  by_cases h : sl < nI 0 ∨ nI 3 < sl
  · exact Two.rd (c := 1) (v := nI 0) hU hC (by decide) (jc_code_A2 hl hj hw hk h) (fun σ1 fa hg an u1 u2 ur ul uo ua uc us ut uk kp mm fm hx => mo_code_A hl hx.1.o hx.2.1 (Or.inr (Or.inl (rg_out (by decide) h))))
  obtain ⟨sl, hsl, e⟩ := rg_of (by decide) h
  subst e
  by_cases h : o < nI 0 ∨ nI 25 < o
  · exact Two.rd (c := 1) (v := nI 0) hU hC (by decide) (jc_code_A3 hl hj hw hk hsl h) (fun σ1 fa hg an u1 u2 ur ul uo ua uc us ut uk kp mm fm hx => mo_code_A hl hx.1.o hx.2.1 (Or.inr (Or.inr (rg_out (by decide) h))))
  obtain ⟨o, ho, e⟩ := rg_of (by decide) h
  subst e
  by_cases hn : U.tb k = false ∨ mt (k * 4 + sl) = none
  · exact Two.rd (c := 2) (v := nI 0) hU hC (by decide) (jc_code_N hl hj hw hk hsl ho hn) (fun σ1 fa hg an u1 u2 ur ul uo ua uc us ut uk kp mm fm hx => mo_code_N hl hx.1.o hx.2.1 hk hsl ho (noM_n hmt hn))
  have ht : U.tb k = true := by cases z : U.tb k with | true => rfl | false => exact absurd (Or.inl z) hn
  cases hm : mt (k * 4 + sl) with
  | none => exact absurd (Or.inr hm) hn
  | some a =>
    obtain ⟨hnm, hh⟩ := noM_y hmt ht hm
    have em : 4 * k + sl = k * 4 + sl := by omega
    have hme := hgv.2.2.2.1 _ a hm
    have ha54 := (hrl.1 _ a hm).1
    have haL := hrl.2.2.1 _ a hm
    have hd := hU.2.2.2.1 _ hh
    rw [em] at hd hh
    have hsz : dsz (U.D (k * 4 + sl)) ≤ 24 := hd.2.2.2.2.1
    have h1 := jc_code (G := G) (x := x) hl hj hw hme hk hsl ho ht hm (by omega) hsz
    have hul : ∀ {fa hg an u1 u2 ur ul uo ua uc us ut uk kp mm fm} {σ1 : jl_S}, RMx σ1 U fa hg an u1 u2 ur ul uo ua uc us ut uk kp mm fm → ul (4 * k + sl) = dsz (U.D (k * 4 + sl)) := fun hx => by
      rw [em]
      exact (hx.2.2.2.2.2.2.1.2.2.1 (k * 4 + sl) (by omega) hh).2.2.2.1
    by_cases hs : dsz (U.D (k * 4 + sl)) < 24
    · have hs' : (U.D (k * 4 + sl)).2.2.2.2.2.1 < 24 := hs
      rw [if_pos hs', if_pos hs'] at h1
      have hU' := hU.code (x := x) hh ho hs
      obtain ⟨hM0, g1, g2, g3, g4, g5, g6, g7, g8⟩ := hme
      have q0 : σ[0]? = some (.inr (6, [.ref 1, .ref 9, .ref 13, .int (bi U.vf)])) := hj
      refine ⟨0, nI (dsz (U.D (k * 4 + sl))), uCode U (k * 4 + sl) o x, hU', Nat.zero_le _, ⟨_, _, ⟨rfl, ?_, (((FrC.refl.set (by omega)).set (by omega)).set (by omega)).set (by omega)⟩, h1⟩, fun σ1 fa hM => ?_⟩
      · refine RC.me (U := U) (m := k * 4 + sl) (a := a) hU' (jl_sn (by omega) (jl_sn (by omega) (jl_sn (by omega) (jl_ss q0)))) hm ?_ hgv hbf hgk hz hmt hrl hA (fun i h0 hi => ?_) ?_ (fun j hj => va_up_ne _ _ hj) rfl rfl rfl rfl rfl rfl rfl rfl rfl rfl rfl rfl rfl
        · show MeD _ a (va_up U.D (k * 4 + sl) (dCode (U.D (k * 4 + sl)) o x) (k * 4 + sl)) _ _
          rw [va_up_self]
          exact ⟨jl_ss (jl_sn (by omega) (jl_sn (by omega) (jl_sn (by omega) (hM0)))), jl_sn (by omega) (jl_sn (by omega) (jl_ss (jl_sn (by omega) g1))), jl_sn (by omega) (jl_ss (jl_sn (by omega) (jl_sn (by omega) g2))), jl_sn (by omega) (jl_sn (by omega) (jl_sn (by omega) (jl_sn (by omega) (g3)))), jl_sn (by omega) (jl_sn (by omega) (jl_sn (by omega) (jl_sn (by omega) (g4)))), jl_sn (by omega) (jl_sn (by omega) (jl_sn (by omega) (jl_sn (by omega) (g5)))), jl_sn (by omega) (jl_sn (by omega) (jl_sn (by omega) (jl_sn (by omega) (g6)))), jl_sn (by omega) (jl_sn (by omega) (jl_sn (by omega) (jl_sn (by omega) (g7)))), jl_sn (by omega) (jl_sn (by omega) (jl_sn (by omega) (jl_sn (by omega) (g8))))⟩
        · rw [List.getElem?_set_ne (by omega), List.getElem?_set_ne (by omega), List.getElem?_set_ne (by omega), List.getElem?_set_ne (by omega)]
        · rw [List.length_set, List.length_set, List.length_set, List.length_set]
      · obtain ⟨hg, an, u1, u2, ur, ul, uo, ua, uc, us, ut, uk, kp, mm, fm, hx⟩ := hM
        have eu := hul hx
        have z := mo_code (G := G) (x := x) hl hx.1.o hx.2.1 hx.2.2.1 hk hsl ho hnm (by rw [eu]; exact hsz)
        rw [if_pos (by rw [eu]; exact hs), if_pos (by rw [eu]; exact hs)] at z
        obtain ⟨x1, x2, ⟨y1, y2, y3, y4, y5, y6, y7, y8, y9, y10⟩, x4, x5, x6, ⟨z1, z2, z3, z4⟩, x8⟩ := hx
        have hu24 : ul (4 * k + sl) < 24 := by rw [eu]; exact hs
        refine ⟨_, _, ⟨by rw [eu], ⟨hg, an, u1, u2, ur, _, _, _, uc, us, ut, uk, kp, mm, fm, ((((((x1.set22).setw (by decide)).setw (by decide)).setw (by decide)).set22).refl), MoW.sx (MoW.sx (MoW.sx (MoW.sx (MoW.sx x2 (Or.inl (by decide))) (Or.inr (by decide))) (Or.inr (by decide))) (Or.inr (by decide))) (Or.inl (by decide)), ⟨jl_sn (by omega) (jl_sn (by omega) (jl_sn (by omega) (jl_sn (by omega) (jl_sn (by omega) (y1))))), jl_sn (by omega) (jl_sn (by omega) (jl_sn (by omega) (jl_sn (by omega) (jl_sn (by omega) (y2))))), jl_sn (by omega) (jl_sn (by omega) (jl_sn (by omega) (jl_sn (by omega) (jl_sn (by omega) (y3))))), jl_sn (by omega) (jl_ss (jl_sn (by omega) (jl_sn (by omega) (jl_sn (by omega) (y4))))), jl_sn (by omega) (jl_sn (by omega) (jl_sn (by omega) (jl_ss (jl_sn (by omega) (y5))))), jl_sn (by omega) (jl_sn (by omega) (jl_ss (jl_sn (by omega) (jl_sn (by omega) (y6))))), jl_sn (by omega) (jl_sn (by omega) (jl_sn (by omega) (jl_sn (by omega) (jl_sn (by omega) (y7))))), jl_sn (by omega) (jl_sn (by omega) (jl_sn (by omega) (jl_sn (by omega) (jl_sn (by omega) (y8))))), jl_sn (by omega) (jl_sn (by omega) (jl_sn (by omega) (jl_sn (by omega) (jl_sn (by omega) (y9))))), jl_sn (by omega) (jl_sn (by omega) (jl_sn (by omega) (jl_sn (by omega) (jl_sn (by omega) (y10)))))⟩, jl_sn (by omega) (jl_sn (by omega) (jl_sn (by omega) (jl_sn (by omega) (jl_sn (by omega) (x4))))), jl_sn (by omega) (jl_sn (by omega) (jl_sn (by omega) (jl_sn (by omega) (jl_sn (by omega) (x5))))), jl_sn (by omega) (jl_sn (by omega) (jl_sn (by omega) (jl_sn (by omega) (jl_sn (by omega) (x6))))), ⟨?_, z2, ?_, ?_⟩, x8⟩, ((((FrX.refl.set (by decide)).set (by decide)).set (by decide)).set (by decide)).set (by decide)⟩, z⟩
        · refine ⟨fun q hq => ?_, fun j hj => ?_, z1.2.2⟩
          · obtain ⟨b1, b2, b3, b4, b5, b6⟩ := z1.1 q hq
            refine ⟨b1, b2, b3, ?_, b5, b6⟩
            by_cases e : q = 4 * k + sl
            · rw [e, va_up_self]; omega
            · rw [va_up_ne _ _ e]; exact b4
          · by_cases e : j = 24 * (4 * k + sl) + ul (4 * k + sl)
            · rw [e, va_up_self]; exact ho
            · rw [va_up_ne _ _ e]; exact z1.2.1 j hj
        · intro q hq hqs
          show MdM (va_up U.D (k * 4 + sl) (dCode (U.D (k * 4 + sl)) o x) q) _ _ _ _ _ _ _ _ _ _ q
          by_cases e : q = k * 4 + sl
          · rw [e, va_up_self, em]
            exact (z3 _ (by omega) hh).code
          · rw [va_up_ne _ _ e]
            exact (z3 q hq hqs).codeN (by omega) hu24
        · intro q hq hqs
          exact (z4 q hq hqs).codeN (fun e => by rw [e, em] at hqs; rw [show U.hs (k * 4 + sl) = false from hqs] at hh; cases hh) hu24
    · have hs' : ¬ (U.D (k * 4 + sl)).2.2.2.2.2.1 < 24 := hs
      rw [if_neg hs', if_neg hs'] at h1
      refine Two.rd (c := 3) (v := nI 0) hU hC (by decide) h1 (fun σ1 fa hg an u1 u2 ur ul uo ua uc us ut uk kp mm fm hx => ?_)
      have eu := hul hx
      have z := mo_code (G := G) (x := x) hl hx.1.o hx.2.1 hx.2.2.1 hk hsl ho hnm (by rw [eu]; exact hsz)
      rw [if_neg (by rw [eu]; exact hs), if_neg (by rw [eu]; exact hs)] at z
      exact z
theorem co_catcher (hl : l.stackTraces = false) (hU : UI U) (hC : RC σ U) {k sl sp tr ki : Int32} : Two l G m_JC_catcher m_Mo_catcher [xA, xN, xS] [.int k, .int sl, .int sp, .int tr, .int ki] σ U := by
  obtain ⟨mt, bf, gv, jn, MP, FH, aw, hj, hgv, hbf, hgk, hz, hmt, hrl, hA⟩ := id hC
  have hw := hgv.1
  by_cases h : k < nI 0 ∨ nI 5 < k
  · exact Two.rd (c := 1) (v := nI 0) hU hC (by decide) (jc_cat_A1 hl hj hw h) (fun σ1 fa hg an u1 u2 ur ul uo ua uc us ut uk kp mm fm hx => mo_cat_A hl hx.1.o hx.2.1 (Or.inl (rg_out (by decide) h)))
  obtain ⟨k, hk, e⟩ := rg_of (by decide) h
  subst e
  by_cases h : sl < nI 0 ∨ nI 3 < sl
  · exact Two.rd (c := 1) (v := nI 0) hU hC (by decide) (jc_cat_A2 hl hj hw hk h) (fun σ1 fa hg an u1 u2 ur ul uo ua uc us ut uk kp mm fm hx => mo_cat_A hl hx.1.o hx.2.1 (Or.inr (Or.inl (rg_out (by decide) h))))
  obtain ⟨sl, hsl, e⟩ := rg_of (by decide) h
  subst e
  by_cases h : sp < nI 0 ∨ nI 1023 < sp
  · exact Two.rd (c := 1) (v := nI 0) hU hC (by decide) (jc_cat_A3 hl hj hw hk hsl h) (fun σ1 fa hg an u1 u2 ur ul uo ua uc us ut uk kp mm fm hx => mo_cat_A hl hx.1.o hx.2.1 (Or.inr (Or.inr (Or.inl (rg_out (by decide) h)))))
  obtain ⟨sp, hsp, e⟩ := rg_of (by decide) h
  subst e
  by_cases h : tr < nI 0 ∨ nI 23 < tr
  · exact Two.rd (c := 1) (v := nI 0) hU hC (by decide) (jc_cat_A4 hl hj hw hk hsl hsp h) (fun σ1 fa hg an u1 u2 ur ul uo ua uc us ut uk kp mm fm hx => mo_cat_A hl hx.1.o hx.2.1 (Or.inr (Or.inr (Or.inr (Or.inl (rg_out (by decide) h))))))
  obtain ⟨tr, htr, e⟩ := rg_of (by decide) h
  subst e
  by_cases h : ki < nI 0 ∨ nI 6 < ki
  · exact Two.rd (c := 1) (v := nI 0) hU hC (by decide) (jc_cat_A5 hl hj hw hk hsl hsp htr h) (fun σ1 fa hg an u1 u2 ur ul uo ua uc us ut uk kp mm fm hx => mo_cat_A hl hx.1.o hx.2.1 (Or.inr (Or.inr (Or.inr (Or.inr (rg_out (by decide) h))))))
  obtain ⟨ki, hki, e⟩ := rg_of (by decide) h
  subst e
  by_cases hn : U.tb k = false ∨ mt (k * 4 + sl) = none
  · exact Two.rd (c := 2) (v := nI 0) hU hC (by decide) (jc_cat_N hl hj hw hk hsl hsp htr hki hn) (fun σ1 fa hg an u1 u2 ur ul uo ua uc us ut uk kp mm fm hx => mo_cat_N hl hx.1.o hx.2.1 hk hsl hsp htr hki (noM_n hmt hn))
  have ht : U.tb k = true := by cases z : U.tb k with | true => rfl | false => exact absurd (Or.inl z) hn
  cases hm : mt (k * 4 + sl) with
  | none => exact absurd (Or.inr hm) hn
  | some a =>
    obtain ⟨hnm, hh⟩ := noM_y hmt ht hm
    have em : 4 * k + sl = k * 4 + sl := by omega
    have hme := hgv.2.2.2.1 _ a hm
    have ha54 := (hrl.1 _ a hm).1
    have haL := hrl.2.2.1 _ a hm
    have hd := hU.2.2.2.1 _ hh
    rw [em] at hd hh
    have hnc : dnc (U.D (k * 4 + sl)) ≤ 2 := hd.2.2.2.2.2.1
    have h1 := jc_cat (G := G) hl hj hw hme hk hsl hsp htr hki ht hm (by omega) hnc
    have hul : ∀ {fa hg an u1 u2 ur ul uo ua uc us ut uk kp mm fm} {σ1 : jl_S}, RMx σ1 U fa hg an u1 u2 ur ul uo ua uc us ut uk kp mm fm → uc (4 * k + sl) = dnc (U.D (k * 4 + sl)) := fun hx => by
      rw [em]
      exact (hx.2.2.2.2.2.2.1.2.2.1 (k * 4 + sl) (by omega) hh).2.2.2.2.2.1.symm
    by_cases hs : dnc (U.D (k * 4 + sl)) < 2
    · have hs' : (U.D (k * 4 + sl)).2.2.2.2.2.2.2.2.2.2 < 2 := hs
      rw [if_pos hs', if_pos hs'] at h1
      have hU' := hU.cat hh hsp htr hki hs
      obtain ⟨hM0, g1, g2, g3, g4, g5, g6, g7, g8⟩ := hme
      have q0 : σ[0]? = some (.inr (6, [.ref 1, .ref 9, .ref 13, .int (bi U.vf)])) := hj
      refine ⟨0, nI (dnc (U.D (k * 4 + sl)) + 1), uCat U (k * 4 + sl) sp tr ki, hU', Nat.zero_le _, ⟨_, _, ⟨rfl, ?_, (((((FrC.refl.set (by omega)).set (by omega)).set (by omega)).set (by omega)).set (by omega)).set (by omega)⟩, h1⟩, fun σ1 fa hM => ?_⟩
      · refine RC.me (U := U) (m := k * 4 + sl) (a := a) hU' (jl_sn (by omega) (jl_sn (by omega) (jl_sn (by omega) (jl_sn (by omega) (jl_sn (by omega) (jl_ss q0)))))) hm ?_ hgv hbf hgk hz hmt hrl hA (fun i h0 hi => ?_) ?_ (fun j hj => va_up_ne _ _ hj) rfl rfl rfl rfl rfl rfl rfl rfl rfl rfl rfl rfl rfl
        · show MeD _ a (va_up U.D (k * 4 + sl) (dCat (U.D (k * 4 + sl)) sp tr ki) (k * 4 + sl)) _ _
          rw [va_up_self]
          exact ⟨jl_ss (jl_sn (by omega) (jl_sn (by omega) (jl_sn (by omega) (jl_sn (by omega) (jl_sn (by omega) (hM0)))))), jl_sn (by omega) (jl_sn (by omega) (jl_sn (by omega) (jl_sn (by omega) (jl_sn (by omega) (jl_sn (by omega) (g1)))))), jl_sn (by omega) (jl_sn (by omega) (jl_sn (by omega) (jl_sn (by omega) (jl_sn (by omega) (jl_sn (by omega) (g2)))))), jl_sn (by omega) (jl_sn (by omega) (jl_sn (by omega) (jl_sn (by omega) (jl_ss (jl_sn (by omega) (g3)))))), jl_sn (by omega) (jl_sn (by omega) (jl_sn (by omega) (jl_ss (jl_sn (by omega) (jl_sn (by omega) (g4)))))), jl_sn (by omega) (jl_sn (by omega) (jl_ss (jl_sn (by omega) (jl_sn (by omega) (jl_sn (by omega) (g5)))))), jl_sn (by omega) (jl_ss (jl_sn (by omega) (jl_sn (by omega) (jl_sn (by omega) (jl_sn (by omega) (g6)))))), jl_sn (by omega) (jl_sn (by omega) (jl_sn (by omega) (jl_sn (by omega) (jl_sn (by omega) (jl_sn (by omega) (g7)))))), jl_sn (by omega) (jl_sn (by omega) (jl_sn (by omega) (jl_sn (by omega) (jl_sn (by omega) (jl_sn (by omega) (g8))))))⟩
        · rw [List.getElem?_set_ne (by omega), List.getElem?_set_ne (by omega), List.getElem?_set_ne (by omega), List.getElem?_set_ne (by omega), List.getElem?_set_ne (by omega), List.getElem?_set_ne (by omega)]
        · rw [List.length_set, List.length_set, List.length_set, List.length_set, List.length_set, List.length_set]
      · obtain ⟨hg, an, u1, u2, ur, ul, uo, ua, uc, us, ut, uk, kp, mm, fm, hx⟩ := hM
        have eu := hul hx
        have z := mo_cat (G := G) hl hx.1.o hx.2.1 hx.2.2.1 hk hsl hsp htr hki hnm (by rw [eu]; exact hnc)
        rw [if_pos (by rw [eu]; exact hs), if_pos (by rw [eu]; exact hs)] at z
        obtain ⟨x1, x2, ⟨y1, y2, y3, y4, y5, y6, y7, y8, y9, y10⟩, x4, x5, x6, ⟨z1, z2, z3, z4⟩, x8⟩ := hx
        have hu2 : uc (4 * k + sl) < 2 := by rw [eu]; exact hs
        refine ⟨_, _, ⟨by rw [eu], ⟨hg, an, u1, u2, ur, ul, uo, ua, _, _, _, _, kp, mm, fm, (((((((x1.set22).setw (by decide)).setw (by decide)).setw (by decide)).setw (by decide)).set22).refl), MoW.sx (MoW.sx (MoW.sx (MoW.sx (MoW.sx (MoW.sx x2 (Or.inl (by decide))) (Or.inr (by decide))) (Or.inr (by decide))) (Or.inr (by decide))) (Or.inr (by decide))) (Or.inl (by decide)), ⟨jl_sn (by omega) (jl_sn (by omega) (jl_sn (by omega) (jl_sn (by omega) (jl_sn (by omega) (jl_sn (by omega) (y1)))))), jl_sn (by omega) (jl_sn (by omega) (jl_sn (by omega) (jl_sn (by omega) (jl_sn (by omega) (jl_sn (by omega) (y2)))))), jl_sn (by omega) (jl_sn (by omega) (jl_sn (by omega) (jl_sn (by omega) (jl_sn (by omega) (jl_sn (by omega) (y3)))))), jl_sn (by omega) (jl_sn (by omega) (jl_sn (by omega) (jl_sn (by omega) (jl_sn (by omega) (jl_sn (by omega) (y4)))))), jl_sn (by omega) (jl_sn (by omega) (jl_sn (by omega) (jl_sn (by omega) (jl_sn (by omega) (jl_sn (by omega) (y5)))))), jl_sn (by omega) (jl_sn (by omega) (jl_sn (by omega) (jl_sn (by omega) (jl_sn (by omega) (jl_sn (by omega) (y6)))))), jl_sn (by omega) (jl_ss (jl_sn (by omega) (jl_sn (by omega) (jl_sn (by omega) (jl_sn (by omega) (y7)))))), jl_sn (by omega) (jl_sn (by omega) (jl_sn (by omega) (jl_sn (by omega) (jl_ss (jl_sn (by omega) (y8)))))), jl_sn (by omega) (jl_sn (by omega) (jl_sn (by omega) (jl_ss (jl_sn (by omega) (jl_sn (by omega) (y9)))))), jl_sn (by omega) (jl_sn (by omega) (jl_ss (jl_sn (by omega) (jl_sn (by omega) (jl_sn (by omega) (y10))))))⟩, jl_sn (by omega) (jl_sn (by omega) (jl_sn (by omega) (jl_sn (by omega) (jl_sn (by omega) (jl_sn (by omega) (x4)))))), jl_sn (by omega) (jl_sn (by omega) (jl_sn (by omega) (jl_sn (by omega) (jl_sn (by omega) (jl_sn (by omega) (x5)))))), jl_sn (by omega) (jl_sn (by omega) (jl_sn (by omega) (jl_sn (by omega) (jl_sn (by omega) (jl_sn (by omega) (x6)))))), ⟨?_, z2, ?_, ?_⟩, x8⟩, (((((FrX.refl.set (by decide)).set (by decide)).set (by decide)).set (by decide)).set (by decide)).set (by decide)⟩, z⟩
        · refine ⟨fun q hq => ?_, z1.2.1, fun j hj => ?_⟩
          · obtain ⟨b1, b2, b3, b4, b5, b6⟩ := z1.1 q hq
            refine ⟨b1, b2, b3, b4, ?_, b6⟩
            by_cases e : q = 4 * k + sl
            · rw [e, va_up_self]; omega
            · rw [va_up_ne _ _ e]; exact b5
          · by_cases e : j = 2 * (4 * k + sl) + uc (4 * k + sl)
            · rw [e, va_up_self, va_up_self, va_up_self]; exact ⟨hsp, htr, hki⟩
            · rw [va_up_ne _ _ e, va_up_ne _ _ e, va_up_ne _ _ e]; exact z1.2.2 j hj
        · intro q hq hqs
          show MdM (va_up U.D (k * 4 + sl) (dCat (U.D (k * 4 + sl)) sp tr ki) q) _ _ _ _ _ _ _ _ _ _ q
          by_cases e : q = k * 4 + sl
          · rw [e, va_up_self, em]
            exact (z3 _ (by omega) hh).cat (by rw [← em]; exact hu2)
          · rw [va_up_ne _ _ e]
            exact (z3 q hq hqs).catN (by omega) hu2
        · intro q hq hqs
          exact (z4 q hq hqs).catN (fun e => by rw [e, em] at hqs; rw [show U.hs (k * 4 + sl) = false from hqs] at hh; cases hh) hu2
    · have hs' : ¬ (U.D (k * 4 + sl)).2.2.2.2.2.2.2.2.2.2 < 2 := hs
      rw [if_neg hs', if_neg hs'] at h1
      refine Two.rd (c := 3) (v := nI 0) hU hC (by decide) h1 (fun σ1 fa hg an u1 u2 ur ul uo ua uc us ut uk kp mm fm hx => ?_)
      have eu := hul hx
      have z := mo_cat (G := G) hl hx.1.o hx.2.1 hx.2.2.1 hk hsl hsp htr hki hnm (by rw [eu]; exact hnc)
      rw [if_neg (by rw [eu]; exact hs), if_neg (by rw [eu]; exact hs)] at z
      exact z
end WCd
