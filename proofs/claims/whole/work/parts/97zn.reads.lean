/-! calls that only read: class and model answer alike -/
section WRd
variable {l : Launch} {G : jl_G} {σ : jl_S} {U : Un}
theorem NQ.h {σ0 : jl_S} {H : Hp} {fa vf wh wy hg ov oh dn an : Int32} (h : NQ σ0 σ [] H fa vf wh wy hg ov oh dn an) : ∃ ks kc kv, MoH σ ks kc kv ∧ HpB H ks kc kv := by
  obtain ⟨fx, fp, fh, lw, lk, vl, vk, ks, kc, kv, lo, sk, hO, f1, f2, f3, f4, f5, f6, f7, hH, hB, hy1, hR1, hF⟩ := h
  exact ⟨ks, kc, kv, hH, hB⟩
theorem co_fault (hl : l.stackTraces = false) (hU : UI U) (hC : RC σ U) {b : Int32} : Two l G m_JC_fault m_Mo_fault [] [.int b] σ U := by
  obtain ⟨mt, bf, gv, jn, MP, FH, aw, hj, hgv, hbf, hgk, hz, hmt, hrl, hA⟩ := id hC
  exact Two.rd (c := 0) (v := if b = 0 then U.wr else U.wz) hU hC (Nat.zero_le _) (jc_fault hl hj hgv.2.2.2.2.1) (fun σ1 fa hg an u1 u2 ur ul uo ua uc us ut uk kp mm fm hx => mo_fault hl hx.1.o hx.2.1)
theorem toInt_w {w : Int32} (h : w < nI 0 ∨ nI 3 < w) : w.toInt < 0 ∨ 3 < w.toInt := by
  rcases h with h | h
  · left
    have z := Int32.lt_iff_toInt_lt.mp h
    rw [show (nI 0).toInt = 0 by decide +kernel] at z
    exact z
  · right
    have z := Int32.lt_iff_toInt_lt.mp h
    rw [show (nI 3).toInt = 3 by decide +kernel] at z
    exact z
theorem co_outcome (hl : l.stackTraces = false) (hU : UI U) (hC : RC σ U) {w : Int32} : Two l G m_JC_outcome m_Mo_outcome [xA] [.int w] σ U := by
  obtain ⟨mt, bf, gv, jn, MP, FH, aw, hj, hgv, hbf, hgk, hz, hmt, hrl, hA⟩ := id hC
  obtain ⟨tp, uw, ps, ty, va, a1, a2, a3, a4, a5, hS, a7, a8, a9⟩ := id hz
  by_cases h : w < nI 0 ∨ nI 3 < w
  · exact Two.rd (c := 1) (v := nI 0) hU hC (Nat.le_refl _) (jc_outc_A hl hj a1 hS h) (fun σ1 fa hg an u1 u2 ur ul uo ua uc us ut uk kp mm fm hx => mo_outc_A hl hx.1.o hx.2.1 (toInt_w h))
  · obtain ⟨j, hj4, e⟩ := rg_of (by decide) h
    subst e
    match j, hj4 with
    | 0, _ => exact Two.rd (c := 0) (v := U.su) hU hC (Nat.zero_le _) (jc_outc_0 hl hj a1 hS) (fun σ1 fa hg an u1 u2 ur ul uo ua uc us ut uk kp mm fm hx => mo_outc_0 hl hx.1.o hx.2.1)
    | 1, _ => exact Two.rd (c := 0) (v := U.dt) hU hC (Nat.zero_le _) (jc_outc_1 hl hj a1 hS) (fun σ1 fa hg an u1 u2 ur ul uo ua uc us ut uk kp mm fm hx => mo_outc_1 hl hx.1.o hx.2.1)
    | 2, _ => exact Two.rd (c := 0) (v := U.dn) hU hC (Nat.zero_le _) (jc_outc_2 hl hj a1 hS) (fun σ1 fa hg an u1 u2 ur ul uo ua uc us ut uk kp mm fm hx => mo_outc_2 hl hx.1.o hx.2.1)
    | 3, _ => exact Two.rd (c := 0) (v := nI U.H.n) hU hC (Nat.zero_le _) (jc_outc_3 hl hj a1 hS) (fun σ1 fa hg an u1 u2 ur ul uo ua uc us ut uk kp mm fm hx => mo_outc_3 hl hx.1.o hx.2.1)
    | j + 4, h4 => omega
theorem co_heap (hl : l.stackTraces = false) (hU : UI U) (hC : RC σ U) {n i : Int32} : Two l G m_JC_heap m_Mo_heap [xB] [.int n, .int i] σ U := by
  obtain ⟨mt, bf, gv, jn, MP, FH, aw, hj, hgv, hbf, hgk, hz, hmt, hrl, hA⟩ := id hC
  obtain ⟨tp, uw, ps, ty, va, a1, a2, a3, a4, a5, hS, a7, a8, a9⟩ := id hz
  obtain ⟨h40, ho, h18⟩ := hU.2.2.2.2.2.2.2.2
  cases e : stH U.H.sz U.H.n n i with
  | false =>
    refine Two.rd (c := 1) (v := nI 0) hU hC (Nat.le_refl _) (jc_heap_X hl hj a1 hS h40 e) (fun σ1 fa hg an u1 u2 ur ul uo ua uc us ut uk kp mm fm hx => ?_)
    obtain ⟨ks, kc, kv, hH, hB⟩ := hx.1.h
    cases e1 : outB n (nI U.H.n) with
    | true => exact mo_heap_X1 hl hx.1.o hx.2.1 hH e1
    | false =>
      obtain ⟨q, hq, en⟩ := outB_t (by omega) e1
      subst en
      rw [stH_e hq h40] at e
      refine mo_heap_X2 hl hx.1.o hx.2.1 hH hq h40 ?_
      rw [(hB q hq).2.1]
      simpa using e
  | true =>
    obtain ⟨a, b, ha, hb, en, ei⟩ := stH_of h40 (fun j _ => h18 j) e
    subst en ei
    have hb8 := h18 a
    refine Two.rd (c := 0) (v := U.H.va (a * 18 + b)) hU hC (Nat.zero_le _) (jc_heap hl hj a1 hS h40 e ha (by omega)) (fun σ1 fa hg an u1 u2 ur ul uo ua uc us ut uk kp mm fm hx => ?_)
    obtain ⟨ks, kc, kv, hH, hB⟩ := hx.1.h
    obtain ⟨_, b2, b3⟩ := hB a ha
    have z := mo_heap (G := G) (n := a) (i := b) hl hx.1.o hx.2.1 hH ha h40 (by rw [b2]; exact hb) (by rw [b2]; exact hb8)
    rw [b3 b hb] at z
    exact z
theorem co_about (hl : l.stackTraces = false) (hU : UI U) (hC : RC σ U) {k w : Int32} : Two l G m_JC_about m_Mo_about [xA] [.int k, .int w] σ U := by
  obtain ⟨mt, bf, gv, jn, MP, FH, aw, hj, hgv, hbf, hgk, hz, hmt, hrl, hA⟩ := id hC
  have hw := hgv.1
  by_cases h : k < nI 0 ∨ nI 5 < k
  · exact Two.rd (c := 1) (v := nI 0) hU hC (Nat.le_refl _) (jc_about_A1 hl hj hw h) (fun σ1 fa hg an u1 u2 ur ul uo ua uc us ut uk kp mm fm hx => mo_about_A hl hx.1.o hx.2.1 hx.2.2.1 (Or.inl (rg_out (by decide) h)))
  obtain ⟨k, hk, e⟩ := rg_of (by decide) h
  subst e
  by_cases h2 : w < nI 0 ∨ nI 6 < w
  · exact Two.rd (c := 1) (v := nI 0) hU hC (Nat.le_refl _) (jc_about_A2 hl hj hw hk h2) (fun σ1 fa hg an u1 u2 ur ul uo ua uc us ut uk kp mm fm hx => mo_about_A hl hx.1.o hx.2.1 hx.2.2.1 (Or.inr (rg_out (by decide) h2)))
  obtain ⟨w, hw7, e⟩ := rg_of (by decide) h2
  subst e
  match w, hw7 with
  | 0, _ => exact Two.rd (c := 0) (v := bi (U.tb k)) hU hC (Nat.zero_le _) (jc_about_0 hl hj hw hk) (fun σ1 fa hg an u1 u2 ur ul uo ua uc us ut uk kp mm fm hx => mo_about_0 hl hx.1.o hx.2.1 hx.2.2.1 hk)
  | w + 1, hw7 =>
    cases ht : U.tb k with
    | false => exact Two.rd (c := 0) (v := -1) hU hC (Nat.zero_le _) (jc_about_F hl hj hw hk (by omega) ht) (fun σ1 fa hg an u1 u2 ur ul uo ua uc us ut uk kp mm fm hx => mo_about_F hl hx.1.o hx.2.1 hx.2.2.1 hk (by omega) ht)
    | true =>
      match w, hw7 with
      | 0, _ => exact Two.rd (c := 0) (v := en (U.pr k)) hU hC (Nat.zero_le _) (jc_about_1 hl hj hw hk ht) (fun σ1 fa hg an u1 u2 ur ul uo ua uc us ut uk kp mm fm hx => mo_about_1 hl hx.1.o hx.2.1 hx.2.2.1 hk ht)
      | 1, _ => exact Two.rd (c := 0) (v := nI (U.fi k + U.ow k)) hU hC (Nat.zero_le _) (jc_about_2 hl hj hw hk ht) (fun σ1 fa hg an u1 u2 ur ul uo ua uc us ut uk kp mm fm hx => mo_about_2 hl hx.1.o hx.2.1 hx.2.2.1 hk ht hU.1)
      | w + 2, hw7 =>
        cases hm : mt (k * 4 + w) with
        | none =>
          have hh : U.hs (4 * k + w) = false := by rw [hmt, Nat.mul_comm, hm]; rfl
          exact Two.rd (c := 0) (v := -1) hU hC (Nat.zero_le _) (jc_about_N hl hj hw hk (by omega) ht hm) (fun σ1 fa hg an u1 u2 ur ul uo ua uc us ut uk kp mm fm hx => mo_about_N hl hx.1.o hx.2.1 hx.2.2.1 hk (by omega) ht hh)
        | some a =>
          have hh : U.hs (4 * k + w) = true := by rw [hmt, Nat.mul_comm, hm]; rfl
          have hme := hgv.2.2.2.1 _ a hm
          rw [Nat.mul_comm] at hme
          refine Two.rd (c := 0) (v := nI (dsz (U.D (4 * k + w)))) hU hC (Nat.zero_le _) (jc_about_M hl hj hw hme hk (by omega) ht hm) (fun σ1 fa hg an u1 u2 ur ul uo ua uc us ut uk kp mm fm hx => ?_)
          have z := mo_about_M (G := G) (w := w) hl hx.1.o hx.2.1 hx.2.2.1 hk (by omega) ht hh
          rw [(hx.2.2.2.2.2.2.1.2.2.1 (4 * k + w) (by omega) hh).2.2.2.1] at z
          exact z
theorem noM_n {tb hs : Nat → Bool} {mt : Nat → Option Nat} {k sl : Nat} (hm : mtH hs mt) (h : tb k = false ∨ mt (k * 4 + sl) = none) : noM tb hs k sl = true := by
  unfold noM
  rcases h with h | h
  · rw [h]; rfl
  · rw [hm, Nat.mul_comm, h]; simp
theorem noM_y {tb hs : Nat → Bool} {mt : Nat → Option Nat} {k sl a : Nat} (hm : mtH hs mt) (h : tb k = true) (h2 : mt (k * 4 + sl) = some a) : noM tb hs k sl = false ∧ hs (4 * k + sl) = true := by
  have z : hs (4 * k + sl) = true := by rw [hm, Nat.mul_comm, h2]; rfl
  unfold noM
  rw [h, z]
  exact ⟨rfl, rfl⟩
theorem co_map (hl : l.stackTraces = false) (hU : UI U) (hC : RC σ U) {k sl pc i : Int32} : Two l G m_JC_map m_Mo_map [xA, xN] [.int k, .int sl, .int pc, .int i] σ U := by
  obtain ⟨mt, bf, gv, jn, MP, FH, aw, hj, hgv, hbf, hgk, hz, hmt, hrl, hA⟩ := id hC
  have hw := hgv.1
  by_cases h : k < nI 0 ∨ nI 5 < k
  · exact Two.rd (c := 1) (v := nI 0) hU hC (by decide) (jc_map_A1 hl hj hw h) (fun σ1 fa hg an u1 u2 ur ul uo ua uc us ut uk kp mm fm hx => mo_map_A hl hx.1.o hx.2.1 (Or.inl (rg_out (by decide) h)))
  obtain ⟨k, hk, e⟩ := rg_of (by decide) h
  subst e
  by_cases h : sl < nI 0 ∨ nI 3 < sl
  · exact Two.rd (c := 1) (v := nI 0) hU hC (by decide) (jc_map_A2 hl hj hw hk h) (fun σ1 fa hg an u1 u2 ur ul uo ua uc us ut uk kp mm fm hx => mo_map_A hl hx.1.o hx.2.1 (Or.inr (Or.inl (rg_out (by decide) h))))
  obtain ⟨sl, hs, e⟩ := rg_of (by decide) h
  subst e
  by_cases h : pc < nI 0 ∨ nI 23 < pc
  · exact Two.rd (c := 1) (v := nI 0) hU hC (by decide) (jc_map_A3 hl hj hw hk hs h) (fun σ1 fa hg an u1 u2 ur ul uo ua uc us ut uk kp mm fm hx => mo_map_A hl hx.1.o hx.2.1 (Or.inr (Or.inr (Or.inl (rg_out (by decide) h)))))
  obtain ⟨pc, hpc, e⟩ := rg_of (by decide) h
  subst e
  by_cases h : i < nI 0 ∨ nI 11 < i
  · exact Two.rd (c := 1) (v := nI 0) hU hC (by decide) (jc_map_A4 hl hj hw hk hs hpc h) (fun σ1 fa hg an u1 u2 ur ul uo ua uc us ut uk kp mm fm hx => mo_map_A hl hx.1.o hx.2.1 (Or.inr (Or.inr (Or.inr (rg_out (by decide) h)))))
  obtain ⟨i, hi, e⟩ := rg_of (by decide) h
  subst e
  by_cases hn : U.tb k = false ∨ mt (k * 4 + sl) = none
  · exact Two.rd (c := 2) (v := nI 0) hU hC (by decide) (jc_map_N hl hj hw hk hs hpc hi hn) (fun σ1 fa hg an u1 u2 ur ul uo ua uc us ut uk kp mm fm hx => mo_map_N hl hx.1.o hx.2.1 hk hs hpc hi (noM_n hmt hn))
  have ht : U.tb k = true := by cases z : U.tb k with | true => rfl | false => exact absurd (Or.inl z) hn
  cases hm : mt (k * 4 + sl) with
  | none => exact absurd (Or.inr hm) hn
  | some a =>
    obtain ⟨hnm, hh⟩ := noM_y hmt ht hm
    have hme := hgv.2.2.2.1 _ a hm
    have hC1 := jc_map (G := G) hl hj hw hme hk hs hpc hi ht hm
    have hA1 := hA _ hh
    rw [show 4 * k + sl = k * 4 + sl by omega] at hA1 hh
    have e96 : ∀ q, 12 * (96 * k + 24 * sl + pc) + q = 12 * (24 * (4 * k + sl) + pc) + q := fun q => by omega
    cases eA : U.A (k * 4 + sl) pc with
    | none =>
      rw [if_pos (hA1.n hpc eA)] at hC1
      refine Two.rd (c := 0) (v := -2) hU hC (Nat.zero_le _) hC1 (fun σ1 fa hg an u1 u2 ur ul uo ua uc us ut uk kp mm fm hx => ?_)
      have z := mo_map (G := G) hl hx.1.o hx.2.1 hx.2.2.2.2.1 hk hs hpc hi hnm
      have hM := hx.2.2.2.2.2.2.2 (4 * k + sl) (by omega)
      rw [show 4 * k + sl = k * 4 + sl by omega] at hM
      rw [if_pos (by rw [e96, show 4 * k + sl = k * 4 + sl by omega]; exact hM.n hpc eA)] at z
      exact z
    | some r =>
      obtain ⟨h, hr⟩ := hU.2.2.2.2.2.2.1 (k * 4 + sl) pc r eA
      have h5 := hr.2.1
      have e6 : en (r 6) ≠ -2 := by rw [hr.1]; exact nI_m2 (by omega)
      have c0 := hA1 pc hpc
      rw [eA] at c0
      have c0 : ∀ i, i < 12 → MP (k * 4 + sl) (pc * 12 + i) = en (r i) := c0
      rw [if_neg (by rw [c0 6 (by decide)]; exact e6), c0 i hi] at hC1
      refine Two.rd (c := 0) (v := en (r i)) hU hC (Nat.zero_le _) hC1 (fun σ1 fa hg an u1 u2 ur ul uo ua uc us ut uk kp mm fm hx => ?_)
      have z := mo_map (G := G) hl hx.1.o hx.2.1 hx.2.2.2.2.1 hk hs hpc hi hnm
      have hM := hx.2.2.2.2.2.2.2 (4 * k + sl) (by omega) pc hpc
      rw [show 4 * k + sl = k * 4 + sl by omega, eA] at hM
      have hM : ∀ i, i < 12 → mm (12 * (24 * (k * 4 + sl) + pc) + i) = en (r i) := hM
      rw [e96, e96, show 4 * k + sl = k * 4 + sl by omega, if_neg (by rw [hM 6 (by decide)]; exact e6), hM i hi] at z
      exact z
end WRd
