/-! run: class and model answer alike and hold the same afterwards -/
section WRu
variable {l : Launch} {G : jl_G} {σ σ' : jl_S} {U : Un} {tb : Nat → Bool} {pr : Nat → Option Nat} {ow fi ft : Nat → Nat} {hs : Nat → Bool} {sg : Int32 → Option Sg} {D : Nat → MDt} {f : Fm} {fs : List Fm} {H H' : Hp} {mt : Nat → Option Nat} {how what n d : Nat} {gd : Bool}
theorem sgn_f {F : List Fm} (hn : n ≠ 0) (e : sgn pr D n F H = .fin how what none H') : how ≠ 0 := by
  unfold sgn at e
  split at e
  · cases e
  · cases e; exact hn
theorem stp_f0 (e : stp pr ow fi ft sg hs D f fs H = .fin how what none H') : how ≠ 0 := by
  unfold stp at e
  dsimp only at e
  split at e
  · cases e
  · split at e
    · split at e
      · cases e; decide
      · split at e
        · exact sgn_f (by decide) e
        · split at e
          · cases e; decide
          · split at e
            · cases e; decide
            · cases e
    · split at e
      · split at e
        · exact sgn_f (by decide) e
        · split at e
          · cases e
          · cases e; decide
      · split at e
        · split at e
          · cases e
          · cases e
        · split at e
          · cases e
          · next q hi => exact sgn_f (by have z := ins_sg hi; omega) e
          · cases e; decide
/-- a run that ends in a RESULT has one -/
theorem mrn_0 : ∀ n (f : Fm) (fs : List Fm) (H : Hp) dn, mrn tb pr ow fi ft sg hs D gd n f fs H dn = (how, what, d, none, H') → how ≠ 0 := by
  intro n
  induction n with
  | zero => intro f fs H dn e; cases e; decide
  | succ n ih =>
    intro f fs H dn e
    rw [mrn] at e
    split at e
    · cases e; decide
    · split at e
      · exact ih _ _ _ _ e
      · cases e; decide
      · next e1 => cases e; exact stp_f0 e1
theorem mmo_tb (hU : UI U) {k sl m : Nat} (hk : k < 6) (hsl : sl < 4) (e : mmo U.pr U.hs sl 6 (some k) = some m) : U.tb k = true := by
  cases ht : U.tb k with
  | true => rfl
  | false =>
    rw [mmo_up hU.1 hk] at e
    have h1 : U.hs (4 * k + sl) = false := by
      cases z : U.hs (4 * k + sl) with
      | false => rfl
      | true =>
        have := (hU.2.2.1 _ z).2
        rw [show (4 * k + sl) / 4 = k by omega, ht] at this; cases this
    rw [h1, (hU.1.2.2.2.2.2 k hk ht).2] at e
    cases e
theorem found_y (hU : UI U) (hmt : mtH U.hs mt) {k sl m : Nat} (hk : k < 6) (hsl : sl < 4) (e : mmo U.pr U.hs sl 6 (some k) = some m) : ∃ a, mt m = some a ∧ found U.tb U.pr mt (nI k) (nI sl) = some a := by
  have ht := mmo_tb hU hk hsl e
  obtain ⟨c0, _, hc, em, hh⟩ := mmo_of hU.1 6 k hk hk e
  cases ea : mt m with
  | none => rw [hmt, ea] at hh; cases hh
  | some a =>
    refine ⟨a, rfl, ?_⟩
    unfold found
    rw [if_neg (by rw [hasI_n hk, ht]; decide), if_neg (nI_pos (by omega)), if_pos ((nI_ltI (by omega) (by decide)).mpr hsl), nI_clamp (by omega), nI_clamp (by omega), fnd_mmo hmt, e]
    exact ea
theorem found_n (hmt : mtH U.hs mt) {k sl : Nat} (hk : k < 6) (hsl : sl < 4) (ht : U.tb k = true) (e : mmo U.pr U.hs sl 6 (some k) = none) : found U.tb U.pr mt (nI k) (nI sl) = none := by
  unfold found
  rw [if_neg (by rw [hasI_n hk, ht]; decide), if_neg (nI_pos (by omega)), if_pos ((nI_ltI (by omega) (by decide)).mpr hsl), nI_clamp (by omega), nI_clamp (by omega), fnd_mmo hmt, e]
  rfl
theorem KZ.refl' {σ0 : jl_S} {su dt dq aw : Int32} (h : KZ σ0 σ H su dt dq aw) : KZ σ σ H su dt dq aw := by
  obtain ⟨tp, uw, ps, ty, va, a1, a2, a3, a4, a5, a6, a7, a8, a9⟩ := h
  exact ⟨tp, uw, ps, ty, va, a1, a2, a3, a4, a5, a6, a7, a8, FrK.refl⟩
theorem KZ.frk {σ0 : jl_S} {su dt dq aw : Int32} (h : KZ σ0 σ H su dt dq aw) : FrK σ0 σ := by
  obtain ⟨tp, uw, ps, ty, va, a1, a2, a3, a4, a5, a6, a7, a8, a9⟩ := h
  exact a9
/-- the class behind a run -/
theorem RC.r {z : Nat × Nat × Nat × Option Int32 × Hp} {aw : Int32} (hU' : UI (uRun U z)) (hC : RC σ U) (hz' : KZ σ σ' z.2.2.2.2 (nI z.1) (nI z.2.1) (nI z.2.2.1) aw) : RC σ' (uRun U z) ∧ FrC σ σ' := by
  obtain ⟨mt, bf, gv, jn, MP, FH, aw0, hj, ⟨⟨w1, w2, w3, w4, w5, w6, w7⟩, v2, v3, v4, v5, v6, v7, v8⟩, hbf, hgk, hz, hmt, hrl, hA⟩ := hC
  have hf := hz'.frk
  have g : ∀ {j : Nat} {c : jl_C}, j < 13 → σ[j]? = some c → σ'[j]? = some c := fun h1 e => (hf.2 _ (Or.inl h1)).trans e
  have hM : ∀ m a, mt m = some a → MeD σ' a (U.D m) (MP m) (FH m) := fun m a e => (v4 m a e).fr9 (fun i h1 h2 => hf.2 i (Or.inr (by have := (hrl.1 m a e).1; omega)))
  refine ⟨⟨mt, bf, gv, jn, MP, FH, aw, g (by decide) hj, ⟨⟨g (by decide) w1, g (by decide) w2, g (by decide) w3, g (by decide) w4, g (by decide) w5, g (by decide) w6, g (by decide) w7⟩, g (by decide) v2, SgC_of hU' hmt hM, hM, g (by decide) v5, g (by decide) v6, g (by decide) v7, g (by decide) v8⟩, hbf, hgk, hz'.refl', hmt, ?_, hA⟩, Nat.le_of_eq hf.1.symm, fun i h1 h2 => hf.2 i (Or.inr (by omega))⟩
  rw [hf.1]; exact hrl
/-- the model behind a run -/
theorem RMx.r {z : Nat × Nat × Nat × Option Int32 × Hp} {σ1 : jl_S} {fa fa' hg an hg' an' : Int32} {u1 u2 : Nat → Option Nat} {ur ul uo : Nat → Nat} {ua : Nat → Int32} {uc us ut uk : Nat → Nat} {kp : Rw} {mm : Nat → Int32} {fm : Nat → Bool} (hx : RMx σ1 U fa hg an u1 u2 ur ul uo ua uc us ut uk kp mm fm) (hq : NQ σ1 σ' [] z.2.2.2.2 fa' (bi U.vf) U.wr U.wz hg' (nI z.1) (nI z.2.1) (nI z.2.2.1) an') : RM σ' (uRun U z) fa' ∧ FrX σ1 σ' := by
  obtain ⟨x1, x2, x3, x4, x5, x6, x7, x8⟩ := hx
  have hf : FrN σ1 σ' := by
    obtain ⟨fx, fp, fh, lw, lk, vl, vk, ks, kc, kv, lo, sk, hO, f1, f2, f3, f4, f5, f6, f7, hH, hB, hy1, hR1, hF⟩ := hq
    exact hF
  have g : ∀ {j : Nat} {c : jl_C}, j ≠ 22 → (j < 40 ∨ j = 42 ∨ 52 < j) → σ1[j]? = some c → σ'[j]? = some c := fun h1 h2 e => (hf.2 _ h1 h2).trans e
  exact ⟨⟨hg', an', u1, u2, ur, ul, uo, ua, uc, us, ut, uk, kp, mm, fm, hq.refl, x2.fn hf, x3.fn hf, g (by decide) (by decide) x4, g (by decide) (by decide) x5, g (by decide) (by decide) x6, x7, x8⟩, hf.1, fun i hi => hf.2 i (by omega) (by omega)⟩
theorem fuel_of {fu : Int32} (h : ¬ (fu < nI 1 ∨ nI 400 < fu)) : ∃ n, 1 ≤ n ∧ n ≤ 400 ∧ fu = nI n := by
  obtain ⟨j, hj, e⟩ := rg_of (k := fu) (n := 400) (by decide) (fun z => h (z.elim (fun q => Or.inl (Int32.lt_trans q (by decide +kernel))) Or.inr))
  subst e
  refine ⟨j, ?_, by omega, rfl⟩
  by_cases z : j = 0
  · subst z; exact absurd (Or.inl (by decide +kernel)) h
  · omega
theorem co_run (hl : l.stackTraces = false) (hU : UI U) (hC : RC σ U) {k xa xb fu : Int32} : Two l G m_JC_run m_Mo_run [xA, xN, xS, xU, xB] [.int k, .int xa, .int xb, .int fu, .int (bi gd)] σ U := by
  obtain ⟨mt, bf, gv, jn, MP, FH, aw, hj, hgv, hbf, hgk, hz, hmt, hrl, hA⟩ := id hC
  have hw := hgv.1
  by_cases h : k < nI 0 ∨ nI 5 < k
  · exact Two.rd (c := 1) (v := nI 0) hU hC (by decide) (jc_run_A1 hl hj hw h) (fun σ1 fa hg an u1 u2 ur ul uo ua uc us ut uk kp mm fm hx => mo_run_A1 hl hx.1.o hx.2.1 (rg_out (by decide) h))
  obtain ⟨k, hk, e⟩ := rg_of (by decide) h
  subst e
  by_cases h : fu < nI 1 ∨ nI 400 < fu
  · exact Two.rd (c := 1) (v := nI 0) hU hC (by decide) (jc_run_A2 hl hj hw hk h) (fun σ1 fa hg an u1 u2 ur ul uo ua uc us ut uk kp mm fm hx => mo_run_A2 hl hx.1.o hx.2.1 hk h)
  obtain ⟨n, hn1, hn4, e⟩ := fuel_of h
  subst e
  cases ht : U.tb k with
  | false => exact Two.rd (c := 2) (v := nI 0) hU hC (by decide) (jc_run_N hl hj hw hk hn1 hn4 ht) (fun σ1 fa hg an u1 u2 ur ul uo ua uc us ut uk kp mm fm hx => mo_run_N hl hx.1.o hx.2.1 hk hn1 hn4 ht)
  | true =>
  by_cases hgu : gd = false ∧ U.vf = false
  · obtain ⟨hg0, hv⟩ := hgu
    subst hg0
    refine Two.rd (c := 4) (v := nI 0) hU hC (by decide) (jc_run_U hl hj hw hk hn1 hn4 ht hv) (fun σ1 fa hg an u1 u2 ur ul uo ua uc us ut uk kp mm fm hx => ?_)
    have hO := hx.1.o
    rw [hv] at hO ⊢
    exact mo_run_U hl hO hx.2.1 hk hn1 hn4 ht rfl
  have hgv2 : gd = true ∨ U.vf = true := by
    cases gd with
    | true => exact Or.inl rfl
    | false =>
      cases hv : U.vf with
      | true => exact Or.inr rfl
      | false => exact absurd ⟨rfl, hv⟩ hgu
  cases hmm : mmo U.pr U.hs 0 6 (some k) with
  | none =>
    have hfn := found_n (mt := mt) hmt hk (by decide) ht hmm
    cases gd with
    | true => exact Two.rd (c := 5) (v := nI 0) hU hC (by decide) (jc_run_X1 hl hj hw hk hn1 hn4 ht hU.1.1 hfn) (fun σ1 fa hg an u1 u2 ur ul uo ua uc us ut uk kp mm fm hx => mo_run_X1 hl hx.1.o hx.2.1 hk hn1 hn4 ht rfl (dsc_of hU.1) hmm)
    | false =>
      have hv : U.vf = true := hgv2.elim (fun z => by cases z) id
      refine Two.rd (c := 5) (v := nI 0) hU hC (by decide) (jc_run_X0 hl hj hw hk hn1 hn4 ht hv hU.1.1 hfn) (fun σ1 fa hg an u1 u2 ur ul uo ua uc us ut uk kp mm fm hx => ?_)
      have hO := hx.1.o
      rw [hv] at hO ⊢
      exact mo_run_X0 hl hO hx.2.1 hk hn1 hn4 ht rfl (dsc_of hU.1) hmm
  | some m =>
    obtain ⟨c0, _, hc, em, hhs⟩ := mmo_of hU.1 6 k hk hk hmm
    have hm24 : m < 24 := by omega
    obtain ⟨a, hma, hfa⟩ := found_y hU hmt hk (by decide) hmm
    have hD : ∀ m, m < 24 → U.hs m = true → MdOk (U.D m) := fun m _ h => hU.2.2.2.1 m h
    have hD2 : ∀ m, mt m ≠ none → MdOk (U.D m) := fun m h => hU.2.2.2.1 m (by rw [hmt]; cases e : mt m with | none => exact absurd e h | some a => rfl)
    have hsf := hU.start (gd := gd) (a := xa) (c := xb) hgv2 hk ht hmm
    have hW : gd = false → FixW U.tb U.pr U.ow U.fi U.ft (sgU U) U.hs U.D (VA U.tb U.pr U.ow U.fi U.ft (sgU U) U.D) := fun z => hU.fix (hgv2.elim (fun q => by rw [z] at q; cases q) id)
    have h8 := mrn_8 n _ _ _ 0 hU.1 hU.ft hD sgU_M hW hU.2.2.2.2.1 hsf
    have hHS := mrn_hs hU.1 hU.ft hD sgU_M hW hU.2.2.2.2.1 n _ _ _ 0 hsf
    have hfd : ∀ k sl m2, k < 6 → sl < 4 → mmo U.pr U.hs sl 6 (some k) = some m2 → ∃ a2, mt m2 = some a2 ∧ found U.tb U.pr mt (nI k) (nI sl) = some a2 := fun k sl m2 h1 h2 h3 => found_y hU hmt h1 h2 h3
    obtain ⟨how, what, dn, an, H', ez⟩ : ∃ how what dn an H', mrn U.tb U.pr U.ow U.fi U.ft (sgU U) U.hs U.D gd n ⟨m, 0, bgR k (U.D m).1 (U.D m).2.1, bgV (U.D m).1 (U.D m).2.1 xa xb⟩ [] (mkO U.pr U.ow U.fi U.ft ⟨0, U.H.sz, U.H.ty, U.H.va, U.H.so⟩ k) 0 = (how, what, dn, an, H') := ⟨_, _, _, _, _, rfl⟩
    have hHS' : HS H' := by rw [ez] at hHS; exact hHS
    have hU' : UI (uRun U (how, what, dn, an, H')) := hU.run hHS'
    have hwx : WX σ U.tb U.pr U.ow U.fi U.ft mt (sgU U) U.D MP FH := ⟨hgv.1, hgv.2.1, hgv.2.2.1, hgv.2.2.2.1⟩
    obtain ⟨h40, ho, h18⟩ := hU.2.2.2.2.2.2.2.2
    obtain ⟨c, v, hcv⟩ : ∃ (c : Nat) (v : Int32), (how = 0 → c = 0 ∧ an = some v) ∧ (how ≠ 0 → c = 3 ∧ v = nI 0) := by
      by_cases h0 : how = 0
      · cases ha : an with
        | none => rw [ha] at ez; exact absurd h0 (mrn_0 _ _ _ _ _ ez)
        | some v => exact ⟨0, v, fun _ => ⟨rfl, rfl⟩, fun z => absurd h0 z⟩
      · exact ⟨3, nI 0, fun z => absurd z h0, fun _ => ⟨rfl, rfl⟩⟩
    refine ⟨c, v, uRun U (how, what, dn, an, H'), hU', ?_, ?_, fun σ1 fa hM => ?_⟩
    · by_cases h0 : how = 0
      · rw [(hcv.1 h0).1]; exact Nat.zero_le _
      · rw [(hcv.2 h0).1]; decide
    · have hT : ∀ how2 what2 dn2 an2 H2 aw' σ', mrn U.tb U.pr U.ow U.fi U.ft (sgU U) U.hs U.D gd n ⟨m, 0, bgR k (U.D m).1 (U.D m).2.1, bgV (U.D m).1 (U.D m).2.1 xa xb⟩ [] (mkO U.pr U.ow U.fi U.ft ⟨0, U.H.sz, U.H.ty, U.H.va, U.H.so⟩ k) 0 = (how2, what2, dn2, an2, H2) → (∀ v, an2 = some v → aw' = v) → KZ σ σ' H2 (nI how2) (nI what2) (nI dn2) aw' → how2 < 2 ^ 31 → (how2 = 0 → (.inl (some (.int aw')) : jl_O) = oc [xA, xN, xS, xU, xB] c v ∧ RC σ' (uRun U (how, what, dn, an, H')) ∧ FrC σ σ') ∧ (how2 ≠ 0 → (.inr xS : jl_O) = oc [xA, xN, xS, xU, xB] c v ∧ RC σ' (uRun U (how, what, dn, an, H')) ∧ FrC σ σ') := by
        intro how2 what2 dn2 an2 H2 aw' σ' e1 e2 hk2 _
        rw [ez] at e1
        cases e1
        have hr := RC.r (z := (how, what, dn, an, H')) hU' hC hk2
        refine ⟨fun h0 => ⟨?_, hr⟩, fun h0 => ⟨?_, hr⟩⟩
        · obtain ⟨c1, c2⟩ := hcv.1 h0
          rw [c1, e2 v c2]; rfl
        · obtain ⟨c1, c2⟩ := hcv.2 h0
          rw [c1]; rfl
      cases gd with
      | true => exact jc_run_1 hl hj hj hz hk hn1 hn4 ht hma hfa hsf h8 hwx hrl.1 hU.1 hU.ft hmt hD hD2 sgU_M hfd hW hU.2.2.2.2.1 hT
      | false =>
        have hv : U.vf = true := hgv2.elim (fun z => by cases z) id
        exact jc_run_0 hl hj hj hz hk hn1 hn4 ht hv hma hfa hsf h8 hwx hrl.1 hU.1 hU.ft hmt hD hD2 sgU_M hfd hW hU.2.2.2.2.1 hT
    · obtain ⟨hg, an1, u1, u2, ur, ul, uo, ua, uc, us, ut, uk, kp, mm, fm, hx⟩ := hM
      have hT : ∀ how2 what2 dn2 an2 H2 aw2 hg' σ', mrn U.tb U.pr U.ow U.fi U.ft (sgU U) U.hs U.D gd n ⟨m, 0, bgR k (U.D m).1 (U.D m).2.1, bgV (U.D m).1 (U.D m).2.1 xa xb⟩ [] (mkO U.pr U.ow U.fi U.ft ⟨0, U.H.sz, U.H.ty, U.H.va, U.H.so⟩ k) 0 = (how2, what2, dn2, an2, H2) → (∀ v, an2 = some v → aw2 = v) → (how2 = 0 → NQ σ1 σ' [] H2 (nI 0) (bi U.vf) U.wr U.wz hg' (nI how2) (nI what2) (nI dn2) aw2 → (.inl (some (.int aw2)) : jl_O) = .inl (some (.int v)) ∧ RM σ' (uRun U (how, what, dn, an, H')) (nI c) ∧ FrX σ1 σ') ∧ (how2 ≠ 0 → NQ σ1 σ' [] H2 (nI 3) (bi U.vf) U.wr U.wz hg' (nI how2) (nI what2) (nI dn2) aw2 → (.inl (some (.int (nI 0))) : jl_O) = .inl (some (.int v)) ∧ RM σ' (uRun U (how, what, dn, an, H')) (nI c) ∧ FrX σ1 σ') := by
        intro how2 what2 dn2 an2 H2 aw2 hg' σ' e1 e2
        rw [ez] at e1
        cases e1
        refine ⟨fun h0 hq => ?_, fun h0 hq => ?_⟩
        · obtain ⟨c1, c2⟩ := hcv.1 h0
          rw [c1, e2 v c2]
          exact ⟨rfl, RMx.r (z := (how, what, dn, an, H')) hx hq⟩
        · obtain ⟨c1, c2⟩ := hcv.2 h0
          rw [c1, c2]
          exact ⟨rfl, RMx.r (z := (how, what, dn, an, H')) hx hq⟩
      cases gd with
      | true => exact mo_run_1 hl hx.1 hx.2.1 hx.2.2.1 hx.2.2.2.2.2.2.1.1 (fun m h h2 => hx.2.2.2.2.2.2.1.2.2.1 m h h2) hU.1 hU.ft hD sgU_M hW hU.2.2.2.2.1 hk hn1 hn4 ht rfl hmm hm24 hhs h18 hsf hT
      | false =>
        have hv : U.vf = true := hgv2.elim (fun z => by cases z) id
        have hq := hx.1
        rw [hv] at hq hT
        exact mo_run_0 hl hq hx.2.1 hx.2.2.1 hx.2.2.2.2.2.2.1.1 (fun m h h2 => hx.2.2.2.2.2.2.1.2.2.1 m h h2) hU.1 hU.ft hD sgU_M hW hU.2.2.2.2.1 hk hn1 hn4 ht rfl hmm hm24 hhs h18 hsf hT
end WRu
