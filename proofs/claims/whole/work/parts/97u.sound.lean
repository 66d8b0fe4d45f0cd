/-! VERIFIED: a step keeps all rows below their MAPS -/
/-- the MAPS of every METHOD are a fixed point without FAULT -/
def FixW (tb : Nat → Bool) (pr : Nat → Option Nat) (ow fi ft : Nat → Nat) (sg : Int32 → Option Sg) (hs : Nat → Bool) (D : Nat → MDt) (W : Nat → Nat → Option Rw) : Prop := ∀ m, m < 24 → hs m = true → AV (W m) ∧ Gle pr (W m) 0 (strt (m / 4) (D m).1 (D m).2.1) 0 ∧ ∀ pc, pc < 24 → ∀ r h, W m pc = some r → rv r h → fine tb pr ow fi ft sg (dop (D m)) (dag (D m)) (dsz (D m)) (dfr (D m)) (dtt (D m)) (dtg (D m)) (dkd (D m)) (dnc (D m)) (D m).2.2.1 (W m) pc r h
/-- a METHOD and one that it stands in for have the same PARAMETERS and RESULT -/
def SgE (pr : Nat → Option Nat) (hs : Nat → Bool) (D : Nat → MDt) : Prop := ∀ c k sl, c < 6 → k < 6 → sl < 4 → Anc pr c k → hs (4 * c + sl) = true → hs (4 * k + sl) = true → (D (4 * c + sl)).1 = (D (4 * k + sl)).1 ∧ (D (4 * c + sl)).2.1 = (D (4 * k + sl)).2.1 ∧ (D (4 * c + sl)).2.2.1 = (D (4 * k + sl)).2.2.1
section WSu
variable {tb : Nat → Bool} {pr : Nat → Option Nat} {ow fi ft : Nat → Nat} {hs : Nat → Bool} {sg : Int32 → Option Sg} {D : Nat → MDt} {W : Nat → Nat → Option Rw} {H H' : Hp} {y : Option Nat} {v x : Int32} {R r R' : Rw} {V V' : Nat → Int32} {h b i rs o : Nat} {f g : Fm} {fs F : List Fm}
theorem anc_lin {a b k : Nat} (h1 : Anc pr a k) (h2 : Anc pr b k) : Anc pr a b ∨ Anc pr b a := by
  refine Anc.ind (mo := fun k => Anc pr b k → Anc pr a b ∨ Anc pr b a) (fun h2 => Or.inr h2) (fun k p e h ih h2 => ?_) h1 h2
  rcases h2.cs with z | ⟨p', e', h2⟩
  · subst z; exact Or.inl (.step e h)
  · rw [e] at e'
    cases e'
    exact ih h2
theorem TI.li (h : TI pr W f) : LI pr W f := by
  obtain ⟨r, e, h6, hr⟩ := h
  exact ⟨r, e, fun j hj => hr j (by omega) (by omega)⟩
theorem lv.rob (h : lv H R V b) {j : Nat} (hj : j < 7 + b) (h6 : j ≠ 6) : ob 16 (R j) := (h.1 j hj h6).tyv.ob
theorem sg_pq (hok : WoOk tb pr ow fi) (hD : ∀ m, m < 24 → hs m = true → MdOk (D m)) (hsg : SgM tb pr hs (fun m => (D m).1) (fun m => (D m).2.1) (fun m => (D m).2.2.1) sg) : ∀ g, sg x = some g → g.1 = none → g.2.1 = none := by
  intro g hg
  obtain ⟨n, m0, hn, ex, hn6, htb, hm0, eg⟩ := hsg.of hg
  obtain ⟨c0, _, hc06, em0, hhs0⟩ := mmo_of hok 6 _ hn6 hn6 hm0
  rw [eg]
  exact (hD m0 (by omega) hhs0).2.2.2.2.2.2.2
theorem TI.flt (hok : WoOk tb pr ow fi) (hD : ∀ m, m < 24 → hs m = true → MdOk (D m)) (hsg : SgM tb pr hs (fun m => (D m).1) (fun m => (D m).2.1) (fun m => (D m).2.2.1) sg) (hW : FixW tb pr ow fi ft sg hs D W) (hf : FI hs H f) (ht : TI pr W f) : fltF tb pr ow fi ft sg D f = 0 := by
  obtain ⟨f1, f2, f3, f4, f5, f6⟩ := hf
  obtain ⟨r, e, h6, hr⟩ := ht
  obtain ⟨w1, w2, w3⟩ := hW f.m f1 f2
  obtain ⟨h', hv⟩ := w1 f.p r e
  have := hv.u h6
  subst this
  have hd := hD f.m f1 f2
  exact flt_m hok (hd.2.2.2.1 _ f3) (sg_pq hok hD hsg) (w3 f.p f3 r _ e hv).1 hv hr (fun j hj h6 => f6.rob hj h6)
theorem cgt_TI (hok : WoOk tb pr ow fi) (hD : MdOk (D f.m)) (hW : FixW tb pr ow fi ft sg hs D W) (hf : FI hs H f) (hL : LI pr W f) (hi : i < dnc (D f.m)) (ha : aro (dfr (D f.m)) (dtt (D f.m)) i f.p = true) (hy : gdv H y v) (hc : cty pr (dkd (D f.m) i) y = true) : TI pr W (cgt (D f.m) f i y v) := by
  obtain ⟨f1, f2, f3, f4, f5, f6⟩ := hf
  obtain ⟨r, e, hr⟩ := hL
  obtain ⟨w1, w2, w3⟩ := hW f.m f1 f2
  obtain ⟨h, hv⟩ := w1 f.p r e
  obtain ⟨r', e', h6', hr'⟩ := (w3 f.p f3 r h e hv).2.1 i hi ha
  have hk7 := (hD.2.2.2.2.2.2.1 i (by have : dnc (D f.m) ≤ 2 := hD.2.2.2.2.2.1; omega)).2.2.2
  have hk7 : dkd (D f.m) i < 7 := hk7
  have hcv := rv_ctr hv hk7
  have low6 : ∀ j, j < 6 → low r h h j = r j := fun j hj => by
    have := low_v (r := r) (b := 0) (n := h) (j := j) (by omega) (by omega)
    rwa [Nat.zero_add] at this
  unfold cgt
  by_cases k6 : dkd (D f.m) i = 6
  · rw [if_pos k6]
    refine ⟨r', e', ?_⟩
    show rle pr (va_up f.R 6 (some 0)) r' (hgt (va_up f.R 6 (some 0)))
    have hc0 : ctrh (dkd (D f.m) i) = 0 := by unfold ctrh; rw [if_pos k6]
    rw [hgt_six]
    rw [hc0] at h6' hr'
    refine ⟨h6', fun j hj hj6 => ?_⟩
    rw [va_up_ne _ _ hj6]
    have z := hr' j hj hj6
    have hcj : ctr r h (dkd (D f.m) i) j = r j := by unfold ctr; rw [if_pos k6]; exact low6 j (by omega)
    rw [hcj] at z
    exact (hr j (by omega)).trans hok (f6.rob (by omega) hj6) (hv.ob j) z
  · rw [if_neg k6]
    refine ⟨r', e', ?_⟩
    show rle pr (psh f.R 0 y) r' (0 + 1)
    have hc0 : ctrh (dkd (D f.m) i) = 1 := by unfold ctrh; rw [if_neg k6]
    have hc1 : ctr r h (dkd (D f.m) i) = psh (low r h h) 0 (some (10 + dkd (D f.m) i)) := by unfold ctr; rw [if_neg k6]
    rw [hc0, hc1] at hr'
    rw [hc0] at h6'
    refine ⟨h6', fun j hj hj6 => ?_⟩
    have z := hr' j (by omega) hj6
    unfold psh at z ⊢
    rw [if_neg hj6] at z ⊢
    by_cases e7 : j = 7 + 0
    · rw [if_pos e7] at z ⊢
      unfold cty at hc
      cases y with
      | none => simp [k6] at hc
      | some a =>
        simp only [k6, decide_false, Bool.false_or, Bool.and_eq_true, decide_eq_true_eq] at hc
        have ha16 := (hy.tyv a rfl).1
        have hp := (part_o hok (a := a - 10) (b := dkd (D f.m) i) (by omega)).mpr ((anc_ab hok (by omega)).mp hc.2)
        rw [show 10 + (a - 10) = a by omega] at hp
        exact (show le pr (some a) (some (10 + dkd (D f.m) i)) from Or.inr hp).trans hok hy.tyv.ob (ob_s (by omega)) z
    · rw [if_neg e7] at z ⊢
      rw [low6 j (by omega)] at z
      exact (hr j (by omega)).trans hok (f6.rob (by omega) hj6) (hv.ob j) z
theorem cgt_m {d : MDt} : (cgt d f i y v).m = f.m := by unfold cgt; split <;> rfl
theorem rse_CH (hok : WoOk tb pr ow fi) (hD : ∀ m, m < 24 → hs m = true → MdOk (D m)) (hW : FixW tb pr ow fi ft sg hs D W) (hy : gdv H y v) : ∀ (fs : List Fm) (f : Fm) F, FI hs H f → (∀ g ∈ fs, FW hs H g) → LI pr W f → WS pr D W (D f.m).2.2.1 fs → rse pr D y v (f :: fs) = some F → ∃ g gs, F = g :: gs ∧ CH pr D W g gs := by
  intro fs
  induction fs with
  | nil =>
    intro f F hf _ hL hS e
    rw [rse] at e
    cases hc : cti pr (D f.m) f.p y (dnc (D f.m)) 0 with
    | none => rw [hc] at e; cases e
    | some i =>
      rw [hc] at e
      cases e
      obtain ⟨_, c1, c3, c2⟩ := cti_of _ _ _ hc
      exact ⟨_, _, rfl, cgt_TI hok (hD _ hf.1 hf.2.1) hW hf hL (by omega) c3 hy c2, trivial⟩
  | cons g gs ih =>
    intro f F hf hw hL hS e
    rw [rse] at e
    cases hc : cti pr (D f.m) f.p y (dnc (D f.m)) 0 with
    | none =>
      rw [hc] at e
      exact ih g F (hw g List.mem_cons_self).1 (fun k hk => hw k (List.mem_cons_of_mem _ hk)) hS.1.1 hS.2 e
    | some i =>
      rw [hc] at e
      cases e
      obtain ⟨_, c1, c3, c2⟩ := cti_of _ _ _ hc
      exact ⟨_, _, rfl, cgt_TI hok (hD _ hf.1 hf.2.1) hW hf hL (by omega) c3 hy c2, by rw [cgt_m]; exact hS⟩
theorem sgn_CH (hok : WoOk tb pr ow fi) (hD : ∀ m, m < 24 → hs m = true → MdOk (D m)) (hW : FixW tb pr ow fi ft sg hs D W) (hr : RI tb pr ow fi ft hs f fs H) (hC : CH pr D W f fs) {n : Nat} (e : sgn pr D n (f :: fs) H = .go F H') : ∃ g gs, F = g :: gs ∧ CH pr D W g gs := by
  unfold sgn at e
  cases z : rse pr D none (-1) (f :: fs) with
  | none => rw [z] at e; cases e
  | some F' =>
    rw [z] at e
    cases e
    exact rse_CH hok hD hW gdv_n fs f _ hr.2.1 hr.2.2.1 hC.1.li hC.2 z
/-- what is below what was given is below what is there -/
theorem Gle.bel (hok : WoOk tb pr ow fi) {A : Nat → Option Rw} {pc : Nat} {q : Rw} (hg : Gle pr A pc q h) (hq : ∀ j, j < 7 + h → j ≠ 6 → ob 16 (q j)) (hR : ∀ j, j < 7 + h → j ≠ 6 → le pr (R j) (q j)) (hob : ∀ j, j < 7 + h → j ≠ 6 → ob 16 (R j)) : Gle pr A pc R h := by
  obtain ⟨r, e, h6, hr⟩ := hg
  exact ⟨r, e, h6, fun j hj hj6 => (hR j hj hj6).trans hok (hob j hj hj6) (hq j hj hj6) (hr j hj hj6)⟩
theorem stp_CH (hok : WoOk tb pr ow fi) (hft : ∀ k f, tyv (some (fty pr fi ft k f))) (hD : ∀ m, m < 24 → hs m = true → MdOk (D m)) (hsg : SgM tb pr hs (fun m => (D m).1) (fun m => (D m).2.1) (fun m => (D m).2.2.1) sg) (hW : FixW tb pr ow fi ft sg hs D W) (hE : SgE pr hs D) (hr : RI tb pr ow fi ft hs f fs H) (hC : CH pr D W f fs) (e : stp pr ow fi ft sg hs D f fs H = .go F H') : ∃ g gs, F = g :: gs ∧ CH pr D W g gs := by
  have h0 := hC.1.flt hok hD hsg hW hr.2.1
  have hRI := hr
  obtain ⟨hI, hf, hw, h12⟩ := hr
  obtain ⟨f1', f2', f3', f4', f5', f6'⟩ := hf
  have hd := hD f.m f1' f2'
  obtain ⟨w1, w2, w3⟩ := hW f.m f1' f2'
  obtain ⟨r, er, hr6, hrle⟩ := hC.1
  obtain ⟨h', hv⟩ := w1 f.p r er
  have hh' := hv.u hr6
  subst hh'
  obtain ⟨y1, y2, y3, y4⟩ := w3 f.p f3' r _ er hv
  obtain ⟨z4, z5, z1, zt⟩ := flt0 h0
  obtain ⟨v4, v5, v1, vt⟩ := flt0 y1
  obtain ⟨k1, k2⟩ := f1_b z1
  have hop : dop (D f.m) f.p < 26 := hd.2.2.2.1 _ f3'
  have hsz : dsz (D f.m) ≤ 24 := hd.2.2.2.2.1
  have z5o : f5o tb ow fi sg (dop (D f.m) f.p) (dag (D f.m) f.p) = false := by unfold f5 at z5; rw [Bool.or_eq_false_iff] at z5; exact z5.2
  have hsgv : ∀ x g, sg x = some g → tyv (some g.2.2) := fun x g hg => by
    obtain ⟨n, m0, hn, ex, hn6, htb, hm0, eg⟩ := hsg.of hg
    obtain ⟨c0, _, hc06, em0, hhs0⟩ := mmo_of hok 6 _ hn6 hn6 hm0
    rw [eg]
    exact (hD m0 (by omega) hhs0).2.2.1
  have hav := rv_act hop hv hv z5o (f1_b v1) vt hft hsgv
  unfold stp at e
  generalize ho : dop (D f.m) f.p = o at *
  generalize hx : dag (D f.m) f.p = x at *
  have hbb : hgt f.R - tks sg o x + tks sg o x = hgt f.R := Nat.sub_add_cancel k1
  generalize hb : hgt f.R - tks sg o x = b at *
  dsimp only at e
  rw [← hbb] at f4' f5' f6' zt hrle y3 y4 hav
  rw [hb] at e
  have llow := f6'.low (Nat.le_add_right b (tks sg o x))
  by_cases hj : jmp o = true
  · rw [if_pos hj] at e
    cases e
    obtain ⟨n, hn, ex⟩ := f4_x z4 hsz hj
    have hp0 : pts o = 0 := by rcases jmp_of hj with q | q | q | q <;> subst q <;> rfl
    have ho2 : o ≠ 2 := fun q => by subst q; cases hj
    have hact := act_0 (z := some b) (fi := fi) (ft := ft) hp0 ho2 hrle
    rw [hp0] at hact y3 y4
    refine ⟨_, _, rfl, ?_, hC.2⟩
    show Gle pr (W f.m) (if jtk o f.R f.V b = true then x.toNatClampNeg else f.p + 1) (va_up f.R 6 (some b)) (hgt (va_up f.R 6 (some b)))
    rw [hgt_six]
    have hob : ∀ j, j < 7 + (b + 0) → j ≠ 6 → ob 16 (va_up f.R 6 (some b) j) := fun j hj hj6 => by rw [va_up_ne _ _ hj6]; exact llow.rob hj hj6
    by_cases hjt : jtk o f.R f.V b = true
    · rw [if_pos hjt]
      exact (y3 hj).bel hok (fun j _ _ => hav.ob j) hact hob
    · rw [if_neg hjt]
      have hfal : fal o = true := by
        rcases jmp_of hj with q | q | q | q <;> subst q
        · exact absurd rfl hjt
        · rfl
        · rfl
        · rfl
      exact (y4 hfal).bel hok (fun j _ _ => hav.ob j) hact hob
  · rw [if_neg hj] at e
    by_cases h14 : o = 14
    · rw [if_pos h14] at e
      subst h14
      have zs : (sg x).isNone = false := z5o
      cases hg : sg x with
      | none => rw [hg] at zs; cases zs
      | some g =>
        have ht : cfit pr g.1 g.2.1 (xq x 4) (fun j => f.R (6 + (b + tks sg 14 x) - j)) = true := by
          have zt : (match sg x with | none => false | some g => cfit pr g.1 g.2.1 (xq x 4) (fun j => f.R (6 + (b + tks sg 14 x) - j))) = true := zt
          rw [hg] at zt; exact zt
        obtain ⟨n, m0, hn, ex, hn6, htb, hm0, eg⟩ := hsg.of hg
        obtain ⟨c0, ha0, hc06, em0, hhs0⟩ := mmo_of hok 6 _ hn6 hn6 hm0
        have hpq : g.1 = none → g.2.1 = none := sg_pq hok hD hsg g hg
        have hts : tks sg 14 x = 1 + prm g.1 g.2.1 := by unfold tks; rw [if_pos rfl, hg]; rfl
        have hpr : prS (some g) = prm g.1 g.2.1 := rfl
        have hp : part pr (f.R (6 + (b + tks sg 14 x) - prm g.1 g.2.1)) (some (10 + xq x 4)) = true := cfit_self ht hpq
        rw [show 6 + (b + tks sg 14 x) - prm g.1 g.2.1 = 7 + b by omega] at hp
        have hxq : xq x 4 = n / 4 := by unfold xq; rw [ex, nI_clamp hn]
        have hxr : xr x 4 = n % 4 := by unfold xr; rw [ex, nI_clamp hn]
        rw [hxq] at hp
        have hoj := (f6'.1 (7 + b) (by omega) (by omega)).oj (part_isO hp)
        rw [hg, hpr, hxr] at e
        rcases hoj with ⟨hy, _⟩ | ⟨q, k, hq, hk, hy, hv', hso⟩
        · rw [hy] at e
          dsimp only at e
          rw [if_pos rfl] at e
          exact sgn_CH hok hD hW hRI hC e
        · rw [hy] at hp e
          dsimp only at e
          rw [if_neg (by omega)] at e
          by_cases h11 : 11 ≤ fs.length
          · rw [if_pos h11] at e; cases e
          · rw [if_neg h11, Nat.add_sub_cancel_left] at e
            have ha := (part_o hok hk).mp hp
            cases hm : mmo pr hs (n % 4) 6 (some k) with
            | none => rw [hm] at e; cases e
            | some m =>
              rw [hm] at e
              cases e
              obtain ⟨c, hac, hc6, em, hhs⟩ := mmo_of hok 6 k hk hk hm
              have hsig : (D m).1 = g.1 ∧ (D m).2.1 = g.2.1 ∧ (D m).2.2.1 = g.2.2 := by
                rw [eg]
                dsimp only
                subst em em0
                rcases anc_lin hac (ha0.trans ha) with z | z
                · exact hE c c0 (n % 4) hc6 hc06 (by omega) z hhs hhs0
                · obtain ⟨q1, q2, q3⟩ := hE c0 c (n % 4) hc06 hc6 (by omega) z hhs0 hhs
                  exact ⟨q1.symm, q2.symm, q3.symm⟩
              obtain ⟨m1, m2, m3⟩ := hW m (by omega) hhs
              rw [hsig.1, hsig.2.1, show m / 4 = c by omega] at m2
              refine ⟨_, _, rfl, ?_, ⟨⟨r, er, fun j hj => ?_⟩, ?_⟩, hC.2⟩
              · show Gle pr (W m) 0 (cwR f.R b (prm g.1 g.2.1)) 0
                have hd1 := hD m (by omega) hhs
                have hq1 : tyv g.1 := hsig.1 ▸ hd1.1
                have hq2 : tyv g.2.1 := hsig.2.1 ▸ hd1.2.1
                refine m2.bel hok (fun j _ _ => (rv_strt hc6 hq1 hq2).ob j) (fun j hj hj6 => ?_) (fun j hj hj6 => ?_)
                · have hx0 : (some (10 + k) : Option Nat) = f.R (7 + b) := hy.symm
                  show le pr (cwR f.R b (prm g.1 g.2.1) j) (strt c g.1 g.2.1 j)
                  unfold cwR strt
                  rw [if_neg hj6]
                  by_cases j0 : j = 0
                  · rw [if_pos ⟨by omega, by omega⟩, if_pos j0, j0, Nat.add_zero, hy]
                    exact Or.inr ((part_o hok hk).mpr hac)
                  · rw [if_neg j0]
                    by_cases j1 : j = 1
                    · rw [if_pos j1]
                      subst j1
                      by_cases hn1 : 1 ≤ prm g.1 g.2.1
                      · rw [if_pos ⟨by omega, hn1⟩]
                        obtain ⟨p, q, rs'⟩ := g
                        dsimp only at hn1 ht hts ⊢
                        unfold cfit at ht
                        cases p with
                        | none => exact Or.inl rfl
                        | some a1 =>
                          cases q with
                          | none =>
                            have hpp : prm (some a1) none = 1 := rfl
                            dsimp only at ht
                            rw [Bool.and_eq_true, show 6 + (b + tks sg 14 x) - 0 = 7 + b + 1 by omega] at ht
                            exact Or.inr ht.1
                          | some a2 =>
                            have hpp : prm (some a1) (some a2) = 2 := rfl
                            dsimp only at ht
                            rw [Bool.and_eq_true, show 6 + (b + tks sg 14 x) - 1 = 7 + b + 1 by omega] at ht
                            exact Or.inr ht.1
                      · have : g.1 = none := by
                          unfold prm at hn1
                          by_cases z : g.1 = none
                          · exact z
                          · rw [if_neg z] at hn1
                            split at hn1 <;> omega
                        exact Or.inl this
                    · rw [if_neg j1]
                      by_cases j2 : j = 2
                      · rw [if_pos j2]
                        subst j2
                        by_cases hn2 : 2 ≤ prm g.1 g.2.1
                        · rw [if_pos ⟨by omega, hn2⟩]
                          obtain ⟨p, q, rs'⟩ := g
                          dsimp only at hn2 ht hts ⊢
                          unfold cfit at ht
                          cases p with
                          | none => exact absurd hn2 (by unfold prm; rw [if_pos rfl]; decide)
                          | some a1 =>
                            cases q with
                            | none => exact Or.inl rfl
                            | some a2 =>
                              have hpp : prm (some a1) (some a2) = 2 := rfl
                              dsimp only at ht
                              rw [Bool.and_eq_true, Bool.and_eq_true, show 6 + (b + tks sg 14 x) - 0 = 7 + b + 2 by omega] at ht
                              exact Or.inr ht.2.1
                        · have : g.2.1 = none := by
                            unfold prm at hn2
                            by_cases z : g.1 = none
                            · exact hpq z
                            · rw [if_neg z] at hn2
                              by_cases z2 : g.2.1 = none
                              · exact z2
                              · rw [if_neg z2] at hn2; omega
                          exact Or.inl this
                      · rw [if_neg j2, if_neg hj6]; exact Or.inl rfl
                · show ob 16 (cwR f.R b (prm g.1 g.2.1) j)
                  unfold cwR
                  rw [if_neg hj6]
                  split
                  · exact f6'.rob (by omega) (by omega)
                  · exact fun _ q => by cases q
              · show le pr (va_up f.R 6 (some b) j) (r j)
                rw [va_up_ne _ _ (by omega)]
                exact hrle j (by omega) (by omega)
              · show Gle pr (W f.m) (f.p + 1) (psh (va_up f.R 6 (some b)) (hgt (va_up f.R 6 (some b))) (some (D m).2.2.1)) (hgt (va_up f.R 6 (some b)) + 1)
                rw [hgt_six, psh_six, hsig.2.2]
                have hact := act_1 (o := 14) (x := x) (fi := fi) (ft := ft) (y := some g.2.2) (b := b) rfl hrle (by
                  show le pr (some g.2.2) (match sg x with | none => none | some g => some g.2.2)
                  rw [hg]; exact le.refl)
                refine (y4 rfl).bel hok (fun j _ _ => hav.ob j) hact (fun j hj hj6 => ?_)
                unfold psh
                rw [if_neg hj6]
                by_cases z : j = 7 + b
                · rw [if_pos z]; exact (hsgv x g hg).ob
                · rw [if_neg z]
                  have hj : j < 7 + (b + 1) := hj
                  exact llow.rob (by omega) hj6
    · rw [if_neg h14] at e
      by_cases h17 : o = 17
      · rw [if_pos h17] at e
        subst h17
        have hts : tks sg 17 x = 1 := rfl
        by_cases h2 : f.R (7 + b) = some 2
        · rw [if_pos h2] at e; exact sgn_CH hok hD hW hRI hC e
        · rw [if_neg h2] at e
          cases z : rse pr D (f.R (7 + b)) (f.V (7 + b)) (f :: fs) with
          | none => rw [z] at e; cases e
          | some F' =>
            rw [z] at e
            cases e
            exact rse_CH hok hD hW (f6'.1 (7 + b) (by omega) (by omega)) fs f _ hRI.2.1 hw hC.1.li hC.2 z
      · rw [if_neg h17] at e
        by_cases h18 : o = 18
        · rw [if_pos h18] at e
          subst h18
          have hts : tks sg 18 x = 1 := rfl
          cases fs with
          | nil => cases e
          | cons g gs =>
            cases e
            obtain ⟨⟨g1, g2, g3, g4, g5, g6⟩, g7, g8⟩ := hw g List.mem_cons_self
            obtain ⟨⟨_, c2⟩, c3⟩ := hC.2
            have hp : part pr (f.R (6 + (b + 1) - 0)) (some (D f.m).2.2.1) = true := zt
            rw [show 6 + (b + 1) - 0 = 7 + b by omega] at hp
            refine ⟨_, _, rfl, ?_, c3⟩
            show Gle pr (W g.m) (g.p + 1) (psh g.R (hgt g.R) (f.R (7 + b))) (hgt g.R + 1)
            have hrs : ob 16 (some (D f.m).2.2.1) := hd.2.2.1.ob
            refine c2.bel hok (fun j hj hj6 => ?_) (fun j hj hj6 => ?_) (fun j hj hj6 => ?_)
            · unfold psh
              rw [if_neg hj6]
              by_cases z : j = 7 + hgt g.R
              · rw [if_pos z]; exact hrs
              · rw [if_neg z]; exact g6.rob (by omega) hj6
            · unfold psh
              rw [if_neg hj6, if_neg hj6]
              by_cases z : j = 7 + hgt g.R
              · rw [if_pos z, if_pos z]; exact Or.inr hp
              · rw [if_neg z, if_neg z]; exact le.refl
            · unfold psh
              rw [if_neg hj6]
              by_cases z : j = 7 + hgt g.R
              · rw [if_pos z]; exact f6'.rob (by omega) (by omega)
              · rw [if_neg z]; exact g6.rob (by omega) hj6
        · rw [if_neg h18] at e
          cases z : ins pr ow fi ft o x f.R f.V b H with
          | inl q =>
            obtain ⟨R', V', H2⟩ := q
            rw [z] at e
            cases e
            obtain ⟨_, hins⟩ := ins_inv hok hft hI hop (Bool.eq_false_iff.mpr hj) h14 h17 h18 f4' f6' z5o zt
            rw [z] at hins
            obtain ⟨a1, a2, a3, a4⟩ := hins
            have hact := ins_le hok hft hI hop (Bool.eq_false_iff.mpr hj) h14 h17 h18 f4' f6' z5o zt hrle z
            have hfal : fal o = true := by
              unfold fal; rw [decide_eq_true_eq]
              exact ⟨fun e => hj (by rw [e]; rfl), h17, h18⟩
            have hh : hgt R' = b + pts o := by unfold hgt; rw [a3]; rfl
            refine ⟨_, _, rfl, ?_, hC.2⟩
            show Gle pr (W f.m) (f.p + 1) R' (hgt R')
            rw [hh]
            exact (y4 hfal).bel hok (fun j _ _ => hav.ob j) hact (fun j hj hj6 => a4.rob hj hj6)
          | inr q =>
            cases q with
            | some n =>
              rw [z] at e
              exact sgn_CH hok hD hW hRI hC e
            | none => rw [z] at e; cases e
end WSu
