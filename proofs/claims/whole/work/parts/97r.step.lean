/-! what holds is kept by a step without FAULT -/
def FI (hs : Nat → Bool) (H : Hp) (f : Fm) : Prop := f.m < 24 ∧ hs f.m = true ∧ f.p < 24 ∧ f.R 6 = some (hgt f.R) ∧ hgt f.R ≤ 5 ∧ lv H f.R f.V (hgt f.R)
/-- of a METHOD that waits -/
def FW (hs : Nat → Bool) (H : Hp) (f : Fm) : Prop := FI hs H f ∧ hgt f.R ≤ 4 ∧ f.p + 1 < 24
def RI (tb : Nat → Bool) (pr : Nat → Option Nat) (ow fi ft : Nat → Nat) (hs : Nat → Bool) (f : Fm) (fs : List Fm) (H : Hp) : Prop := HI tb pr ow fi ft H ∧ FI hs H f ∧ (∀ g ∈ fs, FW hs H g) ∧ fs.length < 12
def fltF (tb : Nat → Bool) (pr : Nat → Option Nat) (ow fi ft : Nat → Nat) (sg : Int32 → Option Sg) (D : Nat → MDt) (f : Fm) : Nat := flt tb pr ow fi ft sg (dop (D f.m) f.p) (dag (D f.m) f.p) (dsz (D f.m)) (dfr (D f.m)) (dtt (D f.m)) (dtg (D f.m)) (dkd (D f.m)) (dnc (D f.m)) (D f.m).2.2.1 f.p f.R (hgt f.R)
def stpOk (tb : Nat → Bool) (pr : Nat → Option Nat) (ow fi ft : Nat → Nat) (hs : Nat → Bool) (z : Sr) : Prop := match z with
  | .inl (F, H) => ∃ f fs, F = f :: fs ∧ RI tb pr ow fi ft hs f fs H
  | .inr (how, _, _, H) => HI tb pr ow fi ft H ∧ how ≤ 7
section WSp
variable {tb : Nat → Bool} {pr : Nat → Option Nat} {ow fi ft : Nat → Nat} {hs : Nat → Bool} {sg : Int32 → Option Sg} {D : Nat → MDt} {H H' : Hp} {y : Option Nat} {v x : Int32} {R : Rw} {V : Nat → Int32} {h b i rs o : Nat} {f g : Fm} {fs F : List Fm}
theorem hgt_six {k : Nat} : hgt (va_up R 6 (some k)) = k := by unfold hgt; rw [va_up_self]; rfl
theorem six_hgt {k : Nat} : va_up R 6 (some k) 6 = some (hgt (va_up R 6 (some k))) := by rw [hgt_six, va_up_self]
theorem hle_six {k n : Nat} (h : k ≤ n) : hgt (va_up R 6 (some k)) ≤ n := by rw [hgt_six]; exact h
theorem lv.hsix {k : Nat} (h : lv H R V k) : lv H (va_up R 6 (some k)) V (hgt (va_up R 6 (some k))) := by rw [hgt_six]; exact h.six
theorem FI.mono (hl : Hle H H') (h : FI hs H f) : FI hs H' f := ⟨h.1, h.2.1, h.2.2.1, h.2.2.2.1, h.2.2.2.2.1, h.2.2.2.2.2.mono hl⟩
theorem FW.mono (hl : Hle H H') (h : FW hs H f) : FW hs H' f := ⟨h.1.mono hl, h.2⟩
theorem cti_of {d : MDt} {p : Nat} : ∀ n i k, cti pr d p y n i = some k → i ≤ k ∧ k < i + n ∧ aro (dfr d) (dtt d) k p = true ∧ cty pr (dkd d k) y = true := by
  intro n
  induction n with
  | zero => intro i k e; cases e
  | succ n ih =>
    intro i k e
    rw [cti] at e
    by_cases z : (aro (dfr d) (dtt d) i p && cty pr (dkd d i) y) = true
    · rw [if_pos z] at e
      cases e
      rw [Bool.and_eq_true] at z
      exact ⟨Nat.le_refl _, by omega, z.1, z.2⟩
    · rw [if_neg z] at e
      obtain ⟨a, b, c⟩ := ih _ _ e
      exact ⟨by omega, by omega, c⟩
theorem cgt_FI (hD : MdOk (D f.m)) (hf : FI hs H f) (hi : i < dnc (D f.m)) (hy : gdv H y v) (hc : cty pr (dkd (D f.m) i) y = true) : FI hs H (cgt (D f.m) f i y v) := by
  obtain ⟨a, b, c, d, e, l⟩ := hf
  have h2 : dnc (D f.m) ≤ 2 := hD.2.2.2.2.2.1
  have h7 := hD.2.2.2.2.2.2.1 i (by omega)
  have ht : dtg (D f.m) i < 24 := h7.2.2.1
  unfold cgt
  by_cases k6 : dkd (D f.m) i = 6
  · rw [if_pos k6]
    exact ⟨a, b, ht, six_hgt, hle_six (Nat.zero_le _), (l.low (Nat.zero_le _)).hsix⟩
  · rw [if_neg k6]
    have hn : y ≠ none := fun e => by
      rw [e] at hc
      unfold cty at hc
      simp [k6] at hc
    exact ⟨a, b, ht, rfl, show 0 + 1 ≤ 5 by decide, (l.low (Nat.zero_le _)).pu hy hn⟩
theorem rse_FI (hD : ∀ m, m < 24 → hs m = true → MdOk (D m)) (hy : gdv H y v) : ∀ (fs : List Fm) (f : Fm) F, FI hs H f → (∀ g ∈ fs, FW hs H g) → rse pr D y v (f :: fs) = some F → ∃ g gs, F = g :: gs ∧ FI hs H g ∧ (∀ k ∈ gs, FW hs H k) ∧ gs.length ≤ fs.length := by
  intro fs
  induction fs with
  | nil =>
    intro f F hf _ e
    rw [rse] at e
    cases hc : cti pr (D f.m) f.p y (dnc (D f.m)) 0 with
    | none => rw [hc] at e; cases e
    | some i =>
      rw [hc] at e
      cases e
      obtain ⟨_, c1, _, c2⟩ := cti_of _ _ _ hc
      exact ⟨_, _, rfl, cgt_FI (hD _ hf.1 hf.2.1) hf (by omega) hy c2, fun k hk => (by cases hk), Nat.le_refl _⟩
  | cons g gs ih =>
    intro f F hf hw e
    rw [rse] at e
    cases hc : cti pr (D f.m) f.p y (dnc (D f.m)) 0 with
    | none =>
      rw [hc] at e
      obtain ⟨k, ks, e1, e2, e3, e4⟩ := ih g F (hw g List.mem_cons_self).1 (fun k hk => hw k (List.mem_cons_of_mem _ hk)) e
      exact ⟨k, ks, e1, e2, e3, Nat.le_succ_of_le e4⟩
    | some i =>
      rw [hc] at e
      cases e
      obtain ⟨_, c1, _, c2⟩ := cti_of _ _ _ hc
      exact ⟨_, _, rfl, cgt_FI (hD _ hf.1 hf.2.1) hf (by omega) hy c2, hw, Nat.le_refl _⟩
theorem sgn_ok (hD : ∀ m, m < 24 → hs m = true → MdOk (D m)) (hr : RI tb pr ow fi ft hs f fs H) {n : Nat} (hn : n ≤ 7) : stpOk tb pr ow fi ft hs (sgn pr D n (f :: fs) H) := by
  unfold sgn
  cases e : rse pr D none (-1) (f :: fs) with
  | none => exact ⟨hr.1, hn⟩
  | some F =>
    obtain ⟨g, gs, e1, e2, e3, e4⟩ := rse_FI hD gdv_n fs f F hr.2.1 hr.2.2.1 e
    have := hr.2.2.2
    exact ⟨g, gs, e1, hr.1, e2, e3, by omega⟩
theorem jmp_of (h : jmp o = true) : o = 7 ∨ o = 8 ∨ o = 9 ∨ o = 16 := by
  unfold jmp at h
  rw [decide_eq_true_eq] at h
  omega
theorem cfit_self {p q : Option Nat} {k : Nat} {s : Nat → Option Nat} (h : cfit pr p q k s = true) (hpq : p = none → q = none) : part pr (s (prm p q)) (some (10 + k)) = true := by
  unfold cfit at h
  unfold prm
  cases p with
  | none => rw [if_pos rfl]; exact h
  | some a =>
    rw [if_neg (by simp)]
    cases q with
    | none => rw [if_pos rfl]; dsimp only at h; rw [Bool.and_eq_true] at h; exact h.2
    | some c => rw [if_neg (by simp)]; dsimp only at h; rw [Bool.and_eq_true, Bool.and_eq_true] at h; exact h.2.2
theorem stp_ok (hok : WoOk tb pr ow fi) (hft : ∀ k f, tyv (some (fty pr fi ft k f))) (hD : ∀ m, m < 24 → hs m = true → MdOk (D m)) (hsg : SgM tb pr hs (fun m => (D m).1) (fun m => (D m).2.1) (fun m => (D m).2.2.1) sg) (hr : RI tb pr ow fi ft hs f fs H) (h0 : fltF tb pr ow fi ft sg D f = 0) : stpOk tb pr ow fi ft hs (stp pr ow fi ft sg hs D f fs H) := by
  obtain ⟨hI, hf, hw, h12⟩ := hr
  obtain ⟨f1', f2', f3', f4', f5', f6'⟩ := hf
  have hd := hD f.m f1' f2'
  obtain ⟨z4, z5, z1, zt⟩ := flt0 h0
  obtain ⟨k1, k2⟩ := f1_b z1
  have hop : dop (D f.m) f.p < 26 := hd.2.2.2.1 _ f3'
  have hsz : dsz (D f.m) ≤ 24 := hd.2.2.2.2.1
  have z5o : f5o tb ow fi sg (dop (D f.m) f.p) (dag (D f.m) f.p) = false := by unfold f5 at z5; rw [Bool.or_eq_false_iff] at z5; exact z5.2
  unfold stp
  generalize ho : dop (D f.m) f.p = o at *
  generalize hx : dag (D f.m) f.p = x at *
  have hbb : hgt f.R - tks sg o x + tks sg o x = hgt f.R := Nat.sub_add_cancel k1
  generalize hb : hgt f.R - tks sg o x = b at *
  dsimp only
  rw [← hbb] at f4' f5' f6' zt
  rw [hb]
  have llow := f6'.low (Nat.le_add_right b (tks sg o x))
  by_cases hj : jmp o = true
  · rw [if_pos hj]
    obtain ⟨n, hn, ex⟩ := f4_x z4 hsz hj
    refine ⟨_, _, rfl, hI, ⟨f1', f2', ?_, six_hgt, hle_six (by omega), llow.hsix⟩, hw, h12⟩
    show (if jtk o f.R f.V b = true then x.toNatClampNeg else f.p + 1) < 24
    by_cases hjt : jtk o f.R f.V b = true
    · rw [if_pos hjt, ex, nI_clamp (by omega)]; omega
    · rw [if_neg hjt]
      have : fal o = true := by
        rcases jmp_of hj with e | e | e | e <;> subst e
        · exact absurd rfl hjt
        · rfl
        · rfl
        · rfl
      have := f4_p z4 this
      omega
  · rw [if_neg hj]
    by_cases h14 : o = 14
    · rw [if_pos h14]
      subst h14
      have zs : (sg x).isNone = false := z5o
      cases hg : sg x with
      | none => rw [hg] at zs; cases zs
      | some g =>
        have ht : cfit pr g.1 g.2.1 (xq x 4) (fun j => f.R (6 + (b + tks sg 14 x) - j)) = true := by
          have zt : (match sg x with | none => false | some g => cfit pr g.1 g.2.1 (xq x 4) (fun j => f.R (6 + (b + tks sg 14 x) - j))) = true := zt
          rw [hg] at zt; exact zt
        obtain ⟨n, m0, hn, ex, hn6, htb, hm0, eg⟩ := hsg.of hg
        have hm24 := mmo_of hok 6 _ hn6 hn6 hm0
        obtain ⟨c0, _, hc06, em0, hhs0⟩ := hm24
        have hpq : g.1 = none → g.2.1 = none := by rw [eg]; exact (hD m0 (by omega) hhs0).2.2.2.2.2.2.2
        have hts : tks sg 14 x = 1 + prm g.1 g.2.1 := by unfold tks; rw [if_pos rfl, hg]; rfl
        have hpr : prS (some g) = prm g.1 g.2.1 := rfl
        have hp : part pr (f.R (6 + (b + tks sg 14 x) - prm g.1 g.2.1)) (some (10 + xq x 4)) = true := cfit_self ht hpq
        rw [show 6 + (b + tks sg 14 x) - prm g.1 g.2.1 = 7 + b by omega] at hp
        have hxq : xq x 4 = n / 4 := by unfold xq; rw [ex, nI_clamp hn]
        have hxr : xr x 4 = n % 4 := by unfold xr; rw [ex, nI_clamp hn]
        rw [hxq] at hp
        have hoj := (f6'.1 (7 + b) (by omega) (by omega)).oj (part_isO hp)
        rw [hpr, hxr]
        rcases hoj with ⟨hy, _⟩ | ⟨q, k, hq, hk, hy, hv, hso⟩
        · rw [hy]
          dsimp only
          rw [if_pos rfl]
          exact sgn_ok hD ⟨hI, ⟨f1', f2', f3', by rw [hbb] at f4'; exact f4', by rw [hbb] at f5'; exact f5', by rw [hbb] at f6'; exact f6'⟩, hw, h12⟩ (by decide)
        · rw [hy] at hp ⊢
          dsimp only
          rw [if_neg (by omega)]
          by_cases h11 : 11 ≤ fs.length
          · rw [if_pos h11]; exact ⟨hI, by decide⟩
          · rw [if_neg h11, Nat.add_sub_cancel_left]
            have ha := (part_o hok hk).mp hp
            have hne := anc_mmo hok ha hk (sl := n % 4) (hs := hs) (by rw [hm0]; simp)
            cases hm : mmo pr hs (n % 4) 6 (some k) with
            | none => exact absurd hm hne
            | some m =>
              obtain ⟨c, _, hc6, em, hhs⟩ := mmo_of hok 6 k hk hk hm
              refine ⟨_, _, rfl, hI, ⟨show m < 24 by omega, hhs, show 0 < 24 by decide, rfl, Nat.zero_le _, fun j hj h6 => ?_, fun j hj => absurd hj (Nat.not_lt_zero _)⟩, fun k hk => ?_, show fs.length + 1 < 12 by omega⟩
              · show gdv H (cwR f.R b (prm g.1 g.2.1) j) (cwW f.V b (prm g.1 g.2.1) j)
                have hj7 : j < 7 := hj
                unfold cwR cwW
                rw [if_neg h6]
                by_cases hjn : j < 6 ∧ j ≤ prm g.1 g.2.1
                · rw [if_pos hjn, if_pos hjn]
                  exact f6'.1 _ (by omega) (by omega)
                · rw [if_neg hjn, if_neg hjn]; exact gdv_n
              · rcases List.mem_cons.mp hk with e | hk
                · subst e
                  have hfal := f4_p z4 (show fal 14 = true from rfl)
                  have hpt : pts 14 = 1 := rfl
                  exact ⟨⟨f1', f2', f3', six_hgt, hle_six (by omega), llow.hsix⟩, hle_six (by omega), show f.p + 1 < 24 by omega⟩
                · exact hw k hk
    · rw [if_neg h14]
      have hRI : RI tb pr ow fi ft hs f fs H := ⟨hI, ⟨f1', f2', f3', by rw [hbb] at f4'; exact f4', by rw [hbb] at f5'; exact f5', by rw [hbb] at f6'; exact f6'⟩, hw, h12⟩
      by_cases h17 : o = 17
      · rw [if_pos h17]
        subst h17
        have hts : tks sg 17 x = 1 := rfl
        by_cases h2 : f.R (7 + b) = some 2
        · rw [if_pos h2]; exact sgn_ok hD hRI (by decide)
        · rw [if_neg h2]
          cases e : rse pr D (f.R (7 + b)) (f.V (7 + b)) (f :: fs) with
          | none => exact ⟨hI, by decide⟩
          | some F =>
            obtain ⟨g, gs, e1, e2, e3, e4⟩ := rse_FI hD (f6'.1 (7 + b) (by omega) (by omega)) fs f F hRI.2.1 hw e
            exact ⟨g, gs, e1, hI, e2, e3, by omega⟩
      · rw [if_neg h17]
        by_cases h18 : o = 18
        · rw [if_pos h18]
          subst h18
          have hts : tks sg 18 x = 1 := rfl
          cases fs with
          | nil => exact ⟨hI, by decide⟩
          | cons g gs =>
            obtain ⟨⟨g1, g2, g3, g4, g5, g6⟩, g7, g8⟩ := hw g List.mem_cons_self
            rw [List.length_cons] at h12
            exact ⟨_, _, rfl, hI, ⟨g1, g2, g8, rfl, show hgt g.R + 1 ≤ 5 by omega, g6.pu (f6'.1 (7 + b) (by omega) (by omega)) (f6'.2 b (by omega))⟩, fun k hk => hw k (List.mem_cons_of_mem _ hk), by omega⟩
        · rw [if_neg h18]
          obtain ⟨_, hins⟩ := ins_inv hok hft hI hop (Bool.eq_false_iff.mpr hj) h14 h17 h18 f4' f6' z5o zt
          cases e : ins pr ow fi ft o x f.R f.V b H with
          | inl q =>
            obtain ⟨R', V', H'⟩ := q
            rw [e] at hins
            obtain ⟨a1, a2, a3, a4⟩ := hins
            have hfal : fal o = true := by
              unfold fal; rw [decide_eq_true_eq]
              exact ⟨fun e => hj (by rw [e]; rfl), h17, h18⟩
            have := f4_p z4 hfal
            have hh : hgt R' = b + pts o := by unfold hgt; rw [a3]; rfl
            refine ⟨_, _, rfl, a2, ⟨f1', f2', show f.p + 1 < 24 by omega, ?_, show hgt R' ≤ 5 by omega, ?_⟩, fun k hk => (hw k hk).mono a1, h12⟩
            · show R' 6 = some (hgt R'); rw [hh]; exact a3
            · show lv H' R' V' (hgt R'); rw [hh]; exact a4
          | inr q =>
            cases q with
            | some n =>
              rw [e] at hins
              exact sgn_ok hD hRI (Nat.le_trans hins.2 (by decide))
            | none => exact ⟨hI, by decide⟩
end WSp
