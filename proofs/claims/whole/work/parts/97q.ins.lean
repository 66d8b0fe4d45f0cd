/-! what an INSTRUCTION without FAULT leads to -/
def insOk (tb : Nat → Bool) (pr : Nat → Option Nat) (ow fi ft : Nat → Nat) (o b : Nat) (H : Hp) (z : Ir) : Prop := match z with
  | .inl (R', V', H') => Hle H H' ∧ HI tb pr ow fi ft H' ∧ R' 6 = some (b + pts o) ∧ lv H' R' V' (b + pts o)
  | .inr (some n) => 1 ≤ n ∧ n ≤ 4
  | .inr none => True
section WIq
variable {tb : Nat → Bool} {pr : Nat → Option Nat} {ow fi ft : Nat → Nat} {hs : Nat → Bool} {sg : Int32 → Option Sg} {H H' H2 : Hp} {y : Option Nat} {v x : Int32} {R : Rw} {V : Nat → Int32} {h b i rs o : Nat}
theorem sn {a : Nat} : (some a : Option Nat) ≠ none := fun e => by cases e
theorem r8_of {v : Int32} (h1 : ¬ v < 0) (h2 : ¬ nI 8 < v) : ∃ n, n ≤ 8 ∧ v = nI n := by
  obtain ⟨n, hn, e, -⟩ := pk_mu h1 (show ¬ nI 9 ≤ v from fun h => h2 (Int32.lt_of_lt_of_le (by decide) h)) (by omega)
  exact ⟨n, by omega, e⟩
theorem in_0 (hok : WoOk tb pr ow fi) (hft : ∀ k f, tyv (some (fty pr fi ft k f))) (hI : HI tb pr ow fi ft H) (h6 : R 6 = some (b + 0)) (hl : lv H R V (b + 0)) (h5 : f5o tb ow fi sg 0 x = false) (ht : tfi pr fi ft sg 0 x rs (fun j => R (6 + (b + 0) - j)) (R x.toNatClampNeg) = true) : fit tb 0 x R V b H ∧ insOk tb pr ow fi ft 0 b H (ins pr ow fi ft 0 x R V b H) := by
  exact ⟨trivial, Hle.refl, hI, rfl, (hl.low (Nat.le_add_right _ _)).pu gdv_0 sn⟩
theorem in_1 (hok : WoOk tb pr ow fi) (hft : ∀ k f, tyv (some (fty pr fi ft k f))) (hI : HI tb pr ow fi ft H) (h6 : R 6 = some (b + 0)) (hl : lv H R V (b + 0)) (h5 : f5o tb ow fi sg 1 x = false) (ht : tfi pr fi ft sg 1 x rs (fun j => R (6 + (b + 0) - j)) (R x.toNatClampNeg) = true) : fit tb 1 x R V b H ∧ insOk tb pr ow fi ft 1 b H (ins pr ow fi ft 1 x R V b H) := by
  obtain ⟨n, hn, e⟩ := lt6_of (x := x) (by simpa [f5o] using h5)
  subst e
  have hc : (nI n).toNatClampNeg = n := nI_clamp (by omega)
  have ht : (R (nI n).toNatClampNeg).isSome = true := ht
  have hne : R (nI n).toNatClampNeg ≠ none := fun e => by rw [e] at ht; cases ht
  exact ⟨⟨n, hn, rfl, hc ▸ hne⟩, Hle.refl, hI, rfl, (hl.low (Nat.le_add_right _ _)).pu (by rw [hc]; exact hl.1 n (by omega) (by omega)) hne⟩
theorem in_2 (hok : WoOk tb pr ow fi) (hft : ∀ k f, tyv (some (fty pr fi ft k f))) (hI : HI tb pr ow fi ft H) (h6 : R 6 = some (b + 1)) (hl : lv H R V (b + 1)) (h5 : f5o tb ow fi sg 2 x = false) (ht : tfi pr fi ft sg 2 x rs (fun j => R (6 + (b + 1) - j)) (R x.toNatClampNeg) = true) : fit tb 2 x R V b H ∧ insOk tb pr ow fi ft 2 b H (ins pr ow fi ft 2 x R V b H) := by
  obtain ⟨n, hn, e⟩ := lt6_of (x := x) (by simpa [f5o] using h5)
  subst e
  have hc : (nI n).toNatClampNeg = n := nI_clamp (by omega)
  refine ⟨⟨n, hn, rfl⟩, Hle.refl, hI, ?_, ?_⟩
  · show va_up (va_up R 6 (some b)) (nI n).toNatClampNeg (R (7 + b)) 6 = some b
    rw [hc, va_up_ne _ _ (by omega), va_up_self]
  · show lv H (va_up (va_up R 6 (some b)) (nI n).toNatClampNeg (R (7 + b))) (va_up V (nI n).toNatClampNeg (V (7 + b))) b
    rw [hc]
    exact ((hl.low (Nat.le_add_right _ _)).six).loc hn (hl.1 _ (by omega) (by omega))
theorem in_3 (hok : WoOk tb pr ow fi) (hft : ∀ k f, tyv (some (fty pr fi ft k f))) (hI : HI tb pr ow fi ft H) (h6 : R 6 = some (b + 2)) (hl : lv H R V (b + 2)) (h5 : f5o tb ow fi sg 3 x = false) (ht : tfi pr fi ft sg 3 x rs (fun j => R (6 + (b + 2) - j)) (R x.toNatClampNeg) = true) : fit tb 3 x R V b H ∧ insOk tb pr ow fi ft 3 b H (ins pr ow fi ft 3 x R V b H) := by
  exact ⟨trivial, Hle.refl, hI, rfl, (hl.low (Nat.le_add_right _ _)).pu gdv_0 sn⟩
theorem in_4 (hok : WoOk tb pr ow fi) (hft : ∀ k f, tyv (some (fty pr fi ft k f))) (hI : HI tb pr ow fi ft H) (h6 : R 6 = some (b + 2)) (hl : lv H R V (b + 2)) (h5 : f5o tb ow fi sg 4 x = false) (ht : tfi pr fi ft sg 4 x rs (fun j => R (6 + (b + 2) - j)) (R x.toNatClampNeg) = true) : fit tb 4 x R V b H ∧ insOk tb pr ow fi ft 4 b H (ins pr ow fi ft 4 x R V b H) := by
  exact ⟨trivial, Hle.refl, hI, rfl, (hl.low (Nat.le_add_right _ _)).pu gdv_0 sn⟩
theorem in_5 (hok : WoOk tb pr ow fi) (hft : ∀ k f, tyv (some (fty pr fi ft k f))) (hI : HI tb pr ow fi ft H) (h6 : R 6 = some (b + 2)) (hl : lv H R V (b + 2)) (h5 : f5o tb ow fi sg 5 x = false) (ht : tfi pr fi ft sg 5 x rs (fun j => R (6 + (b + 2) - j)) (R x.toNatClampNeg) = true) : fit tb 5 x R V b H ∧ insOk tb pr ow fi ft 5 b H (ins pr ow fi ft 5 x R V b H) := by
  exact ⟨trivial, Hle.refl, hI, rfl, (hl.low (Nat.le_add_right _ _)).pu gdv_0 sn⟩
theorem in_25 (hok : WoOk tb pr ow fi) (hft : ∀ k f, tyv (some (fty pr fi ft k f))) (hI : HI tb pr ow fi ft H) (h6 : R 6 = some (b + 2)) (hl : lv H R V (b + 2)) (h5 : f5o tb ow fi sg 25 x = false) (ht : tfi pr fi ft sg 25 x rs (fun j => R (6 + (b + 2) - j)) (R x.toNatClampNeg) = true) : fit tb 25 x R V b H ∧ insOk tb pr ow fi ft 25 b H (ins pr ow fi ft 25 x R V b H) := by
  exact ⟨trivial, Hle.refl, hI, rfl, (hl.low (Nat.le_add_right _ _)).pu gdv_0 sn⟩
theorem in_6 (hok : WoOk tb pr ow fi) (hft : ∀ k f, tyv (some (fty pr fi ft k f))) (hI : HI tb pr ow fi ft H) (h6 : R 6 = some (b + 2)) (hl : lv H R V (b + 2)) (h5 : f5o tb ow fi sg 6 x = false) (ht : tfi pr fi ft sg 6 x rs (fun j => R (6 + (b + 2) - j)) (R x.toNatClampNeg) = true) : fit tb 6 x R V b H ∧ insOk tb pr ow fi ft 6 b H (ins pr ow fi ft 6 x R V b H) := by
  refine ⟨trivial, ?_⟩
  show insOk tb pr ow fi ft 6 b H (if V (8 + b) = 0 then .sg 1 else .ok (psh R b (some 0)) (va_up V (7 + b) (V (7 + b) / V (8 + b))) H)
  split
  · exact ⟨by decide, by decide⟩
  · exact ⟨Hle.refl, hI, rfl, (hl.low (Nat.le_add_right _ _)).pu gdv_0 sn⟩
theorem in_10 (hok : WoOk tb pr ow fi) (hft : ∀ k f, tyv (some (fty pr fi ft k f))) (hI : HI tb pr ow fi ft H) (h6 : R 6 = some (b + 0)) (hl : lv H R V (b + 0)) (h5 : f5o tb ow fi sg 10 x = false) (ht : tfi pr fi ft sg 10 x rs (fun j => R (6 + (b + 0) - j)) (R x.toNatClampNeg) = true) : fit tb 10 x R V b H ∧ insOk tb pr ow fi ft 10 b H (ins pr ow fi ft 10 x R V b H) := by
  exact ⟨trivial, Hle.refl, hI, rfl, (hl.low (Nat.le_add_right _ _)).pu gdv_2 sn⟩
theorem in_11 (hok : WoOk tb pr ow fi) (hft : ∀ k f, tyv (some (fty pr fi ft k f))) (hI : HI tb pr ow fi ft H) (h6 : R 6 = some (b + 0)) (hl : lv H R V (b + 0)) (h5 : f5o tb ow fi sg 11 x = false) (ht : tfi pr fi ft sg 11 x rs (fun j => R (6 + (b + 0) - j)) (R x.toNatClampNeg) = true) : fit tb 11 x R V b H ∧ insOk tb pr ow fi ft 11 b H (ins pr ow fi ft 11 x R V b H) := by
  obtain ⟨n, hn, e, htb⟩ := hasI_of (k := x) (tb := tb) (by simpa [f5o] using h5)
  subst e
  have hc : (nI n).toNatClampNeg = n := nI_clamp (by omega)
  refine ⟨⟨n, hn, rfl, htb⟩, ?_⟩
  show insOk tb pr ow fi ft 11 b H (if 40 ≤ H.n then .full else .ok (psh R b (some (10 + (nI n).toNatClampNeg))) (va_up V (7 + b) (nI H.n)) (mkO pr ow fi ft H (nI n).toNatClampNeg))
  split
  · trivial
  · next h40 =>
    rw [hc]
    obtain ⟨a, c⟩ := hI.mO hok (by omega) hn htb hft
    exact ⟨c, a, rfl, ((hl.low (Nat.le_add_right _ _)).mono c).pu (gdv_o hn (Nat.lt_succ_self _) (va_up_self _ _ _)) sn⟩
theorem in_12 (hok : WoOk tb pr ow fi) (hft : ∀ k f, tyv (some (fty pr fi ft k f))) (hI : HI tb pr ow fi ft H) (h6 : R 6 = some (b + 1)) (hl : lv H R V (b + 1)) (h5 : f5o tb ow fi sg 12 x = false) (ht : tfi pr fi ft sg 12 x rs (fun j => R (6 + (b + 1) - j)) (R x.toNatClampNeg) = true) : fit tb 12 x R V b H ∧ insOk tb pr ow fi ft 12 b H (ins pr ow fi ft 12 x R V b H) := by
  obtain ⟨n, hn, e, hq6, hf, htb⟩ := hasF_of (x := x) (tb := tb) (ow := ow) (fi := fi) (by simpa [f5o] using h5)
  subst e
  have hc : (nI n).toNatClampNeg = n := nI_clamp hn
  have hx : xr (nI n) 32 = n % 32 := by unfold xr; rw [hc]
  have hxq : xq (nI n) 32 = n / 32 := by unfold xq; rw [hc]
  have h18 := fc18 hok hq6
  have ht : part pr (R (6 + (b + 1) - 0)) (some (10 + xq (nI n) 32)) = true := ht
  rw [show 6 + (b + 1) - 0 = 7 + b by omega, hxq] at ht
  have hg := hl.1 (7 + b) (by omega) (by omega)
  have ho := hg.oj (part_isO ht)
  refine ⟨⟨n, by omega, by omega, rfl, ho⟩, ?_⟩
  show insOk tb pr ow fi ft 12 b H (if R (7 + b) = some 2 then .sg 2 else .ok (psh R b (H.ty (clo (V (7 + b)) (xr (nI n) 32)))) (va_up V (7 + b) (H.va (clo (V (7 + b)) (xr (nI n) 32)))) H)
  split
  · exact ⟨by decide, by decide⟩
  · next hne =>
    rcases ho with ⟨z, _⟩ | ⟨q, k, hq, hk, hy, hv, hso⟩
    · exact absurd z hne
    rw [hy] at ht
    have ha := (part_o hok hk).mp ht
    have hfc := (anc_fc (ft := ft) hok ha hk).1
    have hcl : clo (V (7 + b)) (xr (nI n) 32) = q * 18 + n % 32 := by unfold clo; rw [hv, hx, nI_clamp (by have := hI.1; omega)]
    rw [hcl]
    rcases hI.2.2.2 q hq with ⟨z, _⟩ | ⟨k', h1, h2, h3, h4, h5⟩
    · rw [hso] at z; cases z
    rw [hso] at h1
    cases h1
    obtain ⟨g1, g2⟩ := h5 (n % 32) (by omega)
    exact ⟨Hle.refl, hI, rfl, (hl.low (Nat.le_add_right _ _)).pu g1 (fun e => by rw [e] at g2; cases g2)⟩
theorem in_13 (hok : WoOk tb pr ow fi) (hft : ∀ k f, tyv (some (fty pr fi ft k f))) (hI : HI tb pr ow fi ft H) (h6 : R 6 = some (b + 2)) (hl : lv H R V (b + 2)) (h5 : f5o tb ow fi sg 13 x = false) (ht : tfi pr fi ft sg 13 x rs (fun j => R (6 + (b + 2) - j)) (R x.toNatClampNeg) = true) : fit tb 13 x R V b H ∧ insOk tb pr ow fi ft 13 b H (ins pr ow fi ft 13 x R V b H) := by
  obtain ⟨n, hn, e, hq6, hf, htb⟩ := hasF_of (x := x) (tb := tb) (ow := ow) (fi := fi) (by simpa [f5o] using h5)
  subst e
  have hc : (nI n).toNatClampNeg = n := nI_clamp hn
  have hx : xr (nI n) 32 = n % 32 := by unfold xr; rw [hc]
  have hxq : xq (nI n) 32 = n / 32 := by unfold xq; rw [hc]
  have h18 := fc18 hok hq6
  have ht : (part pr (R (6 + (b + 2) - 1)) (some (10 + xq (nI n) 32)) && part pr (R (6 + (b + 2) - 0)) (some (fty pr fi ft (xq (nI n) 32) (xr (nI n) 32)))) = true := ht
  rw [show 6 + (b + 2) - 1 = 7 + b by omega, show 6 + (b + 2) - 0 = 8 + b by omega, hxq, hx, Bool.and_eq_true] at ht
  obtain ⟨ht, htv⟩ := ht
  have hg := hl.1 (7 + b) (by omega) (by omega)
  have ho := hg.oj (part_isO ht)
  refine ⟨⟨n, by omega, by omega, rfl, ho⟩, ?_⟩
  show insOk tb pr ow fi ft 13 b H (if R (7 + b) = some 2 then .sg 2 else .ok (va_up R 6 (some b)) V ⟨H.n, H.sz, va_up H.ty (clo (V (7 + b)) (xr (nI n) 32)) (R (8 + b)), va_up H.va (clo (V (7 + b)) (xr (nI n) 32)) (V (8 + b)), H.so⟩)
  split
  · exact ⟨by decide, by decide⟩
  · next hne =>
    rcases ho with ⟨z, _⟩ | ⟨q, k, hq, hk, hy, hv, hso⟩
    · exact absurd z hne
    rw [hy] at ht
    have ha := (part_o hok hk).mp ht
    have hcl : clo (V (7 + b)) (xr (nI n) 32) = q * 18 + n % 32 := by unfold clo; rw [hv, hx, nI_clamp (by have := hI.1; omega)]
    rw [hcl]
    have hle : Hle H ⟨H.n, H.sz, va_up H.ty (q * 18 + n % 32) (R (8 + b)), va_up H.va (q * 18 + n % 32) (V (8 + b)), H.so⟩ := ⟨Nat.le_refl _, fun _ _ => rfl⟩
    exact ⟨hle, hI.fset hok hq hso hk ha hf (hl.1 (8 + b) (by omega) (by omega)) htv, va_up_self _ _ _, ((hl.low (Nat.le_add_right _ _)).six).mono hle⟩
theorem in_15 (hok : WoOk tb pr ow fi) (hft : ∀ k f, tyv (some (fty pr fi ft k f))) (hI : HI tb pr ow fi ft H) (h6 : R 6 = some (b + 1)) (hl : lv H R V (b + 1)) (h5 : f5o tb ow fi sg 15 x = false) (ht : tfi pr fi ft sg 15 x rs (fun j => R (6 + (b + 1) - j)) (R x.toNatClampNeg) = true) : fit tb 15 x R V b H ∧ insOk tb pr ow fi ft 15 b H (ins pr ow fi ft 15 x R V b H) := by
  obtain ⟨n, hn, e, htb⟩ := hasI_of (k := x) (tb := tb) (by simpa [f5o] using h5)
  subst e
  have ht : isO (R (6 + (b + 1) - 0)) = true := ht
  rw [show 6 + (b + 1) - 0 = 7 + b by omega] at ht
  refine ⟨⟨n, hn, rfl, (hl.1 (7 + b) (by omega) (by omega)).oj ht⟩, ?_⟩
  show insOk tb pr ow fi ft 15 b H (if part pr (R (7 + b)) (some (10 + (nI n).toNatClampNeg)) = true then .ok R V H else .sg 4)
  split
  · exact ⟨Hle.refl, hI, h6, hl⟩
  · exact ⟨by decide, by decide⟩
theorem in_19 (hok : WoOk tb pr ow fi) (hft : ∀ k f, tyv (some (fty pr fi ft k f))) (hI : HI tb pr ow fi ft H) (h6 : R 6 = some (b + 1)) (hl : lv H R V (b + 1)) (h5 : f5o tb ow fi sg 19 x = false) (ht : tfi pr fi ft sg 19 x rs (fun j => R (6 + (b + 1) - j)) (R x.toNatClampNeg) = true) : fit tb 19 x R V b H ∧ insOk tb pr ow fi ft 19 b H (ins pr ow fi ft 19 x R V b H) := by
  refine ⟨trivial, ?_⟩
  show insOk tb pr ow fi ft 19 b H (if V (7 + b) < 0 then .sg 3 else if nI 8 < V (7 + b) then .sg 3 else if 40 ≤ H.n then .full else .ok (psh R b (some 1)) (va_up V (7 + b) (nI H.n)) (mkR H (V (7 + b)).toNatClampNeg))
  split
  · exact ⟨by decide, by decide⟩
  · next h1 =>
    split
    · exact ⟨by decide, by decide⟩
    · next h2 =>
      split
      · trivial
      · next h40 =>
        obtain ⟨n, hn, e⟩ := r8_of h1 h2
        obtain ⟨a, c⟩ := hI.mR hok (by omega) (n := (V (7 + b)).toNatClampNeg) (by rw [e, nI_clamp (by omega)]; exact hn)
        exact ⟨c, a, rfl, ((hl.low (Nat.le_add_right _ _)).mono c).pu (gdv_r (Nat.lt_succ_self _) (va_up_self _ _ _)) sn⟩
theorem in_20 (hok : WoOk tb pr ow fi) (hft : ∀ k f, tyv (some (fty pr fi ft k f))) (hI : HI tb pr ow fi ft H) (h6 : R 6 = some (b + 2)) (hl : lv H R V (b + 2)) (h5 : f5o tb ow fi sg 20 x = false) (ht : tfi pr fi ft sg 20 x rs (fun j => R (6 + (b + 2) - j)) (R x.toNatClampNeg) = true) : fit tb 20 x R V b H ∧ insOk tb pr ow fi ft 20 b H (ins pr ow fi ft 20 x R V b H) := by
  have ht : (part pr (R (6 + (b + 2) - 1)) (some 1) && isI (R (6 + (b + 2) - 0))) = true := ht
  rw [show 6 + (b + 2) - 1 = 7 + b by omega, Bool.and_eq_true] at ht
  refine ⟨(hl.1 (7 + b) (by omega) (by omega)).rw ht.1, ?_⟩
  show insOk tb pr ow fi ft 20 b H (if R (7 + b) = some 2 then .sg 2 else if stH H.sz H.n (V (7 + b)) (V (8 + b)) = false then .sg 3 else .ok (psh R b (some 0)) (va_up V (7 + b) (H.va (clo (V (7 + b)) (V (8 + b)).toNatClampNeg))) H)
  split
  · exact ⟨by decide, by decide⟩
  · split
    · exact ⟨by decide, by decide⟩
    · exact ⟨Hle.refl, hI, rfl, (hl.low (Nat.le_add_right _ _)).pu gdv_0 sn⟩
theorem in_21 (hok : WoOk tb pr ow fi) (hft : ∀ k f, tyv (some (fty pr fi ft k f))) (hI : HI tb pr ow fi ft H) (h6 : R 6 = some (b + 3)) (hl : lv H R V (b + 3)) (h5 : f5o tb ow fi sg 21 x = false) (ht : tfi pr fi ft sg 21 x rs (fun j => R (6 + (b + 3) - j)) (R x.toNatClampNeg) = true) : fit tb 21 x R V b H ∧ insOk tb pr ow fi ft 21 b H (ins pr ow fi ft 21 x R V b H) := by
  have ht : (part pr (R (6 + (b + 3) - 2)) (some 1) && (isI (R (6 + (b + 3) - 1)) && isI (R (6 + (b + 3) - 0)))) = true := ht
  rw [show 6 + (b + 3) - 2 = 7 + b by omega, Bool.and_eq_true] at ht
  have ho := (hl.1 (7 + b) (by omega) (by omega)).rw ht.1
  refine ⟨ho, ?_⟩
  show insOk tb pr ow fi ft 21 b H (if R (7 + b) = some 2 then .sg 2 else if stH H.sz H.n (V (7 + b)) (V (8 + b)) = false then .sg 3 else .ok (va_up R 6 (some b)) V ⟨H.n, H.sz, H.ty, va_up H.va (clo (V (7 + b)) (V (8 + b)).toNatClampNeg) (V (9 + b)), H.so⟩)
  split
  · exact ⟨by decide, by decide⟩
  · next hne =>
    split
    · exact ⟨by decide, by decide⟩
    · next hst =>
      rcases ho with ⟨z, _⟩ | ⟨q, hq, hy, hv, hso⟩
      · exact absurd z hne
      obtain ⟨a, c, ha, hc, e1, e2⟩ := stH_of hI.1 (fun j _ => hI.2.2.1 j) (by simpa using hst)
      have h40 := hI.1
      rw [hv, nI_eq (by omega) (by omega)] at e1
      subst e1
      have h18 := hI.2.2.1 q
      have hcl : clo (V (7 + b)) (V (8 + b)).toNatClampNeg = q * 18 + c := by unfold clo; rw [hv, e2, nI_clamp (by omega), nI_clamp (by omega)]
      rw [hcl]
      have hle : Hle H ⟨H.n, H.sz, H.ty, va_up H.va (q * 18 + c) (V (9 + b)), H.so⟩ := ⟨Nat.le_refl _, fun _ _ => rfl⟩
      exact ⟨hle, hI.rset hok hso (by omega), va_up_self _ _ _, ((hl.low (Nat.le_add_right _ _)).six).mono hle⟩
theorem in_22 (hok : WoOk tb pr ow fi) (hft : ∀ k f, tyv (some (fty pr fi ft k f))) (hI : HI tb pr ow fi ft H) (h6 : R 6 = some (b + 1)) (hl : lv H R V (b + 1)) (h5 : f5o tb ow fi sg 22 x = false) (ht : tfi pr fi ft sg 22 x rs (fun j => R (6 + (b + 1) - j)) (R x.toNatClampNeg) = true) : fit tb 22 x R V b H ∧ insOk tb pr ow fi ft 22 b H (ins pr ow fi ft 22 x R V b H) := by
  have ht : part pr (R (6 + (b + 1) - 0)) (some 1) = true := ht
  rw [show 6 + (b + 1) - 0 = 7 + b by omega] at ht
  refine ⟨(hl.1 (7 + b) (by omega) (by omega)).rw ht, ?_⟩
  show insOk tb pr ow fi ft 22 b H (if R (7 + b) = some 2 then .sg 2 else .ok (psh R b (some 0)) (va_up V (7 + b) (nI (H.sz (V (7 + b)).toNatClampNeg))) H)
  split
  · exact ⟨by decide, by decide⟩
  · exact ⟨Hle.refl, hI, rfl, (hl.low (Nat.le_add_right _ _)).pu gdv_0 sn⟩
theorem in_23 (hok : WoOk tb pr ow fi) (hft : ∀ k f, tyv (some (fty pr fi ft k f))) (hI : HI tb pr ow fi ft H) (h6 : R 6 = some (b + 1)) (hl : lv H R V (b + 1)) (h5 : f5o tb ow fi sg 23 x = false) (ht : tfi pr fi ft sg 23 x rs (fun j => R (6 + (b + 1) - j)) (R x.toNatClampNeg) = true) : fit tb 23 x R V b H ∧ insOk tb pr ow fi ft 23 b H (ins pr ow fi ft 23 x R V b H) := by
  exact ⟨trivial, Hle.refl, hI, va_up_self _ _ _, (hl.low (Nat.le_add_right _ _)).six⟩
theorem in_24 (hok : WoOk tb pr ow fi) (hft : ∀ k f, tyv (some (fty pr fi ft k f))) (hI : HI tb pr ow fi ft H) (h6 : R 6 = some (b + 1)) (hl : lv H R V (b + 1)) (h5 : f5o tb ow fi sg 24 x = false) (ht : tfi pr fi ft sg 24 x rs (fun j => R (6 + (b + 1) - j)) (R x.toNatClampNeg) = true) : fit tb 24 x R V b H ∧ insOk tb pr ow fi ft 24 b H (ins pr ow fi ft 24 x R V b H) := by
  refine ⟨trivial, Hle.refl, hI, rfl, ?_⟩
  have := hl.pu (b := b + 1) (hl.1 (7 + b) (by omega) (by omega)) (hl.2 b (by omega))
  rw [show 7 + (b + 1) = 8 + b by omega] at this
  exact this
theorem ins_inv (hok : WoOk tb pr ow fi) (hft : ∀ k f, tyv (some (fty pr fi ft k f))) (hI : HI tb pr ow fi ft H) (ho : o < 26) (hj : jmp o = false) (h14 : o ≠ 14) (h17 : o ≠ 17) (h18 : o ≠ 18) (h6 : R 6 = some (b + tks sg o x)) (hl : lv H R V (b + tks sg o x)) (h5 : f5o tb ow fi sg o x = false) (ht : tfi pr fi ft sg o x rs (fun j => R (6 + (b + tks sg o x) - j)) (R x.toNatClampNeg) = true) : fit tb o x R V b H ∧ insOk tb pr ow fi ft o b H (ins pr ow fi ft o x R V b H) := by
  match o, ho with
  | 0, _ => exact in_0 hok hft hI h6 hl h5 ht
  | 1, _ => exact in_1 hok hft hI h6 hl h5 ht
  | 2, _ => exact in_2 hok hft hI h6 hl h5 ht
  | 3, _ => exact in_3 hok hft hI h6 hl h5 ht
  | 4, _ => exact in_4 hok hft hI h6 hl h5 ht
  | 5, _ => exact in_5 hok hft hI h6 hl h5 ht
  | 6, _ => exact in_6 hok hft hI h6 hl h5 ht
  | 7, _ => cases hj
  | 8, _ => cases hj
  | 9, _ => cases hj
  | 10, _ => exact in_10 hok hft hI h6 hl h5 ht
  | 11, _ => exact in_11 hok hft hI h6 hl h5 ht
  | 12, _ => exact in_12 hok hft hI h6 hl h5 ht
  | 13, _ => exact in_13 hok hft hI h6 hl h5 ht
  | 14, _ => exact absurd rfl h14
  | 15, _ => exact in_15 hok hft hI h6 hl h5 ht
  | 16, _ => cases hj
  | 17, _ => exact absurd rfl h17
  | 18, _ => exact absurd rfl h18
  | 19, _ => exact in_19 hok hft hI h6 hl h5 ht
  | 20, _ => exact in_20 hok hft hI h6 hl h5 ht
  | 21, _ => exact in_21 hok hft hI h6 hl h5 ht
  | 22, _ => exact in_22 hok hft hI h6 hl h5 ht
  | 23, _ => exact in_23 hok hft hI h6 hl h5 ht
  | 24, _ => exact in_24 hok hft hI h6 hl h5 ht
  | 25, _ => exact in_25 hok hft hI h6 hl h5 ht
  | o + 26, h => omega
end WIq
