/-! VERIFIED: what an INSTRUCTION leaves is below what the verifier gave on -/
section WSt2
variable {tb : Nat → Bool} {pr : Nat → Option Nat} {ow fi ft : Nat → Nat} {hs : Nat → Bool} {sg : Int32 → Option Sg} {D : Nat → MDt} {W : Nat → Nat → Option Rw} {H H' : Hp} {y : Option Nat} {v x : Int32} {R r R' : Rw} {V V' : Nat → Int32} {h b i rs o : Nat} {f g : Fm} {fs F : List Fm}
theorem low_v {n j : Nat} (h6 : j ≠ 6) (hj : j < 7 + b) : low r (b + n) n j = r j := by
  unfold low
  rw [if_neg h6, if_neg (by omega)]
theorem topO_s : topO r (b + 1) = r (7 + b) := by
  unfold topO
  rw [if_neg (by omega), show 6 + (b + 1) = 7 + b by omega]
theorem act_0 {z : Option Nat} (hp : pts o = 0) (ho : o ≠ 2) (hle : ∀ j, j < 7 + (b + tks sg o x) → j ≠ 6 → le pr (R j) (r j)) : ∀ j, j < 7 + (b + pts o) → j ≠ 6 → le pr (va_up R 6 z j) (actR pr fi ft sg r o x r (b + tks sg o x) j) := by
  intro j hj h6
  rw [actR_0 hp ho, low_v h6 (by omega), va_up_ne _ _ h6]
  exact hle j (by omega) h6
theorem act_1 (hp : pts o = 1) (hle : ∀ j, j < 7 + (b + tks sg o x) → j ≠ 6 → le pr (R j) (r j)) (hy : le pr y (tres pr fi ft sg r o x (topO r (b + tks sg o x)))) : ∀ j, j < 7 + (b + pts o) → j ≠ 6 → le pr (psh R b y j) (actR pr fi ft sg r o x r (b + tks sg o x) j) := by
  intro j hj h6
  rw [actR_p hp, Nat.add_sub_cancel]
  unfold psh
  rw [if_neg h6, if_neg h6]
  by_cases e : j = 7 + b
  · rw [if_pos e, if_pos e]; exact hy
  · rw [if_neg e, if_neg e, low_v h6 (by omega)]
    exact hle j (by omega) h6
theorem inl_0 (hok : WoOk tb pr ow fi) (hft : ∀ k f, tyv (some (fty pr fi ft k f))) (hI : HI tb pr ow fi ft H) (h6 : R 6 = some (b + 0)) (hl : lv H R V (b + 0)) (h5 : f5o tb ow fi sg 0 x = false) (ht : tfi pr fi ft sg 0 x rs (fun j => R (6 + (b + 0) - j)) (R x.toNatClampNeg) = true) (hle : ∀ j, j < 7 + (b + 0) → j ≠ 6 → le pr (R j) (r j)) (e : ins pr ow fi ft 0 x R V b H = .ok R' V' H') : ∀ j, j < 7 + (b + pts 0) → j ≠ 6 → le pr (R' j) (actR pr fi ft sg r 0 x r (b + tks sg 0 x) j) := by
  obtain ⟨e1, _, _⟩ := Ir.oki e
  subst e1
  exact act_1 rfl hle le.refl
theorem inl_3 (hok : WoOk tb pr ow fi) (hft : ∀ k f, tyv (some (fty pr fi ft k f))) (hI : HI tb pr ow fi ft H) (h6 : R 6 = some (b + 2)) (hl : lv H R V (b + 2)) (h5 : f5o tb ow fi sg 3 x = false) (ht : tfi pr fi ft sg 3 x rs (fun j => R (6 + (b + 2) - j)) (R x.toNatClampNeg) = true) (hle : ∀ j, j < 7 + (b + 2) → j ≠ 6 → le pr (R j) (r j)) (e : ins pr ow fi ft 3 x R V b H = .ok R' V' H') : ∀ j, j < 7 + (b + pts 3) → j ≠ 6 → le pr (R' j) (actR pr fi ft sg r 3 x r (b + tks sg 3 x) j) := by
  obtain ⟨e1, _, _⟩ := Ir.oki e
  subst e1
  exact act_1 rfl hle le.refl
theorem inl_4 (hok : WoOk tb pr ow fi) (hft : ∀ k f, tyv (some (fty pr fi ft k f))) (hI : HI tb pr ow fi ft H) (h6 : R 6 = some (b + 2)) (hl : lv H R V (b + 2)) (h5 : f5o tb ow fi sg 4 x = false) (ht : tfi pr fi ft sg 4 x rs (fun j => R (6 + (b + 2) - j)) (R x.toNatClampNeg) = true) (hle : ∀ j, j < 7 + (b + 2) → j ≠ 6 → le pr (R j) (r j)) (e : ins pr ow fi ft 4 x R V b H = .ok R' V' H') : ∀ j, j < 7 + (b + pts 4) → j ≠ 6 → le pr (R' j) (actR pr fi ft sg r 4 x r (b + tks sg 4 x) j) := by
  obtain ⟨e1, _, _⟩ := Ir.oki e
  subst e1
  exact act_1 rfl hle le.refl
theorem inl_5 (hok : WoOk tb pr ow fi) (hft : ∀ k f, tyv (some (fty pr fi ft k f))) (hI : HI tb pr ow fi ft H) (h6 : R 6 = some (b + 2)) (hl : lv H R V (b + 2)) (h5 : f5o tb ow fi sg 5 x = false) (ht : tfi pr fi ft sg 5 x rs (fun j => R (6 + (b + 2) - j)) (R x.toNatClampNeg) = true) (hle : ∀ j, j < 7 + (b + 2) → j ≠ 6 → le pr (R j) (r j)) (e : ins pr ow fi ft 5 x R V b H = .ok R' V' H') : ∀ j, j < 7 + (b + pts 5) → j ≠ 6 → le pr (R' j) (actR pr fi ft sg r 5 x r (b + tks sg 5 x) j) := by
  obtain ⟨e1, _, _⟩ := Ir.oki e
  subst e1
  exact act_1 rfl hle le.refl
theorem inl_25 (hok : WoOk tb pr ow fi) (hft : ∀ k f, tyv (some (fty pr fi ft k f))) (hI : HI tb pr ow fi ft H) (h6 : R 6 = some (b + 2)) (hl : lv H R V (b + 2)) (h5 : f5o tb ow fi sg 25 x = false) (ht : tfi pr fi ft sg 25 x rs (fun j => R (6 + (b + 2) - j)) (R x.toNatClampNeg) = true) (hle : ∀ j, j < 7 + (b + 2) → j ≠ 6 → le pr (R j) (r j)) (e : ins pr ow fi ft 25 x R V b H = .ok R' V' H') : ∀ j, j < 7 + (b + pts 25) → j ≠ 6 → le pr (R' j) (actR pr fi ft sg r 25 x r (b + tks sg 25 x) j) := by
  obtain ⟨e1, _, _⟩ := Ir.oki e
  subst e1
  exact act_1 rfl hle le.refl
theorem inl_10 (hok : WoOk tb pr ow fi) (hft : ∀ k f, tyv (some (fty pr fi ft k f))) (hI : HI tb pr ow fi ft H) (h6 : R 6 = some (b + 0)) (hl : lv H R V (b + 0)) (h5 : f5o tb ow fi sg 10 x = false) (ht : tfi pr fi ft sg 10 x rs (fun j => R (6 + (b + 0) - j)) (R x.toNatClampNeg) = true) (hle : ∀ j, j < 7 + (b + 0) → j ≠ 6 → le pr (R j) (r j)) (e : ins pr ow fi ft 10 x R V b H = .ok R' V' H') : ∀ j, j < 7 + (b + pts 10) → j ≠ 6 → le pr (R' j) (actR pr fi ft sg r 10 x r (b + tks sg 10 x) j) := by
  obtain ⟨e1, _, _⟩ := Ir.oki e
  subst e1
  exact act_1 rfl hle le.refl
theorem inl_1 (hok : WoOk tb pr ow fi) (hft : ∀ k f, tyv (some (fty pr fi ft k f))) (hI : HI tb pr ow fi ft H) (h6 : R 6 = some (b + 0)) (hl : lv H R V (b + 0)) (h5 : f5o tb ow fi sg 1 x = false) (ht : tfi pr fi ft sg 1 x rs (fun j => R (6 + (b + 0) - j)) (R x.toNatClampNeg) = true) (hle : ∀ j, j < 7 + (b + 0) → j ≠ 6 → le pr (R j) (r j)) (e : ins pr ow fi ft 1 x R V b H = .ok R' V' H') : ∀ j, j < 7 + (b + pts 1) → j ≠ 6 → le pr (R' j) (actR pr fi ft sg r 1 x r (b + tks sg 1 x) j) := by
  obtain ⟨n, hn, ex⟩ := lt6_of (x := x) (by simpa [f5o] using h5)
  subst ex
  have hc : (nI n).toNatClampNeg = n := nI_clamp (by omega)
  obtain ⟨e1, _, _⟩ := Ir.oki e
  subst e1
  refine act_1 rfl hle ?_
  show le pr (R (nI n).toNatClampNeg) (r (nI n).toNatClampNeg)
  rw [hc]
  exact hle n (by omega) (by omega)
theorem inl_2 (hok : WoOk tb pr ow fi) (hft : ∀ k f, tyv (some (fty pr fi ft k f))) (hI : HI tb pr ow fi ft H) (h6 : R 6 = some (b + 1)) (hl : lv H R V (b + 1)) (h5 : f5o tb ow fi sg 2 x = false) (ht : tfi pr fi ft sg 2 x rs (fun j => R (6 + (b + 1) - j)) (R x.toNatClampNeg) = true) (hle : ∀ j, j < 7 + (b + 1) → j ≠ 6 → le pr (R j) (r j)) (e : ins pr ow fi ft 2 x R V b H = .ok R' V' H') : ∀ j, j < 7 + (b + pts 2) → j ≠ 6 → le pr (R' j) (actR pr fi ft sg r 2 x r (b + tks sg 2 x) j) := by
  obtain ⟨n, hn, ex⟩ := lt6_of (x := x) (by simpa [f5o] using h5)
  subst ex
  have hc : (nI n).toNatClampNeg = n := nI_clamp (by omega)
  obtain ⟨e1, _, _⟩ := Ir.oki e
  subst e1
  intro j hj hj6
  have hj : j < 7 + b := hj
  rw [actR_2 (by omega), hc]
  show le pr (va_up (va_up R 6 (some b)) n (R (7 + b)) j) (va_up (low r (b + 1) 1) n (topO r (b + 1)) j)
  by_cases z : j = n
  · rw [z, va_up_self, va_up_self, topO_s]; exact hle _ (by omega) (by omega)
  · rw [va_up_ne _ _ z, va_up_ne _ _ z, va_up_ne _ _ hj6, low_v hj6 hj]; exact hle j (by omega) hj6
theorem inl_6 (hok : WoOk tb pr ow fi) (hft : ∀ k f, tyv (some (fty pr fi ft k f))) (hI : HI tb pr ow fi ft H) (h6 : R 6 = some (b + 2)) (hl : lv H R V (b + 2)) (h5 : f5o tb ow fi sg 6 x = false) (ht : tfi pr fi ft sg 6 x rs (fun j => R (6 + (b + 2) - j)) (R x.toNatClampNeg) = true) (hle : ∀ j, j < 7 + (b + 2) → j ≠ 6 → le pr (R j) (r j)) (e : ins pr ow fi ft 6 x R V b H = .ok R' V' H') : ∀ j, j < 7 + (b + pts 6) → j ≠ 6 → le pr (R' j) (actR pr fi ft sg r 6 x r (b + tks sg 6 x) j) := by
  have e : (if V (8 + b) = 0 then Ir.sg 1 else .ok (psh R b (some 0)) (va_up V (7 + b) (V (7 + b) / V (8 + b))) H) = .ok R' V' H' := e
  split at e
  · cases e
  · cases e; exact act_1 rfl hle le.refl
theorem inl_11 (hok : WoOk tb pr ow fi) (hft : ∀ k f, tyv (some (fty pr fi ft k f))) (hI : HI tb pr ow fi ft H) (h6 : R 6 = some (b + 0)) (hl : lv H R V (b + 0)) (h5 : f5o tb ow fi sg 11 x = false) (ht : tfi pr fi ft sg 11 x rs (fun j => R (6 + (b + 0) - j)) (R x.toNatClampNeg) = true) (hle : ∀ j, j < 7 + (b + 0) → j ≠ 6 → le pr (R j) (r j)) (e : ins pr ow fi ft 11 x R V b H = .ok R' V' H') : ∀ j, j < 7 + (b + pts 11) → j ≠ 6 → le pr (R' j) (actR pr fi ft sg r 11 x r (b + tks sg 11 x) j) := by
  have e : (if 40 ≤ H.n then Ir.full else .ok (psh R b (some (10 + x.toNatClampNeg))) (va_up V (7 + b) (nI H.n)) (mkO pr ow fi ft H x.toNatClampNeg)) = .ok R' V' H' := e
  split at e
  · cases e
  · cases e; exact act_1 rfl hle le.refl
theorem inl_12 (hok : WoOk tb pr ow fi) (hft : ∀ k f, tyv (some (fty pr fi ft k f))) (hI : HI tb pr ow fi ft H) (h6 : R 6 = some (b + 1)) (hl : lv H R V (b + 1)) (h5 : f5o tb ow fi sg 12 x = false) (ht : tfi pr fi ft sg 12 x rs (fun j => R (6 + (b + 1) - j)) (R x.toNatClampNeg) = true) (hle : ∀ j, j < 7 + (b + 1) → j ≠ 6 → le pr (R j) (r j)) (e : ins pr ow fi ft 12 x R V b H = .ok R' V' H') : ∀ j, j < 7 + (b + pts 12) → j ≠ 6 → le pr (R' j) (actR pr fi ft sg r 12 x r (b + tks sg 12 x) j) := by
  obtain ⟨n, hn, ex, hq6, hf, htb⟩ := hasF_of (x := x) (tb := tb) (ow := ow) (fi := fi) (by simpa [f5o] using h5)
  subst ex
  have hc : (nI n).toNatClampNeg = n := nI_clamp hn
  have hx : xr (nI n) 32 = n % 32 := by unfold xr; rw [hc]
  have hxq : xq (nI n) 32 = n / 32 := by unfold xq; rw [hc]
  have h18 := fc18 hok hq6
  have ht : part pr (R (6 + (b + 1) - 0)) (some (10 + xq (nI n) 32)) = true := ht
  rw [show 6 + (b + 1) - 0 = 7 + b by omega, hxq] at ht
  have hg := hl.1 (7 + b) (by omega) (by omega)
  have ho := hg.oj (part_isO ht)
  have e : (if R (7 + b) = some 2 then Ir.sg 2 else .ok (psh R b (H.ty (clo (V (7 + b)) (xr (nI n) 32)))) (va_up V (7 + b) (H.va (clo (V (7 + b)) (xr (nI n) 32)))) H) = .ok R' V' H' := e
  split at e
  · cases e
  · next hne =>
    rcases ho with ⟨z, _⟩ | ⟨q, k, hq, hk, hy, hv, hso⟩
    · exact absurd z hne
    rw [hy] at ht
    have ha := (part_o hok hk).mp ht
    have hfc := anc_fc (ft := ft) hok ha hk
    have hcl : clo (V (7 + b)) (xr (nI n) 32) = q * 18 + n % 32 := by unfold clo; rw [hv, hx, nI_clamp (by have := hI.1; omega)]
    rw [hcl] at e
    rcases hI.2.2.2 q hq with ⟨z, _⟩ | ⟨k', h1, h2, h3, h4, h5⟩
    · rw [hso] at z; cases z
    rw [hso] at h1
    cases h1
    obtain ⟨g1, g2⟩ := h5 (n % 32) (by omega)
    rw [hfc.2 _ hf] at g2
    cases e
    refine act_1 rfl hle (Or.inr ?_)
    show part pr (H.ty (q * 18 + n % 32)) (some (fty pr fi ft (xq (nI n) 32) (xr (nI n) 32))) = true
    rw [hxq, hx]
    exact g2
theorem inl_13 (hok : WoOk tb pr ow fi) (hft : ∀ k f, tyv (some (fty pr fi ft k f))) (hI : HI tb pr ow fi ft H) (h6 : R 6 = some (b + 2)) (hl : lv H R V (b + 2)) (h5 : f5o tb ow fi sg 13 x = false) (ht : tfi pr fi ft sg 13 x rs (fun j => R (6 + (b + 2) - j)) (R x.toNatClampNeg) = true) (hle : ∀ j, j < 7 + (b + 2) → j ≠ 6 → le pr (R j) (r j)) (e : ins pr ow fi ft 13 x R V b H = .ok R' V' H') : ∀ j, j < 7 + (b + pts 13) → j ≠ 6 → le pr (R' j) (actR pr fi ft sg r 13 x r (b + tks sg 13 x) j) := by
  have e : (if R (7 + b) = some 2 then Ir.sg 2 else .ok (va_up R 6 (some b)) V ⟨H.n, H.sz, va_up H.ty (clo (V (7 + b)) (xr x 32)) (R (8 + b)), va_up H.va (clo (V (7 + b)) (xr x 32)) (V (8 + b)), H.so⟩) = .ok R' V' H' := e
  split at e
  · cases e
  · cases e; exact act_0 rfl (by decide) hle
theorem inl_15 (hok : WoOk tb pr ow fi) (hft : ∀ k f, tyv (some (fty pr fi ft k f))) (hI : HI tb pr ow fi ft H) (h6 : R 6 = some (b + 1)) (hl : lv H R V (b + 1)) (h5 : f5o tb ow fi sg 15 x = false) (ht : tfi pr fi ft sg 15 x rs (fun j => R (6 + (b + 1) - j)) (R x.toNatClampNeg) = true) (hle : ∀ j, j < 7 + (b + 1) → j ≠ 6 → le pr (R j) (r j)) (e : ins pr ow fi ft 15 x R V b H = .ok R' V' H') : ∀ j, j < 7 + (b + pts 15) → j ≠ 6 → le pr (R' j) (actR pr fi ft sg r 15 x r (b + tks sg 15 x) j) := by
  have e : (if part pr (R (7 + b)) (some (10 + x.toNatClampNeg)) = true then Ir.ok R V H else .sg 4) = .ok R' V' H' := e
  split at e
  · next hp =>
    cases e
    have := act_1 (o := 15) (x := x) (sg := sg) (fi := fi) (ft := ft) (y := R (7 + b)) rfl hle (Or.inr hp)
    rwa [psh_id h6] at this
  · cases e
theorem inl_19 (hok : WoOk tb pr ow fi) (hft : ∀ k f, tyv (some (fty pr fi ft k f))) (hI : HI tb pr ow fi ft H) (h6 : R 6 = some (b + 1)) (hl : lv H R V (b + 1)) (h5 : f5o tb ow fi sg 19 x = false) (ht : tfi pr fi ft sg 19 x rs (fun j => R (6 + (b + 1) - j)) (R x.toNatClampNeg) = true) (hle : ∀ j, j < 7 + (b + 1) → j ≠ 6 → le pr (R j) (r j)) (e : ins pr ow fi ft 19 x R V b H = .ok R' V' H') : ∀ j, j < 7 + (b + pts 19) → j ≠ 6 → le pr (R' j) (actR pr fi ft sg r 19 x r (b + tks sg 19 x) j) := by
  have e : (if V (7 + b) < 0 then Ir.sg 3 else if nI 8 < V (7 + b) then .sg 3 else if 40 ≤ H.n then .full else .ok (psh R b (some 1)) (va_up V (7 + b) (nI H.n)) (mkR H (V (7 + b)).toNatClampNeg)) = .ok R' V' H' := e
  split at e
  · cases e
  · split at e
    · cases e
    · split at e
      · cases e
      · cases e; exact act_1 rfl hle le.refl
theorem inl_20 (hok : WoOk tb pr ow fi) (hft : ∀ k f, tyv (some (fty pr fi ft k f))) (hI : HI tb pr ow fi ft H) (h6 : R 6 = some (b + 2)) (hl : lv H R V (b + 2)) (h5 : f5o tb ow fi sg 20 x = false) (ht : tfi pr fi ft sg 20 x rs (fun j => R (6 + (b + 2) - j)) (R x.toNatClampNeg) = true) (hle : ∀ j, j < 7 + (b + 2) → j ≠ 6 → le pr (R j) (r j)) (e : ins pr ow fi ft 20 x R V b H = .ok R' V' H') : ∀ j, j < 7 + (b + pts 20) → j ≠ 6 → le pr (R' j) (actR pr fi ft sg r 20 x r (b + tks sg 20 x) j) := by
  have e : (if R (7 + b) = some 2 then Ir.sg 2 else if stH H.sz H.n (V (7 + b)) (V (8 + b)) = false then .sg 3 else .ok (psh R b (some 0)) (va_up V (7 + b) (H.va (clo (V (7 + b)) (V (8 + b)).toNatClampNeg))) H) = .ok R' V' H' := e
  split at e
  · cases e
  · split at e
    · cases e
    · cases e; exact act_1 rfl hle le.refl
theorem inl_21 (hok : WoOk tb pr ow fi) (hft : ∀ k f, tyv (some (fty pr fi ft k f))) (hI : HI tb pr ow fi ft H) (h6 : R 6 = some (b + 3)) (hl : lv H R V (b + 3)) (h5 : f5o tb ow fi sg 21 x = false) (ht : tfi pr fi ft sg 21 x rs (fun j => R (6 + (b + 3) - j)) (R x.toNatClampNeg) = true) (hle : ∀ j, j < 7 + (b + 3) → j ≠ 6 → le pr (R j) (r j)) (e : ins pr ow fi ft 21 x R V b H = .ok R' V' H') : ∀ j, j < 7 + (b + pts 21) → j ≠ 6 → le pr (R' j) (actR pr fi ft sg r 21 x r (b + tks sg 21 x) j) := by
  have e : (if R (7 + b) = some 2 then Ir.sg 2 else if stH H.sz H.n (V (7 + b)) (V (8 + b)) = false then .sg 3 else .ok (va_up R 6 (some b)) V ⟨H.n, H.sz, H.ty, va_up H.va (clo (V (7 + b)) (V (8 + b)).toNatClampNeg) (V (9 + b)), H.so⟩) = .ok R' V' H' := e
  split at e
  · cases e
  · split at e
    · cases e
    · cases e; exact act_0 rfl (by decide) hle
theorem inl_22 (hok : WoOk tb pr ow fi) (hft : ∀ k f, tyv (some (fty pr fi ft k f))) (hI : HI tb pr ow fi ft H) (h6 : R 6 = some (b + 1)) (hl : lv H R V (b + 1)) (h5 : f5o tb ow fi sg 22 x = false) (ht : tfi pr fi ft sg 22 x rs (fun j => R (6 + (b + 1) - j)) (R x.toNatClampNeg) = true) (hle : ∀ j, j < 7 + (b + 1) → j ≠ 6 → le pr (R j) (r j)) (e : ins pr ow fi ft 22 x R V b H = .ok R' V' H') : ∀ j, j < 7 + (b + pts 22) → j ≠ 6 → le pr (R' j) (actR pr fi ft sg r 22 x r (b + tks sg 22 x) j) := by
  have e : (if R (7 + b) = some 2 then Ir.sg 2 else .ok (psh R b (some 0)) (va_up V (7 + b) (nI (H.sz (V (7 + b)).toNatClampNeg))) H) = .ok R' V' H' := e
  split at e
  · cases e
  · cases e; exact act_1 rfl hle le.refl
theorem inl_23 (hok : WoOk tb pr ow fi) (hft : ∀ k f, tyv (some (fty pr fi ft k f))) (hI : HI tb pr ow fi ft H) (h6 : R 6 = some (b + 1)) (hl : lv H R V (b + 1)) (h5 : f5o tb ow fi sg 23 x = false) (ht : tfi pr fi ft sg 23 x rs (fun j => R (6 + (b + 1) - j)) (R x.toNatClampNeg) = true) (hle : ∀ j, j < 7 + (b + 1) → j ≠ 6 → le pr (R j) (r j)) (e : ins pr ow fi ft 23 x R V b H = .ok R' V' H') : ∀ j, j < 7 + (b + pts 23) → j ≠ 6 → le pr (R' j) (actR pr fi ft sg r 23 x r (b + tks sg 23 x) j) := by
  obtain ⟨e1, _, _⟩ := Ir.oki e
  subst e1
  exact act_0 rfl (by decide) hle
theorem inl_24 (hok : WoOk tb pr ow fi) (hft : ∀ k f, tyv (some (fty pr fi ft k f))) (hI : HI tb pr ow fi ft H) (h6 : R 6 = some (b + 1)) (hl : lv H R V (b + 1)) (h5 : f5o tb ow fi sg 24 x = false) (ht : tfi pr fi ft sg 24 x rs (fun j => R (6 + (b + 1) - j)) (R x.toNatClampNeg) = true) (hle : ∀ j, j < 7 + (b + 1) → j ≠ 6 → le pr (R j) (r j)) (e : ins pr ow fi ft 24 x R V b H = .ok R' V' H') : ∀ j, j < 7 + (b + pts 24) → j ≠ 6 → le pr (R' j) (actR pr fi ft sg r 24 x r (b + tks sg 24 x) j) := by
  obtain ⟨e1, _, _⟩ := Ir.oki e
  subst e1
  intro j hj hj6
  have hj : j < 7 + (b + 2) := hj
  rw [actR_pp rfl]
  show le pr (psh R (b + 1) (R (7 + b)) j) (psh (psh (low r (b + 1) 1) b (topO r (b + 1))) (b + 1) (topO r (b + 1)) j)
  rw [topO_s]
  unfold psh
  rw [if_neg hj6, if_neg hj6, if_neg hj6]
  by_cases z : j = 7 + (b + 1)
  · rw [if_pos z, if_pos z]; exact hle _ (by omega) (by omega)
  · rw [if_neg z, if_neg z]
    by_cases z2 : j = 7 + b
    · rw [if_pos z2, z2]; exact hle _ (by omega) (by omega)
    · rw [if_neg z2, low_v hj6 (by omega)]; exact hle j (by omega) hj6
theorem ins_le (hok : WoOk tb pr ow fi) (hft : ∀ k f, tyv (some (fty pr fi ft k f))) (hI : HI tb pr ow fi ft H) (ho : o < 26) (hj : jmp o = false) (h14 : o ≠ 14) (h17 : o ≠ 17) (h18 : o ≠ 18) (h6 : R 6 = some (b + tks sg o x)) (hl : lv H R V (b + tks sg o x)) (h5 : f5o tb ow fi sg o x = false) (ht : tfi pr fi ft sg o x rs (fun j => R (6 + (b + tks sg o x) - j)) (R x.toNatClampNeg) = true) (hle : ∀ j, j < 7 + (b + tks sg o x) → j ≠ 6 → le pr (R j) (r j)) (e : ins pr ow fi ft o x R V b H = .ok R' V' H') : ∀ j, j < 7 + (b + pts o) → j ≠ 6 → le pr (R' j) (actR pr fi ft sg r o x r (b + tks sg o x) j) := by
  match o, ho with
  | 0, _ => exact inl_0 hok hft hI h6 hl h5 ht hle e
  | 1, _ => exact inl_1 hok hft hI h6 hl h5 ht hle e
  | 2, _ => exact inl_2 hok hft hI h6 hl h5 ht hle e
  | 3, _ => exact inl_3 hok hft hI h6 hl h5 ht hle e
  | 4, _ => exact inl_4 hok hft hI h6 hl h5 ht hle e
  | 5, _ => exact inl_5 hok hft hI h6 hl h5 ht hle e
  | 6, _ => exact inl_6 hok hft hI h6 hl h5 ht hle e
  | 7, _ => cases hj
  | 8, _ => cases hj
  | 9, _ => cases hj
  | 10, _ => exact inl_10 hok hft hI h6 hl h5 ht hle e
  | 11, _ => exact inl_11 hok hft hI h6 hl h5 ht hle e
  | 12, _ => exact inl_12 hok hft hI h6 hl h5 ht hle e
  | 13, _ => exact inl_13 hok hft hI h6 hl h5 ht hle e
  | 14, _ => exact absurd rfl h14
  | 15, _ => exact inl_15 hok hft hI h6 hl h5 ht hle e
  | 16, _ => cases hj
  | 17, _ => exact absurd rfl h17
  | 18, _ => exact absurd rfl h18
  | 19, _ => exact inl_19 hok hft hI h6 hl h5 ht hle e
  | 20, _ => exact inl_20 hok hft hI h6 hl h5 ht hle e
  | 21, _ => exact inl_21 hok hft hI h6 hl h5 ht hle e
  | 22, _ => exact inl_22 hok hft hI h6 hl h5 ht hle e
  | 23, _ => exact inl_23 hok hft hI h6 hl h5 ht hle e
  | 24, _ => exact inl_24 hok hft hI h6 hl h5 ht hle e
  | 25, _ => exact inl_25 hok hft hI h6 hl h5 ht hle e
  | o + 26, h => omega
end WSt2
