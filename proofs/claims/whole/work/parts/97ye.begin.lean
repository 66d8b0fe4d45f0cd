/-! the class Machine: begin leads to the start of a run -/
section JMye
variable {l : Launch} {G : jl_G} {σ : jl_S} {tb : Nat → Bool} {pr : Nat → Option Nat} {ow fi ft : Nat → Nat} {mt : Nat → Option Nat} {σ0 : jl_S} {t m p k a N t1v t2v : Nat} {R R' : Rw} {V V' : Nat → Int32} {fs : List Fm} {H : Hp} {su dt dq aw xa xb : Int32} {sg : Int32 → Option Sg} {D : Nat → MDt} {MP : Nat → Nat → Int32} {FH : Nat → Nat → Bool} {P : jl_O → jl_S → Prop} {q1 q2 : Option Nat}
theorem KB.cc (h : KB σ0 mt σ N t m p R V fs H su dt dq aw) (e1 : R = R') (e2 : V = V') : KB σ0 mt σ N t m p R' V' fs H su dt dq aw := by
  subst e1 e2
  exact h
theorem up_no {α : Type} {f : Nat → α} {i : Nat} {x : α} (h : f i = x) : va_up f i x = f := by rw [← h]; exact up_id
def bR0 (k : Nat) : Rw := va_up (cwi (fun _ => none) 0 0) 0 (some (10 + k))
def bV0 : Nat → Int32 := va_up (cwj (fun _ => 0) 0 0) 0 (nI 0)
theorem bR0_n {j : Nat} (h0 : j ≠ 0) (h6 : j ≠ 6) : bR0 k j = none := by
  unfold bR0 cwi
  rw [va_up_ne _ _ h0, if_neg h6, if_neg (by omega)]
theorem bV0_n {j : Nat} (h0 : j ≠ 0) : bV0 j = -1 := by
  unfold bV0 cwj
  rw [va_up_ne _ _ h0, if_neg (by omega)]
theorem bgR_e : bgR k q1 q2 = va_up (va_up (bR0 k) 1 (bgq q1)) 2 (bgq q2) := by
  funext j
  unfold bgR
  by_cases j2 : j = 2
  · subst j2; rw [va_up_self, if_neg (by decide), if_neg (by decide), if_pos rfl]
  rw [va_up_ne _ _ j2]
  by_cases j1 : j = 1
  · subst j1; rw [va_up_self, if_neg (by decide), if_pos rfl]
  rw [va_up_ne _ _ j1, if_neg j1, if_neg j2]
  by_cases j0 : j = 0
  · subst j0; rw [if_pos rfl]; unfold bR0; rw [va_up_self]
  rw [if_neg j0]
  by_cases j6 : j = 6
  · subst j6; rw [if_pos rfl]; unfold bR0 cwi; rw [va_up_ne _ _ (by decide), if_pos rfl]
  rw [if_neg j6, bR0_n j0 j6]
theorem bgV_e : bgV q1 q2 xa xb = va_up (va_up bV0 1 (if q1 = some 0 then xa else -1)) 2 (if q2 = some 0 then (if q1 = some 0 then xb else xa) else -1) := by
  funext j
  unfold bgV
  by_cases j2 : j = 2
  · subst j2; rw [va_up_self, if_neg (by decide), if_neg (by decide), if_pos rfl]
  rw [va_up_ne _ _ j2]
  by_cases j1 : j = 1
  · subst j1; rw [va_up_self, if_neg (by decide), if_pos rfl]
  rw [va_up_ne _ _ j1, if_neg j1, if_neg j2]
  by_cases j0 : j = 0
  · subst j0; rw [if_pos rfl]; unfold bV0; rw [va_up_self]
  rw [if_neg j0, bV0_n j0]
theorem bgR_2n {y : Option Nat} : va_up (va_up (bR0 k) 1 y) 2 none = va_up (bR0 k) 1 y := up_no (by rw [va_up_ne _ _ (by decide)]; exact bR0_n (by decide) (by decide))
theorem bgV_2n {v : Int32} : va_up (va_up bV0 1 v) 2 (-1) = va_up bV0 1 v := up_no (by rw [va_up_ne _ _ (by decide)]; exact bV0_n (by decide))
theorem bgR_1n : va_up (bR0 k) 1 none = bR0 k := up_no (bR0_n (by decide) (by decide))
theorem bgV_1n : va_up bV0 1 (-1) = bV0 := up_no (bV0_n (by decide))
theorem ma_begin (hl : l.stackTraces = false) (hz : KZ σ0 σ H su dt dq aw) (hwx : WX σ0 tb pr ow fi ft mt sg D MP FH) (hmt : MtOk mt) (hok : WoOk tb pr ow fi) (hma : mt m = some a) (hft : ∀ k f, tyv (some (fty pr fi ft k f))) (hD : MdOk (D m)) (hk6 : k < 6) (hT : ∀ σ', KB σ0 mt σ' 7 0 m 0 (bgR k (D m).1 (D m).2.1) (bgV (D m).1 (D m).2.1 xa xb) [] (mkO pr ow fi ft ⟨0, H.sz, H.ty, H.va, H.so⟩ k) (nI 9) (nI 0) (nI 0) aw → P (.inl none) σ') : jl_mE l G m_Ma_begin [.ref 13, .int (nI k), .ref a, .int xa, .int xb] σ P := by
  have hf18 : fi k + ow k ≤ 18 := by have := fi_le2 hok 6 k hk6 hk6; have := hok.2.1 k hk6; omega
  refine ma_bg_A hl hz hwx hmt hok hma hft hk6 hf18 (fun σ' hk => ?_)
  have hF : FrK σ0 σ' := by obtain ⟨_, _, _, _, _, _, _, _, _, _, _, _, h⟩ := hk; exact h
  have hm := (hwx.fr hF hmt).2.2.2 m a hma
  have ha := (hmt m a hma).1
  unfold MeD at hm
  rw [bgR_e, bgV_e] at hT
  have h1 := hD.1
  have h2 := hD.2.1
  have hpq := hD.2.2.2.2.2.2.2
  cases e1 : (D m).1 with
  | none =>
    have e2 := hpq e1
    rw [e1, e2] at hm hT
    exact ma_bg_0 hl hk hm ha (by decide) (fun σ2 h => hT σ2 (h.cc (by show bR0 k = _; show _ = va_up (va_up (bR0 k) 1 none) 2 none; rw [bgR_2n, bgR_1n]) (by show bV0 = _; rw [if_neg (by decide), if_neg (by decide), bgV_2n, bgV_1n])))
  | some t1v =>
    cases e2 : (D m).2.1 with
    | none =>
      rw [e1, e2] at hm hT
      by_cases z1 : t1v = 0
      · subst z1
        exact ma_bg_1i hl hk hm ha (by decide) (fun σ2 h => hT σ2 (h.cc (by show va_up (bR0 k) 1 (some 0) = _; show _ = va_up (va_up (bR0 k) 1 (some 0)) 2 none; rw [bgR_2n]) (by show va_up bV0 1 xa = _; rw [if_pos rfl, if_neg (by decide), bgV_2n])))
      · exact ma_bg_1r hl hk hm ha (by decide) z1 (h1 t1v e1).1 (fun σ2 h => hT σ2 (h.cc (by show va_up (bR0 k) 1 (some 2) = va_up (va_up (bR0 k) 1 (some (if t1v = 0 then 0 else 2))) 2 none; rw [if_neg z1, bgR_2n]) (by show va_up bV0 1 (-1) = _; rw [if_neg (fun q => z1 (Option.some.inj q)), if_neg (by decide), bgV_2n])))
    | some t2v =>
      rw [e1, e2] at hm hT
      by_cases z1 : t1v = 0
      · subst z1
        by_cases z2 : t2v = 0
        · subst z2
          exact ma_bg_2ii hl hk hm ha (by decide) (fun σ2 h => hT σ2 (h.cc rfl (by show va_up (va_up bV0 1 xa) 2 xb = _; rw [if_pos rfl, if_pos rfl, if_pos rfl])))
        · exact ma_bg_2ir hl hk hm ha (by decide) z2 (h2 t2v e2).1 (fun σ2 h => hT σ2 (h.cc (by show va_up (va_up (bR0 k) 1 (some 0)) 2 (some 2) = va_up (va_up (bR0 k) 1 (some 0)) 2 (some (if t2v = 0 then 0 else 2)); rw [if_neg z2]) (by show va_up (va_up bV0 1 xa) 2 (-1) = _; rw [if_pos rfl, if_neg (fun q => z2 (Option.some.inj q))])))
      · by_cases z2 : t2v = 0
        · subst z2
          exact ma_bg_2ri hl hk hm ha (by decide) z1 (h1 t1v e1).1 (fun σ2 h => hT σ2 (h.cc (by show va_up (va_up (bR0 k) 1 (some 2)) 2 (some 0) = va_up (va_up (bR0 k) 1 (some (if t1v = 0 then 0 else 2))) 2 (some 0); rw [if_neg z1]) (by show va_up (va_up bV0 1 (-1)) 2 xa = _; rw [if_neg (fun q => z1 (Option.some.inj q)), if_pos rfl, if_neg (fun q => z1 (Option.some.inj q))])))
        · exact ma_bg_2rr hl hk hm ha (by decide) z1 (h1 t1v e1).1 z2 (h2 t2v e2).1 (fun σ2 h => hT σ2 (h.cc (by show va_up (va_up (bR0 k) 1 (some 2)) 2 (some 2) = va_up (va_up (bR0 k) 1 (some (if t1v = 0 then 0 else 2))) 2 (some (if t2v = 0 then 0 else 2)); rw [if_neg z1, if_neg z2]) (by show va_up (va_up bV0 1 (-1)) 2 (-1) = _; rw [if_neg (fun q => z1 (Option.some.inj q)), if_neg (fun q => z2 (Option.some.inj q))])))
end JMye
section JMyg
variable {l : Launch} {G : jl_G} {σ : jl_S} {tb : Nat → Bool} {pr : Nat → Option Nat} {ow fi ft : Nat → Nat} {mt : Nat → Option Nat} {hs : Nat → Bool} {σ0 : jl_S} {f : Fm} {fs : List Fm} {H : Hp} {aw dq : Int32} {sg : Int32 → Option Sg} {D : Nat → MDt} {MP : Nat → Nat → Int32} {FH : Nat → Nat → Bool} {W : Nat → Nat → Option Rw} {gd : Bool} {n : Nat} {P : jl_O → jl_S → Prop}
/-- how a run ends is told by a number up to 8 -/
theorem mrn_8 : ∀ n (f : Fm) (fs : List Fm) (H : Hp) dn, (hok : WoOk tb pr ow fi) → (hft : ∀ k f, tyv (some (fty pr fi ft k f))) → (hD : ∀ m, m < 24 → hs m = true → MdOk (D m)) → (hsg : SgM tb pr hs (fun m => (D m).1) (fun m => (D m).2.1) (fun m => (D m).2.2.1) sg) → (hW : gd = false → FixW tb pr ow fi ft sg hs D W) → (hE : SgE pr hs D) → SF tb pr ow fi ft hs D W gd f fs H → (mrn tb pr ow fi ft sg hs D gd n f fs H dn).1 ≤ 8 := by
  intro n
  induction n with
  | zero => intro f fs H dn _ _ _ _ _ _ _; exact (by decide : 5 ≤ 8)
  | succ n ih =>
    intro f fs H dn hok hft hD hsg hW hE h
    rw [mrn]
    split
    · exact Nat.le_refl _
    · next hg =>
      have h0 := h.flt hok hD hsg hW hg
      split
      · next f' fs' H' e =>
        obtain ⟨f2, fs2, e2, h2⟩ := h.step hok hft hD hsg hW hE h0 e
        cases e2
        exact ih _ _ _ _ hok hft hD hsg hW hE h2
      · next H' e => exact (by decide : 6 ≤ 8)
      · next how what an H' e => exact Nat.le_trans (h.fin hok hft hD hsg h0 e).2 (by decide)
end JMyg
