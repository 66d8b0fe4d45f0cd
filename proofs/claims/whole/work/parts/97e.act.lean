/-! the class Machine: actOnStack does what ins says (wip/gen/p97e.py) -/
section JMe
variable {l : Launch} {G : jl_G} {σ : jl_S} {tb : Nat → Bool} {pr : Nat → Option Nat} {ow fi ft : Nat → Nat} {mt : Nat → Option Nat} {σ0 : jl_S} {t m p b : Nat} {R : Rw} {V : Nat → Int32} {fs : List Fm} {H : Hp} {su dt dq aw x : Int32} {sg : Int32 → Option Sg} {D : Nat → MDt} {MP : Nat → Nat → Int32} {FH : Nat → Nat → Bool} {P : jl_O → jl_S → Prop} {o : Nat}
theorem nI1 : nI 1 = 1 := by decide +kernel
theorem nI0 : nI 0 = 0 := by decide +kernel
theorem hgt_six2 {R : Rw} {k : Nat} : hgt (va_up R 6 (some k)) = k := by unfold hgt; rw [va_up_self]; rfl
theorem r8o {v : Int32} (h1 : ¬ v < 0) (h2 : ¬ nI 8 < v) : ∃ n, n ≤ 8 ∧ v = nI n := by
  obtain ⟨n, hn, e, -⟩ := pk_mu h1 (show ¬ nI 9 ≤ v from fun h => h2 (Int32.lt_of_lt_of_le (by decide) h)) (by omega)
  exact ⟨n, by omega, e⟩
theorem fi_le2 {tb : Nat → Bool} {pr : Nat → Option Nat} {ow fi : Nat → Nat} (hok : WoOk tb pr ow fi) : ∀ n j, j < n → j < 6 → fi j ≤ 3 * j := by
  intro n
  induction n with
  | zero => intro j hj; exact absurd hj (Nat.not_lt_zero _)
  | succ n ih =>
    intro j hj h6
    cases hp : pr j with
    | none => rw [hok.2.2.2.2.1 j h6 hp]; omega
    | some p =>
      obtain ⟨h1, h2, _⟩ := hok.2.2.2.1 j h6 p hp
      have := ih p (by omega) (by omega)
      have := hok.2.1 p (by omega)
      omega
theorem ma_ins_0 (hl : l.stackTraces = false) (hwx : WX σ0 tb pr ow fi ft mt sg D MP FH) (hmt : MtOk mt) (hok : WoOk tb pr ow fi) (hft : ∀ k f, tyv (some (fty pr fi ft k f))) (ht : t < 12) (hm40 : H.n ≤ 40) (hz18 : ∀ j, H.sz j ≤ 18) (hk : KB σ0 mt σ (7 + b) t m p R V fs H su dt dq aw) (hh : R 6 = some (b)) (hb : b ≤ 5) (hp : b + pts 0 ≤ 5) (hf : fit tb 0 x R V b H) (hO : ∀ R' V' H' σ', ins pr ow fi ft 0 x R V b H = .ok R' V' H' → KB σ0 mt σ' (7 + hgt R') t m p R' V' fs H' su dt dq aw → P (.inl (some (.int (nI 0)))) σ') (hS : ∀ n σ', ins pr ow fi ft 0 x R V b H = .sg n → KB σ0 mt σ' 6 t m p R V fs H su dt dq aw → P (.inl (some (.int (nI n)))) σ') (hF : ∀ σ', ins pr ow fi ft 0 x R V b H = .full → KB σ0 mt σ' 6 t m p R V fs H (nI 6) (nI 0) dq aw → P (.inl (some (.int (nI 0)))) σ') : jl_mE l G m_Ma_actOnStack [.ref 13, .int (nI 0), .int x] σ P := by
  exact ma_act_0 hl hk ht hh hb (show b < 5 from hp) (fun σ' h => hO _ _ _ _ rfl (h.le (by first | exact Nat.le_refl _ | (show 7 + (b + 1) ≤ 8 + b; omega) | (rw [hgt_six2]; omega))))
theorem ma_ins_10 (hl : l.stackTraces = false) (hwx : WX σ0 tb pr ow fi ft mt sg D MP FH) (hmt : MtOk mt) (hok : WoOk tb pr ow fi) (hft : ∀ k f, tyv (some (fty pr fi ft k f))) (ht : t < 12) (hm40 : H.n ≤ 40) (hz18 : ∀ j, H.sz j ≤ 18) (hk : KB σ0 mt σ (7 + b) t m p R V fs H su dt dq aw) (hh : R 6 = some (b)) (hb : b ≤ 5) (hp : b + pts 10 ≤ 5) (hf : fit tb 10 x R V b H) (hO : ∀ R' V' H' σ', ins pr ow fi ft 10 x R V b H = .ok R' V' H' → KB σ0 mt σ' (7 + hgt R') t m p R' V' fs H' su dt dq aw → P (.inl (some (.int (nI 0)))) σ') (hS : ∀ n σ', ins pr ow fi ft 10 x R V b H = .sg n → KB σ0 mt σ' 6 t m p R V fs H su dt dq aw → P (.inl (some (.int (nI n)))) σ') (hF : ∀ σ', ins pr ow fi ft 10 x R V b H = .full → KB σ0 mt σ' 6 t m p R V fs H (nI 6) (nI 0) dq aw → P (.inl (some (.int (nI 0)))) σ') : jl_mE l G m_Ma_actOnStack [.ref 13, .int (nI 10), .int x] σ P := by
  exact ma_act_10 hl hk ht hh hb (show b < 5 from hp) (fun σ' h => hO _ _ _ _ rfl (h.le (by first | exact Nat.le_refl _ | (show 7 + (b + 1) ≤ 8 + b; omega) | (rw [hgt_six2]; omega))))
theorem ma_ins_1 (hl : l.stackTraces = false) (hwx : WX σ0 tb pr ow fi ft mt sg D MP FH) (hmt : MtOk mt) (hok : WoOk tb pr ow fi) (hft : ∀ k f, tyv (some (fty pr fi ft k f))) (ht : t < 12) (hm40 : H.n ≤ 40) (hz18 : ∀ j, H.sz j ≤ 18) (hk : KB σ0 mt σ (7 + b) t m p R V fs H su dt dq aw) (hh : R 6 = some (b)) (hb : b ≤ 5) (hp : b + pts 1 ≤ 5) (hf : fit tb 1 x R V b H) (hO : ∀ R' V' H' σ', ins pr ow fi ft 1 x R V b H = .ok R' V' H' → KB σ0 mt σ' (7 + hgt R') t m p R' V' fs H' su dt dq aw → P (.inl (some (.int (nI 0)))) σ') (hS : ∀ n σ', ins pr ow fi ft 1 x R V b H = .sg n → KB σ0 mt σ' 6 t m p R V fs H su dt dq aw → P (.inl (some (.int (nI n)))) σ') (hF : ∀ σ', ins pr ow fi ft 1 x R V b H = .full → KB σ0 mt σ' 6 t m p R V fs H (nI 6) (nI 0) dq aw → P (.inl (some (.int (nI 0)))) σ') : jl_mE l G m_Ma_actOnStack [.ref 13, .int (nI 1), .int x] σ P := by
  obtain ⟨n, hn, ex, _⟩ := hf
  subst ex
  have hc : (nI n).toNatClampNeg = n := nI_clamp (by omega)
  exact ma_act_1 hl hk ht hh hb (show b < 5 from hp) hn (fun σ' h => hO _ _ _ _ (by show Ir.ok _ _ _ = _; rw [hc]) (h.le (by first | exact Nat.le_refl _ | (show 7 + (b + 1) ≤ 8 + b; omega) | (rw [hgt_six2]; omega))))
theorem ma_ins_2 (hl : l.stackTraces = false) (hwx : WX σ0 tb pr ow fi ft mt sg D MP FH) (hmt : MtOk mt) (hok : WoOk tb pr ow fi) (hft : ∀ k f, tyv (some (fty pr fi ft k f))) (ht : t < 12) (hm40 : H.n ≤ 40) (hz18 : ∀ j, H.sz j ≤ 18) (hk : KB σ0 mt σ (7 + (b + 1)) t m p R V fs H su dt dq aw) (hh : R 6 = some (b + 1)) (hb : b + 1 ≤ 5) (hp : b + pts 2 ≤ 5) (hf : fit tb 2 x R V b H) (hO : ∀ R' V' H' σ', ins pr ow fi ft 2 x R V b H = .ok R' V' H' → KB σ0 mt σ' (7 + hgt R') t m p R' V' fs H' su dt dq aw → P (.inl (some (.int (nI 0)))) σ') (hS : ∀ n σ', ins pr ow fi ft 2 x R V b H = .sg n → KB σ0 mt σ' 6 t m p R V fs H su dt dq aw → P (.inl (some (.int (nI n)))) σ') (hF : ∀ σ', ins pr ow fi ft 2 x R V b H = .full → KB σ0 mt σ' 6 t m p R V fs H (nI 6) (nI 0) dq aw → P (.inl (some (.int (nI 0)))) σ') : jl_mE l G m_Ma_actOnStack [.ref 13, .int (nI 2), .int x] σ P := by
  obtain ⟨n, hn, ex⟩ := hf
  subst ex
  have hc : (nI n).toNatClampNeg = n := nI_clamp (by omega)
  exact ma_act_2 hl hk ht hh hb hn (fun σ' h => hO _ _ _ _ (by show Ir.ok _ _ _ = _; rw [hc]) (h.le (by show 7 + hgt (va_up (va_up R 6 (some b)) n (R (7 + b))) ≤ 7 + b; unfold hgt; rw [va_up_ne _ _ (by omega), va_up_self]; exact Nat.le_refl _)))
theorem ma_ins_3 (hl : l.stackTraces = false) (hwx : WX σ0 tb pr ow fi ft mt sg D MP FH) (hmt : MtOk mt) (hok : WoOk tb pr ow fi) (hft : ∀ k f, tyv (some (fty pr fi ft k f))) (ht : t < 12) (hm40 : H.n ≤ 40) (hz18 : ∀ j, H.sz j ≤ 18) (hk : KB σ0 mt σ (7 + (b + 2)) t m p R V fs H su dt dq aw) (hh : R 6 = some (b + 2)) (hb : b + 2 ≤ 5) (hp : b + pts 3 ≤ 5) (hf : fit tb 3 x R V b H) (hO : ∀ R' V' H' σ', ins pr ow fi ft 3 x R V b H = .ok R' V' H' → KB σ0 mt σ' (7 + hgt R') t m p R' V' fs H' su dt dq aw → P (.inl (some (.int (nI 0)))) σ') (hS : ∀ n σ', ins pr ow fi ft 3 x R V b H = .sg n → KB σ0 mt σ' 6 t m p R V fs H su dt dq aw → P (.inl (some (.int (nI n)))) σ') (hF : ∀ σ', ins pr ow fi ft 3 x R V b H = .full → KB σ0 mt σ' 6 t m p R V fs H (nI 6) (nI 0) dq aw → P (.inl (some (.int (nI 0)))) σ') : jl_mE l G m_Ma_actOnStack [.ref 13, .int (nI 3), .int x] σ P := by
  exact ma_act_3 hl hk ht hh hb (fun σ' h => hO _ _ _ _ rfl (h.le (by first | exact Nat.le_refl _ | (show 7 + (b + 1) ≤ 8 + b; omega) | (rw [hgt_six2]; omega))))
theorem ma_ins_4 (hl : l.stackTraces = false) (hwx : WX σ0 tb pr ow fi ft mt sg D MP FH) (hmt : MtOk mt) (hok : WoOk tb pr ow fi) (hft : ∀ k f, tyv (some (fty pr fi ft k f))) (ht : t < 12) (hm40 : H.n ≤ 40) (hz18 : ∀ j, H.sz j ≤ 18) (hk : KB σ0 mt σ (7 + (b + 2)) t m p R V fs H su dt dq aw) (hh : R 6 = some (b + 2)) (hb : b + 2 ≤ 5) (hp : b + pts 4 ≤ 5) (hf : fit tb 4 x R V b H) (hO : ∀ R' V' H' σ', ins pr ow fi ft 4 x R V b H = .ok R' V' H' → KB σ0 mt σ' (7 + hgt R') t m p R' V' fs H' su dt dq aw → P (.inl (some (.int (nI 0)))) σ') (hS : ∀ n σ', ins pr ow fi ft 4 x R V b H = .sg n → KB σ0 mt σ' 6 t m p R V fs H su dt dq aw → P (.inl (some (.int (nI n)))) σ') (hF : ∀ σ', ins pr ow fi ft 4 x R V b H = .full → KB σ0 mt σ' 6 t m p R V fs H (nI 6) (nI 0) dq aw → P (.inl (some (.int (nI 0)))) σ') : jl_mE l G m_Ma_actOnStack [.ref 13, .int (nI 4), .int x] σ P := by
  exact ma_act_4 hl hk ht hh hb (fun σ' h => hO _ _ _ _ rfl (h.le (by first | exact Nat.le_refl _ | (show 7 + (b + 1) ≤ 8 + b; omega) | (rw [hgt_six2]; omega))))
theorem ma_ins_5 (hl : l.stackTraces = false) (hwx : WX σ0 tb pr ow fi ft mt sg D MP FH) (hmt : MtOk mt) (hok : WoOk tb pr ow fi) (hft : ∀ k f, tyv (some (fty pr fi ft k f))) (ht : t < 12) (hm40 : H.n ≤ 40) (hz18 : ∀ j, H.sz j ≤ 18) (hk : KB σ0 mt σ (7 + (b + 2)) t m p R V fs H su dt dq aw) (hh : R 6 = some (b + 2)) (hb : b + 2 ≤ 5) (hp : b + pts 5 ≤ 5) (hf : fit tb 5 x R V b H) (hO : ∀ R' V' H' σ', ins pr ow fi ft 5 x R V b H = .ok R' V' H' → KB σ0 mt σ' (7 + hgt R') t m p R' V' fs H' su dt dq aw → P (.inl (some (.int (nI 0)))) σ') (hS : ∀ n σ', ins pr ow fi ft 5 x R V b H = .sg n → KB σ0 mt σ' 6 t m p R V fs H su dt dq aw → P (.inl (some (.int (nI n)))) σ') (hF : ∀ σ', ins pr ow fi ft 5 x R V b H = .full → KB σ0 mt σ' 6 t m p R V fs H (nI 6) (nI 0) dq aw → P (.inl (some (.int (nI 0)))) σ') : jl_mE l G m_Ma_actOnStack [.ref 13, .int (nI 5), .int x] σ P := by
  exact ma_act_5 hl hk ht hh hb (fun σ' h => hO _ _ _ _ rfl (h.le (by first | exact Nat.le_refl _ | (show 7 + (b + 1) ≤ 8 + b; omega) | (rw [hgt_six2]; omega))))
theorem ma_ins_6 (hl : l.stackTraces = false) (hwx : WX σ0 tb pr ow fi ft mt sg D MP FH) (hmt : MtOk mt) (hok : WoOk tb pr ow fi) (hft : ∀ k f, tyv (some (fty pr fi ft k f))) (ht : t < 12) (hm40 : H.n ≤ 40) (hz18 : ∀ j, H.sz j ≤ 18) (hk : KB σ0 mt σ (7 + (b + 2)) t m p R V fs H su dt dq aw) (hh : R 6 = some (b + 2)) (hb : b + 2 ≤ 5) (hp : b + pts 6 ≤ 5) (hf : fit tb 6 x R V b H) (hO : ∀ R' V' H' σ', ins pr ow fi ft 6 x R V b H = .ok R' V' H' → KB σ0 mt σ' (7 + hgt R') t m p R' V' fs H' su dt dq aw → P (.inl (some (.int (nI 0)))) σ') (hS : ∀ n σ', ins pr ow fi ft 6 x R V b H = .sg n → KB σ0 mt σ' 6 t m p R V fs H su dt dq aw → P (.inl (some (.int (nI n)))) σ') (hF : ∀ σ', ins pr ow fi ft 6 x R V b H = .full → KB σ0 mt σ' 6 t m p R V fs H (nI 6) (nI 0) dq aw → P (.inl (some (.int (nI 0)))) σ') : jl_mE l G m_Ma_actOnStack [.ref 13, .int (nI 6), .int x] σ P := by
  by_cases h0 : V (8 + b) = 0
  · exact ma_act_6z hl hk ht hh hb h0 (fun σ' h => hS 1 _ (by show (if V (8 + b) = 0 then Ir.sg 1 else _) = _; rw [if_pos h0]) h)
  · exact ma_act_6 hl hk ht hh hb h0 (fun σ' h => hO _ _ _ _ (by show (if V (8 + b) = 0 then Ir.sg 1 else _) = _; rw [if_neg h0]) (h.le (by first | exact Nat.le_refl _ | (show 7 + (b + 1) ≤ 8 + b; omega) | (rw [hgt_six2]; omega))))
theorem ma_ins_11 (hl : l.stackTraces = false) (hwx : WX σ0 tb pr ow fi ft mt sg D MP FH) (hmt : MtOk mt) (hok : WoOk tb pr ow fi) (hft : ∀ k f, tyv (some (fty pr fi ft k f))) (ht : t < 12) (hm40 : H.n ≤ 40) (hz18 : ∀ j, H.sz j ≤ 18) (hk : KB σ0 mt σ (7 + b) t m p R V fs H su dt dq aw) (hh : R 6 = some (b)) (hb : b ≤ 5) (hp : b + pts 11 ≤ 5) (hf : fit tb 11 x R V b H) (hO : ∀ R' V' H' σ', ins pr ow fi ft 11 x R V b H = .ok R' V' H' → KB σ0 mt σ' (7 + hgt R') t m p R' V' fs H' su dt dq aw → P (.inl (some (.int (nI 0)))) σ') (hS : ∀ n σ', ins pr ow fi ft 11 x R V b H = .sg n → KB σ0 mt σ' 6 t m p R V fs H su dt dq aw → P (.inl (some (.int (nI n)))) σ') (hF : ∀ σ', ins pr ow fi ft 11 x R V b H = .full → KB σ0 mt σ' 6 t m p R V fs H (nI 6) (nI 0) dq aw → P (.inl (some (.int (nI 0)))) σ') : jl_mE l G m_Ma_actOnStack [.ref 13, .int (nI 11), .int x] σ P := by
  obtain ⟨n, hn, ex, htb⟩ := hf
  subst ex
  have hc : (nI n).toNatClampNeg = n := nI_clamp (by omega)
  by_cases h40 : 40 ≤ H.n
  · exact ma_act_11f hl hk ht hh hb hn hm40 h40 (fun σ' h => hF _ (by show (if 40 ≤ H.n then Ir.full else _) = _; rw [if_pos h40]) h)
  · exact ma_act_11o hl hk hwx hmt hok ht hh hb (show b < 5 from hp) hn (by omega) hft (by have := fi_le2 hok 6 n hn hn; have := hok.2.1 n hn; omega) (fun σ' h => hO _ _ _ _ (by show (if 40 ≤ H.n then Ir.full else _) = _; rw [if_neg h40, hc]) (h.le (by first | exact Nat.le_refl _ | (show 7 + (b + 1) ≤ 8 + b; omega) | (rw [hgt_six2]; omega))))
theorem ma_ins_12 (hl : l.stackTraces = false) (hwx : WX σ0 tb pr ow fi ft mt sg D MP FH) (hmt : MtOk mt) (hok : WoOk tb pr ow fi) (hft : ∀ k f, tyv (some (fty pr fi ft k f))) (ht : t < 12) (hm40 : H.n ≤ 40) (hz18 : ∀ j, H.sz j ≤ 18) (hk : KB σ0 mt σ (7 + (b + 1)) t m p R V fs H su dt dq aw) (hh : R 6 = some (b + 1)) (hb : b + 1 ≤ 5) (hp : b + pts 12 ≤ 5) (hf : fit tb 12 x R V b H) (hO : ∀ R' V' H' σ', ins pr ow fi ft 12 x R V b H = .ok R' V' H' → KB σ0 mt σ' (7 + hgt R') t m p R' V' fs H' su dt dq aw → P (.inl (some (.int (nI 0)))) σ') (hS : ∀ n σ', ins pr ow fi ft 12 x R V b H = .sg n → KB σ0 mt σ' 6 t m p R V fs H su dt dq aw → P (.inl (some (.int (nI n)))) σ') (hF : ∀ σ', ins pr ow fi ft 12 x R V b H = .full → KB σ0 mt σ' 6 t m p R V fs H (nI 6) (nI 0) dq aw → P (.inl (some (.int (nI 0)))) σ') : jl_mE l G m_Ma_actOnStack [.ref 13, .int (nI 12), .int x] σ P := by
  obtain ⟨n, hn, hf, ex, ho⟩ := hf
  subst ex
  have hc : (nI n).toNatClampNeg = n := nI_clamp (by omega)
  have hx : xr (nI n) 32 = n % 32 := by unfold xr; rw [hc]
  rcases ho with ⟨hy, hv⟩ | ⟨q, k, hq, hk6, hy, hv, hso⟩
  · exact ma_act_12n hl hk ht hh hb hy hn (fun σ' h => hS 2 _ (by show (if R (7 + b) = some 2 then Ir.sg 2 else _) = _; rw [if_pos hy]) h)
  · have hcl : clo (V (7 + b)) (xr (nI n) 32) = q * 18 + n % 32 := by unfold clo; rw [hv, hx, nI_clamp (by omega)]
    exact ma_act_12o hl hk ht hh hb hk6 hy hv (by omega) hn hf (fun σ' h => hO _ _ _ _ (by show (if R (7 + b) = some 2 then Ir.sg 2 else _) = _; rw [if_neg (by rw [hy]; intro z; have := Option.some.inj z; omega), hcl]) (h.le (by first | exact Nat.le_refl _ | (show 7 + (b + 1) ≤ 8 + b; omega) | (rw [hgt_six2]; omega))))
theorem ma_ins_13 (hl : l.stackTraces = false) (hwx : WX σ0 tb pr ow fi ft mt sg D MP FH) (hmt : MtOk mt) (hok : WoOk tb pr ow fi) (hft : ∀ k f, tyv (some (fty pr fi ft k f))) (ht : t < 12) (hm40 : H.n ≤ 40) (hz18 : ∀ j, H.sz j ≤ 18) (hk : KB σ0 mt σ (7 + (b + 2)) t m p R V fs H su dt dq aw) (hh : R 6 = some (b + 2)) (hb : b + 2 ≤ 5) (hp : b + pts 13 ≤ 5) (hf : fit tb 13 x R V b H) (hO : ∀ R' V' H' σ', ins pr ow fi ft 13 x R V b H = .ok R' V' H' → KB σ0 mt σ' (7 + hgt R') t m p R' V' fs H' su dt dq aw → P (.inl (some (.int (nI 0)))) σ') (hS : ∀ n σ', ins pr ow fi ft 13 x R V b H = .sg n → KB σ0 mt σ' 6 t m p R V fs H su dt dq aw → P (.inl (some (.int (nI n)))) σ') (hF : ∀ σ', ins pr ow fi ft 13 x R V b H = .full → KB σ0 mt σ' 6 t m p R V fs H (nI 6) (nI 0) dq aw → P (.inl (some (.int (nI 0)))) σ') : jl_mE l G m_Ma_actOnStack [.ref 13, .int (nI 13), .int x] σ P := by
  obtain ⟨n, hn, hf, ex, ho⟩ := hf
  subst ex
  have hc : (nI n).toNatClampNeg = n := nI_clamp (by omega)
  have hx : xr (nI n) 32 = n % 32 := by unfold xr; rw [hc]
  rcases ho with ⟨hy, hv⟩ | ⟨q, k, hq, hk6, hy, hv, hso⟩
  · exact ma_act_13n hl hk ht hh hb hy hn (fun σ' h => hS 2 _ (by show (if R (7 + b) = some 2 then Ir.sg 2 else _) = _; rw [if_pos hy]) h)
  · have hcl : clo (V (7 + b)) (xr (nI n) 32) = q * 18 + n % 32 := by unfold clo; rw [hv, hx, nI_clamp (by omega)]
    exact ma_act_13o hl hk ht hh hb hk6 hy hv (by omega) hn hf (fun σ' h => hO _ _ _ _ (by show (if R (7 + b) = some 2 then Ir.sg 2 else _) = _; rw [if_neg (by rw [hy]; intro z; have := Option.some.inj z; omega), hcl]) (h.le (by rw [hgt_six2]; omega)))
theorem ma_ins_15 (hl : l.stackTraces = false) (hwx : WX σ0 tb pr ow fi ft mt sg D MP FH) (hmt : MtOk mt) (hok : WoOk tb pr ow fi) (hft : ∀ k f, tyv (some (fty pr fi ft k f))) (ht : t < 12) (hm40 : H.n ≤ 40) (hz18 : ∀ j, H.sz j ≤ 18) (hk : KB σ0 mt σ (7 + (b + 1)) t m p R V fs H su dt dq aw) (hh : R 6 = some (b + 1)) (hb : b + 1 ≤ 5) (hp : b + pts 15 ≤ 5) (hf : fit tb 15 x R V b H) (hO : ∀ R' V' H' σ', ins pr ow fi ft 15 x R V b H = .ok R' V' H' → KB σ0 mt σ' (7 + hgt R') t m p R' V' fs H' su dt dq aw → P (.inl (some (.int (nI 0)))) σ') (hS : ∀ n σ', ins pr ow fi ft 15 x R V b H = .sg n → KB σ0 mt σ' 6 t m p R V fs H su dt dq aw → P (.inl (some (.int (nI n)))) σ') (hF : ∀ σ', ins pr ow fi ft 15 x R V b H = .full → KB σ0 mt σ' 6 t m p R V fs H (nI 6) (nI 0) dq aw → P (.inl (some (.int (nI 0)))) σ') : jl_mE l G m_Ma_actOnStack [.ref 13, .int (nI 15), .int x] σ P := by
  obtain ⟨n, hn, ex, ho⟩ := hf
  subst ex
  have hc : (nI n).toNatClampNeg = n := nI_clamp (by omega)
  by_cases hpt : part pr (R (7 + b)) (some (10 + n)) = true
  · exact ma_act_15y hl hk hwx hmt hok ht hh hb hn hpt (fun σ' h => hO _ _ _ _ (by show (if part pr (R (7 + b)) (some (10 + (nI n).toNatClampNeg)) = true then Ir.ok R V H else _) = _; rw [hc, if_pos hpt]) (h.le (by unfold hgt; rw [hh]; show 7 + (b + 1) ≤ 8 + b; omega)))
  · exact ma_act_15n hl hk hwx hmt hok ht hh hb hn hpt (fun σ' h => hS 4 _ (by show (if part pr (R (7 + b)) (some (10 + (nI n).toNatClampNeg)) = true then Ir.ok R V H else _) = _; rw [hc, if_neg hpt]) h)
theorem ma_ins_19 (hl : l.stackTraces = false) (hwx : WX σ0 tb pr ow fi ft mt sg D MP FH) (hmt : MtOk mt) (hok : WoOk tb pr ow fi) (hft : ∀ k f, tyv (some (fty pr fi ft k f))) (ht : t < 12) (hm40 : H.n ≤ 40) (hz18 : ∀ j, H.sz j ≤ 18) (hk : KB σ0 mt σ (7 + (b + 1)) t m p R V fs H su dt dq aw) (hh : R 6 = some (b + 1)) (hb : b + 1 ≤ 5) (hp : b + pts 19 ≤ 5) (hf : fit tb 19 x R V b H) (hO : ∀ R' V' H' σ', ins pr ow fi ft 19 x R V b H = .ok R' V' H' → KB σ0 mt σ' (7 + hgt R') t m p R' V' fs H' su dt dq aw → P (.inl (some (.int (nI 0)))) σ') (hS : ∀ n σ', ins pr ow fi ft 19 x R V b H = .sg n → KB σ0 mt σ' 6 t m p R V fs H su dt dq aw → P (.inl (some (.int (nI n)))) σ') (hF : ∀ σ', ins pr ow fi ft 19 x R V b H = .full → KB σ0 mt σ' 6 t m p R V fs H (nI 6) (nI 0) dq aw → P (.inl (some (.int (nI 0)))) σ') : jl_mE l G m_Ma_actOnStack [.ref 13, .int (nI 19), .int x] σ P := by
  by_cases h0 : V (7 + b) < 0
  · exact ma_act_19a hl hk ht hh hb h0 (fun σ' h => hS 3 _ (by show (if V (7 + b) < 0 then Ir.sg 3 else if nI 8 < V (7 + b) then .sg 3 else if 40 ≤ H.n then .full else _) = _; rw [if_pos h0]) h)
  · by_cases h8 : nI 8 < V (7 + b)
    · exact ma_act_19b hl hk ht hh hb h0 h8 (fun σ' h => hS 3 _ (by show (if V (7 + b) < 0 then Ir.sg 3 else if nI 8 < V (7 + b) then .sg 3 else if 40 ≤ H.n then .full else _) = _; rw [if_neg h0, if_pos h8]) h)
    · obtain ⟨n, hn, hv⟩ := r8o h0 h8
      have hc : (V (7 + b)).toNatClampNeg = n := by rw [hv, nI_clamp (by omega)]
      by_cases h40 : 40 ≤ H.n
      · exact ma_act_19f hl hk ht hh hb hv hn hm40 h40 (fun σ' h => hF _ (by show (if V (7 + b) < 0 then Ir.sg 3 else if nI 8 < V (7 + b) then .sg 3 else if 40 ≤ H.n then .full else _) = _; rw [if_neg h0, if_neg h8, if_pos h40]) h)
      · exact ma_act_19o hl hk ht hh hb hv (show b < 5 from hp) hn (by omega) (fun σ' h => hO _ _ _ _ (by show (if V (7 + b) < 0 then Ir.sg 3 else if nI 8 < V (7 + b) then .sg 3 else if 40 ≤ H.n then .full else _) = _; rw [if_neg h0, if_neg h8, if_neg h40, hc]) (h.le (by first | exact Nat.le_refl _ | (show 7 + (b + 1) ≤ 8 + b; omega) | (rw [hgt_six2]; omega))))
theorem ma_ins_20 (hl : l.stackTraces = false) (hwx : WX σ0 tb pr ow fi ft mt sg D MP FH) (hmt : MtOk mt) (hok : WoOk tb pr ow fi) (hft : ∀ k f, tyv (some (fty pr fi ft k f))) (ht : t < 12) (hm40 : H.n ≤ 40) (hz18 : ∀ j, H.sz j ≤ 18) (hk : KB σ0 mt σ (7 + (b + 2)) t m p R V fs H su dt dq aw) (hh : R 6 = some (b + 2)) (hb : b + 2 ≤ 5) (hp : b + pts 20 ≤ 5) (hf : fit tb 20 x R V b H) (hO : ∀ R' V' H' σ', ins pr ow fi ft 20 x R V b H = .ok R' V' H' → KB σ0 mt σ' (7 + hgt R') t m p R' V' fs H' su dt dq aw → P (.inl (some (.int (nI 0)))) σ') (hS : ∀ n σ', ins pr ow fi ft 20 x R V b H = .sg n → KB σ0 mt σ' 6 t m p R V fs H su dt dq aw → P (.inl (some (.int (nI n)))) σ') (hF : ∀ σ', ins pr ow fi ft 20 x R V b H = .full → KB σ0 mt σ' 6 t m p R V fs H (nI 6) (nI 0) dq aw → P (.inl (some (.int (nI 0)))) σ') : jl_mE l G m_Ma_actOnStack [.ref 13, .int (nI 20), .int x] σ P := by
  rcases hf with ⟨hy, hv⟩ | ⟨q, hq, hy, hv, hso⟩
  · exact ma_act_20n hl hk ht hh hb hy (fun σ' h => hS 2 _ (by show (if R (7 + b) = some 2 then Ir.sg 2 else if stH H.sz H.n (V (7 + b)) (V (8 + b)) = false then .sg 3 else _) = _; rw [if_pos hy]) h)
  · have hn2 : ¬ R (7 + b) = some 2 := by rw [hy]; intro z; cases z
    cases hst : stH H.sz H.n (V (7 + b)) (V (8 + b)) with
    | false => exact ma_act_20b hl hk ht hh hb hy hv (by omega) hm40 (by rw [← hv]; exact hst) (fun σ' h => hS 3 _ (by show (if R (7 + b) = some 2 then Ir.sg 2 else if stH H.sz H.n (V (7 + b)) (V (8 + b)) = false then .sg 3 else _) = _; rw [if_neg hn2, if_pos hst]) h)
    | true =>
      obtain ⟨a, j, ha, hj, e1, hi⟩ := stH_of hm40 (fun j _ => hz18 j) hst
      have h18 := hz18 a
      have hcl : clo (V (7 + b)) (V (8 + b)).toNatClampNeg = q * 18 + j := by unfold clo; rw [hv, hi, nI_clamp (by omega), nI_clamp (by omega)]
      exact ma_act_20 hl hk ht hh hb hy hv (by omega) hi (by omega) hm40 (by rw [← hv, ← hi]; exact hst) (fun σ' h => hO _ _ _ _ (by show (if R (7 + b) = some 2 then Ir.sg 2 else if stH H.sz H.n (V (7 + b)) (V (8 + b)) = false then .sg 3 else _) = _; rw [if_neg hn2, if_neg (by rw [hst]; decide), hcl]) (h.le (by first | exact Nat.le_refl _ | (show 7 + (b + 1) ≤ 8 + b; omega) | (rw [hgt_six2]; omega))))
theorem ma_ins_21 (hl : l.stackTraces = false) (hwx : WX σ0 tb pr ow fi ft mt sg D MP FH) (hmt : MtOk mt) (hok : WoOk tb pr ow fi) (hft : ∀ k f, tyv (some (fty pr fi ft k f))) (ht : t < 12) (hm40 : H.n ≤ 40) (hz18 : ∀ j, H.sz j ≤ 18) (hk : KB σ0 mt σ (7 + (b + 3)) t m p R V fs H su dt dq aw) (hh : R 6 = some (b + 3)) (hb : b + 3 ≤ 5) (hp : b + pts 21 ≤ 5) (hf : fit tb 21 x R V b H) (hO : ∀ R' V' H' σ', ins pr ow fi ft 21 x R V b H = .ok R' V' H' → KB σ0 mt σ' (7 + hgt R') t m p R' V' fs H' su dt dq aw → P (.inl (some (.int (nI 0)))) σ') (hS : ∀ n σ', ins pr ow fi ft 21 x R V b H = .sg n → KB σ0 mt σ' 6 t m p R V fs H su dt dq aw → P (.inl (some (.int (nI n)))) σ') (hF : ∀ σ', ins pr ow fi ft 21 x R V b H = .full → KB σ0 mt σ' 6 t m p R V fs H (nI 6) (nI 0) dq aw → P (.inl (some (.int (nI 0)))) σ') : jl_mE l G m_Ma_actOnStack [.ref 13, .int (nI 21), .int x] σ P := by
  rcases hf with ⟨hy, hv⟩ | ⟨q, hq, hy, hv, hso⟩
  · exact ma_act_21n hl hk ht hh hb hy (fun σ' h => hS 2 _ (by show (if R (7 + b) = some 2 then Ir.sg 2 else if stH H.sz H.n (V (7 + b)) (V (8 + b)) = false then .sg 3 else _) = _; rw [if_pos hy]) h)
  · have hn2 : ¬ R (7 + b) = some 2 := by rw [hy]; intro z; cases z
    cases hst : stH H.sz H.n (V (7 + b)) (V (8 + b)) with
    | false => exact ma_act_21b hl hk ht hh hb hy hv (by omega) hm40 (by rw [← hv]; exact hst) (fun σ' h => hS 3 _ (by show (if R (7 + b) = some 2 then Ir.sg 2 else if stH H.sz H.n (V (7 + b)) (V (8 + b)) = false then .sg 3 else _) = _; rw [if_neg hn2, if_pos hst]) h)
    | true =>
      obtain ⟨a, j, ha, hj, e1, hi⟩ := stH_of hm40 (fun j _ => hz18 j) hst
      have h18 := hz18 a
      have hcl : clo (V (7 + b)) (V (8 + b)).toNatClampNeg = q * 18 + j := by unfold clo; rw [hv, hi, nI_clamp (by omega), nI_clamp (by omega)]
      exact ma_act_21 hl hk ht hh hb hy hv (by omega) hi (by omega) hm40 (by rw [← hv, ← hi]; exact hst) (fun σ' h => hO _ _ _ _ (by show (if R (7 + b) = some 2 then Ir.sg 2 else if stH H.sz H.n (V (7 + b)) (V (8 + b)) = false then .sg 3 else _) = _; rw [if_neg hn2, if_neg (by rw [hst]; decide), hcl]) (h.le (by rw [hgt_six2]; omega)))
theorem ma_ins_22 (hl : l.stackTraces = false) (hwx : WX σ0 tb pr ow fi ft mt sg D MP FH) (hmt : MtOk mt) (hok : WoOk tb pr ow fi) (hft : ∀ k f, tyv (some (fty pr fi ft k f))) (ht : t < 12) (hm40 : H.n ≤ 40) (hz18 : ∀ j, H.sz j ≤ 18) (hk : KB σ0 mt σ (7 + (b + 1)) t m p R V fs H su dt dq aw) (hh : R 6 = some (b + 1)) (hb : b + 1 ≤ 5) (hp : b + pts 22 ≤ 5) (hf : fit tb 22 x R V b H) (hO : ∀ R' V' H' σ', ins pr ow fi ft 22 x R V b H = .ok R' V' H' → KB σ0 mt σ' (7 + hgt R') t m p R' V' fs H' su dt dq aw → P (.inl (some (.int (nI 0)))) σ') (hS : ∀ n σ', ins pr ow fi ft 22 x R V b H = .sg n → KB σ0 mt σ' 6 t m p R V fs H su dt dq aw → P (.inl (some (.int (nI n)))) σ') (hF : ∀ σ', ins pr ow fi ft 22 x R V b H = .full → KB σ0 mt σ' 6 t m p R V fs H (nI 6) (nI 0) dq aw → P (.inl (some (.int (nI 0)))) σ') : jl_mE l G m_Ma_actOnStack [.ref 13, .int (nI 22), .int x] σ P := by
  rcases hf with ⟨hy, hv⟩ | ⟨q, hq, hy, hv, hso⟩
  · exact ma_act_22n hl hk ht hh hb hy (fun σ' h => hS 2 _ (by show (if R (7 + b) = some 2 then Ir.sg 2 else _) = _; rw [if_pos hy]) h)
  · have hn2 : ¬ R (7 + b) = some 2 := by rw [hy]; intro z; cases z
    have hc : (V (7 + b)).toNatClampNeg = q := by rw [hv, nI_clamp (by omega)]
    exact ma_act_22 hl hk ht hh hb hy hv (by omega) (fun σ' h => hO _ _ _ _ (by show (if R (7 + b) = some 2 then Ir.sg 2 else _) = _; rw [if_neg hn2, hc]) (h.le (by first | exact Nat.le_refl _ | (show 7 + (b + 1) ≤ 8 + b; omega) | (rw [hgt_six2]; omega))))
theorem ma_ins_23 (hl : l.stackTraces = false) (hwx : WX σ0 tb pr ow fi ft mt sg D MP FH) (hmt : MtOk mt) (hok : WoOk tb pr ow fi) (hft : ∀ k f, tyv (some (fty pr fi ft k f))) (ht : t < 12) (hm40 : H.n ≤ 40) (hz18 : ∀ j, H.sz j ≤ 18) (hk : KB σ0 mt σ (7 + (b + 1)) t m p R V fs H su dt dq aw) (hh : R 6 = some (b + 1)) (hb : b + 1 ≤ 5) (hp : b + pts 23 ≤ 5) (hf : fit tb 23 x R V b H) (hO : ∀ R' V' H' σ', ins pr ow fi ft 23 x R V b H = .ok R' V' H' → KB σ0 mt σ' (7 + hgt R') t m p R' V' fs H' su dt dq aw → P (.inl (some (.int (nI 0)))) σ') (hS : ∀ n σ', ins pr ow fi ft 23 x R V b H = .sg n → KB σ0 mt σ' 6 t m p R V fs H su dt dq aw → P (.inl (some (.int (nI n)))) σ') (hF : ∀ σ', ins pr ow fi ft 23 x R V b H = .full → KB σ0 mt σ' 6 t m p R V fs H (nI 6) (nI 0) dq aw → P (.inl (some (.int (nI 0)))) σ') : jl_mE l G m_Ma_actOnStack [.ref 13, .int (nI 23), .int x] σ P := by
  exact ma_act_23 hl hk ht hh hb (fun σ' h => hO _ _ _ _ rfl (h.le (by rw [hgt_six2]; omega)))
theorem ma_ins_24 (hl : l.stackTraces = false) (hwx : WX σ0 tb pr ow fi ft mt sg D MP FH) (hmt : MtOk mt) (hok : WoOk tb pr ow fi) (hft : ∀ k f, tyv (some (fty pr fi ft k f))) (ht : t < 12) (hm40 : H.n ≤ 40) (hz18 : ∀ j, H.sz j ≤ 18) (hk : KB σ0 mt σ (7 + (b + 1)) t m p R V fs H su dt dq aw) (hh : R 6 = some (b + 1)) (hb : b + 1 ≤ 5) (hp : b + pts 24 ≤ 5) (hf : fit tb 24 x R V b H) (hO : ∀ R' V' H' σ', ins pr ow fi ft 24 x R V b H = .ok R' V' H' → KB σ0 mt σ' (7 + hgt R') t m p R' V' fs H' su dt dq aw → P (.inl (some (.int (nI 0)))) σ') (hS : ∀ n σ', ins pr ow fi ft 24 x R V b H = .sg n → KB σ0 mt σ' 6 t m p R V fs H su dt dq aw → P (.inl (some (.int (nI n)))) σ') (hF : ∀ σ', ins pr ow fi ft 24 x R V b H = .full → KB σ0 mt σ' 6 t m p R V fs H (nI 6) (nI 0) dq aw → P (.inl (some (.int (nI 0)))) σ') : jl_mE l G m_Ma_actOnStack [.ref 13, .int (nI 24), .int x] σ P := by
  have hp : b + 2 ≤ 5 := hp
  exact ma_act_24 hl hk ht hh hb (by omega) (fun σ' h => hO _ _ _ _ (by show Ir.ok _ _ _ = _; rw [show 8 + b = 7 + (b + 1) by omega]) (h.le (by show 7 + (b + 1 + 1) ≤ 8 + (b + 1); omega)))
theorem ma_ins_25 (hl : l.stackTraces = false) (hwx : WX σ0 tb pr ow fi ft mt sg D MP FH) (hmt : MtOk mt) (hok : WoOk tb pr ow fi) (hft : ∀ k f, tyv (some (fty pr fi ft k f))) (ht : t < 12) (hm40 : H.n ≤ 40) (hz18 : ∀ j, H.sz j ≤ 18) (hk : KB σ0 mt σ (7 + (b + 2)) t m p R V fs H su dt dq aw) (hh : R 6 = some (b + 2)) (hb : b + 2 ≤ 5) (hp : b + pts 25 ≤ 5) (hf : fit tb 25 x R V b H) (hO : ∀ R' V' H' σ', ins pr ow fi ft 25 x R V b H = .ok R' V' H' → KB σ0 mt σ' (7 + hgt R') t m p R' V' fs H' su dt dq aw → P (.inl (some (.int (nI 0)))) σ') (hS : ∀ n σ', ins pr ow fi ft 25 x R V b H = .sg n → KB σ0 mt σ' 6 t m p R V fs H su dt dq aw → P (.inl (some (.int (nI n)))) σ') (hF : ∀ σ', ins pr ow fi ft 25 x R V b H = .full → KB σ0 mt σ' 6 t m p R V fs H (nI 6) (nI 0) dq aw → P (.inl (some (.int (nI 0)))) σ') : jl_mE l G m_Ma_actOnStack [.ref 13, .int (nI 25), .int x] σ P := by
  by_cases he : V (7 + b) = V (8 + b)
  · exact ma_act_25e hl hk ht hh hb he (fun σ' h => hO _ _ _ _ (by show Ir.ok _ _ _ = _; rw [if_pos he, nI1]) (h.le (by first | exact Nat.le_refl _ | (show 7 + (b + 1) ≤ 8 + b; omega) | (rw [hgt_six2]; omega))))
  · exact ma_act_25d hl hk ht hh hb he (fun σ' h => hO _ _ _ _ (by show Ir.ok _ _ _ = _; rw [if_neg he, nI0]) (h.le (by first | exact Nat.le_refl _ | (show 7 + (b + 1) ≤ 8 + b; omega) | (rw [hgt_six2]; omega))))
theorem ma_ins (hl : l.stackTraces = false) (hwx : WX σ0 tb pr ow fi ft mt sg D MP FH) (hmt : MtOk mt) (hok : WoOk tb pr ow fi) (hft : ∀ k f, tyv (some (fty pr fi ft k f))) (ht : t < 12) (hm40 : H.n ≤ 40) (hz18 : ∀ j, H.sz j ≤ 18) (ho : o < 26) (hj : jmp o = false) (h14 : o ≠ 14) (h17 : o ≠ 17) (h18 : o ≠ 18) (hk : KB σ0 mt σ (7 + (b + tk0 o)) t m p R V fs H su dt dq aw) (hh : R 6 = some (b + tk0 o)) (hb : b + tk0 o ≤ 5) (hp : b + pts o ≤ 5) (hf : fit tb o x R V b H) (hO : ∀ R' V' H' σ', ins pr ow fi ft o x R V b H = .ok R' V' H' → KB σ0 mt σ' (7 + hgt R') t m p R' V' fs H' su dt dq aw → P (.inl (some (.int (nI 0)))) σ') (hS : ∀ n σ', ins pr ow fi ft o x R V b H = .sg n → KB σ0 mt σ' 6 t m p R V fs H su dt dq aw → P (.inl (some (.int (nI n)))) σ') (hF : ∀ σ', ins pr ow fi ft o x R V b H = .full → KB σ0 mt σ' 6 t m p R V fs H (nI 6) (nI 0) dq aw → P (.inl (some (.int (nI 0)))) σ') : jl_mE l G m_Ma_actOnStack [.ref 13, .int (nI o), .int x] σ P := by
  match o, ho with
  | 0, _ => exact ma_ins_0 hl hwx hmt hok hft ht hm40 hz18 hk hh hb hp hf hO hS hF
  | 1, _ => exact ma_ins_1 hl hwx hmt hok hft ht hm40 hz18 hk hh hb hp hf hO hS hF
  | 2, _ => exact ma_ins_2 hl hwx hmt hok hft ht hm40 hz18 hk hh hb hp hf hO hS hF
  | 3, _ => exact ma_ins_3 hl hwx hmt hok hft ht hm40 hz18 hk hh hb hp hf hO hS hF
  | 4, _ => exact ma_ins_4 hl hwx hmt hok hft ht hm40 hz18 hk hh hb hp hf hO hS hF
  | 5, _ => exact ma_ins_5 hl hwx hmt hok hft ht hm40 hz18 hk hh hb hp hf hO hS hF
  | 6, _ => exact ma_ins_6 hl hwx hmt hok hft ht hm40 hz18 hk hh hb hp hf hO hS hF
  | 7, _ => cases hj
  | 8, _ => cases hj
  | 9, _ => cases hj
  | 10, _ => exact ma_ins_10 hl hwx hmt hok hft ht hm40 hz18 hk hh hb hp hf hO hS hF
  | 11, _ => exact ma_ins_11 hl hwx hmt hok hft ht hm40 hz18 hk hh hb hp hf hO hS hF
  | 12, _ => exact ma_ins_12 hl hwx hmt hok hft ht hm40 hz18 hk hh hb hp hf hO hS hF
  | 13, _ => exact ma_ins_13 hl hwx hmt hok hft ht hm40 hz18 hk hh hb hp hf hO hS hF
  | 14, _ => exact absurd rfl h14
  | 15, _ => exact ma_ins_15 hl hwx hmt hok hft ht hm40 hz18 hk hh hb hp hf hO hS hF
  | 16, _ => cases hj
  | 17, _ => exact absurd rfl h17
  | 18, _ => exact absurd rfl h18
  | 19, _ => exact ma_ins_19 hl hwx hmt hok hft ht hm40 hz18 hk hh hb hp hf hO hS hF
  | 20, _ => exact ma_ins_20 hl hwx hmt hok hft ht hm40 hz18 hk hh hb hp hf hO hS hF
  | 21, _ => exact ma_ins_21 hl hwx hmt hok hft ht hm40 hz18 hk hh hb hp hf hO hS hF
  | 22, _ => exact ma_ins_22 hl hwx hmt hok hft ht hm40 hz18 hk hh hb hp hf hO hS hF
  | 23, _ => exact ma_ins_23 hl hwx hmt hok hft ht hm40 hz18 hk hh hb hp hf hO hS hF
  | 24, _ => exact ma_ins_24 hl hwx hmt hok hft ht hm40 hz18 hk hh hb hp hf hO hS hF
  | 25, _ => exact ma_ins_25 hl hwx hmt hok hft ht hm40 hz18 hk hh hb hp hf hO hS hF
  | o + 26, h => omega
end JMe
