/-! the class Machine: a step does what stp says -/
section JMst
variable {l : Launch} {G : jl_G} {σ : jl_S} {tb : Nat → Bool} {pr : Nat → Option Nat} {ow fi ft : Nat → Nat} {mt : Nat → Option Nat} {hs : Nat → Bool} {σ0 : jl_S} {f : Fm} {fs : List Fm} {H : Hp} {su dt dq aw : Int32} {sg : Int32 → Option Sg} {D : Nat → MDt} {MP : Nat → Nat → Int32} {FH : Nat → Nat → Bool} {P : jl_O → jl_S → Prop}
theorem ma_step (hl : l.stackTraces = false) (hwx : WX σ0 tb pr ow fi ft mt sg D MP FH) (hmt : MtOk mt) (hok : WoOk tb pr ow fi) (hft : ∀ k f, tyv (some (fty pr fi ft k f))) (hmH : ∀ m, hs m = (mt m).isSome) (hD : ∀ m, m < 24 → hs m = true → MdOk (D m)) (hD2 : ∀ m, mt m ≠ none → MdOk (D m)) (hsg : SgM tb pr hs (fun m => (D m).1) (fun m => (D m).2.1) (fun m => (D m).2.2.1) sg) (hfd : ∀ k sl m2, k < 6 → sl < 4 → mmo pr hs sl 6 (some k) = some m2 → ∃ a2, mt m2 = some a2 ∧ found tb pr mt (nI k) (nI sl) = some a2)
    (hr : RI tb pr ow fi ft hs f fs H) (h0 : fltF tb pr ow fi ft sg D f = 0) (hk : KB σ0 mt σ (7 + hgt f.R) fs.length f.m f.p f.R f.V fs H su dt dq aw)
    (hgo : ∀ f' fs' H' σ', stp pr ow fi ft sg hs D f fs H = .go (f' :: fs') H' → KB σ0 mt σ' (7 + hgt f'.R) fs'.length f'.m f'.p f'.R f'.V fs' H' su dt dq aw → P (.inl none) σ') (hfin : ∀ how what an H' aw' σ', stp pr ow fi ft sg hs D f fs H = .fin how what an H' → (∀ v, an = some v → aw' = v) → KZ σ0 σ' H' (nI how) (nI what) dq aw' → P (.inl none) σ') : jl_mE l G m_Ma_step [.ref 13] σ P := by
  have hRI := hr
  obtain ⟨hI, hf, hw, h12⟩ := hr
  obtain ⟨f1', f2', f3', f4', f5', f6'⟩ := hf
  have hd := hD f.m f1' f2'
  obtain ⟨z4, z5, z1, zt⟩ := flt0 h0
  obtain ⟨k1, k2⟩ := f1_b z1
  have hop : dop (D f.m) f.p < 26 := hd.2.2.2.1 _ f3'
  have hsz : dsz (D f.m) ≤ 24 := hd.2.2.2.2.1
  have hps : ∀ k ∈ fs, k.p < 24 := fun k hk => (hw k hk).1.2.2.1
  have z5o : f5o tb ow fi sg (dop (D f.m) f.p) (dag (D f.m) f.p) = false := by unfold f5 at z5; rw [Bool.or_eq_false_iff] at z5; exact z5.2
  have hbb : hgt f.R - tks sg (dop (D f.m) f.p) (dag (D f.m) f.p) + tks sg (dop (D f.m) f.p) (dag (D f.m) f.p) = hgt f.R := Nat.sub_add_cancel k1
  obtain ⟨o, ho⟩ : ∃ o, dop (D f.m) f.p = o := ⟨_, rfl⟩
  obtain ⟨x, hx⟩ : ∃ x, dag (D f.m) f.p = x := ⟨_, rfl⟩
  obtain ⟨b, hb⟩ : ∃ b, hgt f.R - tks sg o x = b := ⟨_, rfl⟩
  rw [ho, hx] at z4 z5 z1 zt k1 k2 z5o hbb
  rw [ho] at hop
  rw [hb] at hbb k2
  rw [← hbb] at f4' f5' f6' zt hk
  have hG : ∀ n, stp pr ow fi ft sg hs D f fs H = sgn pr D n (f :: fs) H → ∀ f' fs' σ', rse pr D none (-1) (f :: fs) = some (f' :: fs') → KB σ0 mt σ' (7 + hgt f'.R) fs'.length f'.m f'.p f'.R f'.V fs' H su dt dq aw → P (.inl none) σ' := fun n e f' fs' σ' e1 h1 => hgo f' fs' H σ' (e.trans (sgn_s e1)) h1
  have hE : ∀ n, stp pr ow fi ft sg hs D f fs H = sgn pr D n (f :: fs) H → rse pr D none (-1) (f :: fs) = none → ∀ σ', KZ σ0 σ' H (nI n) (nI 0) dq aw → P (.inl none) σ' := fun n e e1 σ' h1 => hfin n 0 none H aw σ' (e.trans (sgn_n e1)) (fun _ q => by cases q) h1
  by_cases hj : jmp o = true
  · obtain ⟨n, hn, ex⟩ := f4_x z4 hsz hj
    subst ex
    have hc : (nI n).toNatClampNeg = n := nI_clamp (by omega)
    have es := stp_j (pr := pr) (ow := ow) (fi := fi) (ft := ft) (hs := hs) (fs := fs) (H := H) ho hx hb hj
    rw [hc] at es
    have fin : ∀ σ', KB σ0 mt σ' (7 + b) fs.length f.m (if jtk o f.R f.V b = true then n else f.p + 1) (va_up f.R 6 (some b)) f.V fs H su dt dq aw → P (.inl none) σ' := fun σ' h => hgo _ _ _ σ' es (h.le (by show 7 + hgt (va_up f.R 6 (some b)) ≤ 7 + b; rw [hgt_six2]; exact Nat.le_refl _))
    rcases jmp_of hj with e | e | e | e
    · subst e; exact ma_st_7 hl hk hwx hmt hok h12 f3' ho hx f4' f5' fin
    · subst e; exact ma_st_8 hl hk hwx hmt hok h12 f3' ho hx f4' f5' fin
    · subst e; exact ma_st_9 hl hk hwx hmt hok h12 f3' ho hx f4' f5' fin
    · subst e; exact ma_st_16 hl hk hwx hmt hok h12 f3' ho hx f4' f5' fin
  · by_cases h14 : o = 14
    · subst h14
      have zs : (sg x).isNone = false := z5o
      cases hg : sg x with
      | none => rw [hg] at zs; cases zs
      | some g =>
        have ht : cfit pr g.1 g.2.1 (xq x 4) (fun j => f.R (6 + (b + tks sg 14 x) - j)) = true := by
          have zt : (match sg x with | none => false | some g => cfit pr g.1 g.2.1 (xq x 4) (fun j => f.R (6 + (b + tks sg 14 x) - j))) = true := zt
          rw [hg] at zt; exact zt
        obtain ⟨n, m0, hn, ex, hn6, htb, hm0, eg⟩ := hsg.of hg
        obtain ⟨c0, _, hc06, em0, hhs0⟩ := mmo_of hok 6 _ hn6 hn6 hm0
        have hpq : g.1 = none → g.2.1 = none := by rw [eg]; exact (hD m0 (by omega) hhs0).2.2.2.2.2.2.2
        have hts : tks sg 14 x = 1 + prm g.1 g.2.1 := by unfold tks; rw [if_pos rfl, hg]; rfl
        have hpr : prS (sg x) = prm g.1 g.2.1 := by rw [hg]; rfl
        have hp : part pr (f.R (6 + (b + tks sg 14 x) - prm g.1 g.2.1)) (some (10 + xq x 4)) = true := cfit_self ht hpq
        rw [show 6 + (b + tks sg 14 x) - prm g.1 g.2.1 = 7 + b by omega] at hp
        have hxq : xq x 4 = n / 4 := by unfold xq; rw [ex, nI_clamp hn]
        have hxr : xr x 4 = n % 4 := by unfold xr; rw [ex, nI_clamp hn]
        rw [hxq] at hp
        have hoj := (f6'.1 (7 + b) (by omega) (by omega)).oj (part_isO hp)
        have hc2 := prm_le g.1 g.2.1
        have hc1 : b + tks sg 14 x = b + 1 + prm g.1 g.2.1 := by omega
        rw [hc1] at hk f4' f5'
        subst ex
        rcases hoj with ⟨hy, _⟩ | ⟨q, k, hq, hk6, hy, hv, hso⟩
        · have es := stp_14n (pr := pr) (ow := ow) (fi := fi) (ft := ft) (hs := hs) (fs := fs) (H := H) ho hx hb hy
          exact ma_st_14n hl hk hwx hmt hok h12 f3' ho hx hD2 hps f4' f5' hc2 hn hts hy (hG 2 es) (hE 2 es)
        · rw [hy] at hp
          have ha := (part_o hok hk6).mp hp
          have hne := anc_mmo hok ha hk6 (sl := n % 4) (hs := hs) (by rw [hm0]; simp)
          cases hm : mmo pr hs (n % 4) 6 (some k) with
          | none => exact absurd hm hne
          | some m2 =>
            obtain ⟨a2, hm2, hfd2⟩ := hfd k (n % 4) m2 hk6 (by omega) hm
            refine ma_st_14o hl hk hwx hmt hok h12 f3' ho hx hD2 hps f4' f5' hc2 hn hts hk6 hy hm2 hfd2 (fun h11 σ' h => ?_) (fun h11 σ' h => ?_)
            · have es := stp_14 (pr := pr) (ow := ow) (fi := fi) (ft := ft) (hs := hs) (fs := fs) (H := H) ho hx hb hy (by omega) (by rw [hxr]; exact hm)
              rw [hpr] at es
              exact hgo _ _ _ σ' es (h.le (by show 7 + 0 ≤ 7; exact Nat.le_refl _))
            · exact hfin 6 0 none H aw σ' (stp_14f ho hx hb hy h11) (fun _ q => by cases q) h
    · by_cases h17 : o = 17
      · subst h17
        by_cases hy : f.R (7 + b) = some 2
        · have es := stp_17n (pr := pr) (ow := ow) (fi := fi) (ft := ft) (hs := hs) (fs := fs) (H := H) ho hx hb hy
          exact ma_st_17n hl hk hwx hmt hok h12 f3' ho hx hD2 hps f4' f5' hy (hG 2 es) (hE 2 es)
        · have es := stp_17 (pr := pr) (ow := ow) (fi := fi) (ft := ft) (hs := hs) (fs := fs) (H := H) ho hx hb hy
          have hio : isO (f.R (6 + (b + 1) - 0)) = true := zt
          rw [show 6 + (b + 1) - 0 = 7 + b by omega] at hio
          have hoj := (f6'.1 (7 + b) (show 7 + b < 7 + (b + 1) by omega) (by omega)).oj hio
          refine ma_st_17o hl hk hwx hmt hok h12 f3' ho hx hD2 hps f4' f5' hy (fun f' fs' σ' e1 h1 => hgo f' fs' H σ' (by rw [es, e1]) h1) (fun e1 σ' h1 => hfin 7 _ none H aw σ' (by rw [es, e1]) (fun _ q => by cases q) ?_)
          rcases hoj with ⟨z, _⟩ | ⟨q, k, hq, hk6, hyk, hv, hso⟩
          · exact absurd z hy
          · rw [hyk] at h1 ⊢
            have : en (some (10 + k)) - nI 10 = nI ((some (10 + k)).getD 10 - 10) := by
              show nI (10 + k) - nI 10 = nI (10 + k - 10)
              rw [pk_sub (by omega)]
            rw [this] at h1
            exact h1
      · by_cases h18 : o = 18
        · subst h18
          cases fs with
          | nil => exact ma_st_18z hl hk hwx hmt hok h12 f3' ho hx f4' f5' rfl (fun σ' h => hfin 0 0 _ H _ σ' (stp_18z ho hx hb) (fun v q => Option.some.inj q) h)
          | cons g gs =>
            obtain ⟨⟨g1, g2, g3, g4, g5, g6⟩, g7, g8⟩ := hw g List.mem_cons_self
            exact ma_st_18s hl hk hwx hmt hok h12 f3' ho hx f4' f5' g4 g7 (fun σ' h => hgo _ _ _ σ' (stp_18s ho hx hb) (h.le (by show 7 + (hgt g.R + 1) ≤ 8 + hgt g.R; omega)))
        · have es := stp_i (pr := pr) (ow := ow) (fi := fi) (ft := ft) (hs := hs) (fs := fs) (H := H) ho hx hb (Bool.eq_false_iff.mpr hj) h14 h17 h18
          obtain ⟨hfit, _⟩ := ins_inv hok hft hI hop (Bool.eq_false_iff.mpr hj) h14 h17 h18 f4' f6' z5o zt
          have hO : ∀ R' V' H' σ', ins pr ow fi ft o x f.R f.V b H = .ok R' V' H' → KB σ0 mt σ' (7 + hgt R') fs.length f.m (f.p + 1) R' V' fs H' su dt dq aw → P (.inl none) σ' := fun R' V' H' σ' e h => hgo _ _ _ σ' (by rw [es, e]) h
          have hGi : ∀ n f' fs' σ', ins pr ow fi ft o x f.R f.V b H = .sg n → rse pr D none (-1) (f :: fs) = some (f' :: fs') → KB σ0 mt σ' (7 + hgt f'.R) fs'.length f'.m f'.p f'.R f'.V fs' H su dt dq aw → P (.inl none) σ' := fun n f' fs' σ' e e1 h => hG n (by rw [es, e]) f' fs' σ' e1 h
          have hEi : ∀ n σ', ins pr ow fi ft o x f.R f.V b H = .sg n → rse pr D none (-1) (f :: fs) = none → KZ σ0 σ' H (nI n) (nI 0) dq aw → P (.inl none) σ' := fun n σ' e e1 h => hE n (by rw [es, e]) e1 σ' h
          have hF6 : ∀ σ', ins pr ow fi ft o x f.R f.V b H = .full → KZ σ0 σ' H (nI 6) (nI 0) dq aw → P (.inl none) σ' := fun σ' e h => hfin 6 0 none H aw σ' (by rw [es, e]) (fun _ q => by cases q) h
          match o, hop with
          | 0, _ => exact ma_st_0 hl hk hwx hmt hok h12 f3' ho hx hD2 hps hft hI.1 hI.2.2.1 f4' f5' k2 hfit hO hGi hEi hF6
          | 1, _ => exact ma_st_1 hl hk hwx hmt hok h12 f3' ho hx hD2 hps hft hI.1 hI.2.2.1 f4' f5' k2 hfit hO hGi hEi hF6
          | 2, _ => exact ma_st_2 hl hk hwx hmt hok h12 f3' ho hx hD2 hps hft hI.1 hI.2.2.1 f4' f5' k2 hfit hO hGi hEi hF6
          | 3, _ => exact ma_st_3 hl hk hwx hmt hok h12 f3' ho hx hD2 hps hft hI.1 hI.2.2.1 f4' f5' k2 hfit hO hGi hEi hF6
          | 4, _ => exact ma_st_4 hl hk hwx hmt hok h12 f3' ho hx hD2 hps hft hI.1 hI.2.2.1 f4' f5' k2 hfit hO hGi hEi hF6
          | 5, _ => exact ma_st_5 hl hk hwx hmt hok h12 f3' ho hx hD2 hps hft hI.1 hI.2.2.1 f4' f5' k2 hfit hO hGi hEi hF6
          | 6, _ => exact ma_st_6 hl hk hwx hmt hok h12 f3' ho hx hD2 hps hft hI.1 hI.2.2.1 f4' f5' k2 hfit hO hGi hEi hF6
          | 7, _ => exact absurd rfl hj
          | 8, _ => exact absurd rfl hj
          | 9, _ => exact absurd rfl hj
          | 10, _ => exact ma_st_10 hl hk hwx hmt hok h12 f3' ho hx hD2 hps hft hI.1 hI.2.2.1 f4' f5' k2 hfit hO hGi hEi hF6
          | 11, _ => exact ma_st_11 hl hk hwx hmt hok h12 f3' ho hx hD2 hps hft hI.1 hI.2.2.1 f4' f5' k2 hfit hO hGi hEi hF6
          | 12, _ => exact ma_st_12 hl hk hwx hmt hok h12 f3' ho hx hD2 hps hft hI.1 hI.2.2.1 f4' f5' k2 hfit hO hGi hEi hF6
          | 13, _ => exact ma_st_13 hl hk hwx hmt hok h12 f3' ho hx hD2 hps hft hI.1 hI.2.2.1 f4' f5' k2 hfit hO hGi hEi hF6
          | 14, _ => exact absurd rfl h14
          | 15, _ => exact ma_st_15 hl hk hwx hmt hok h12 f3' ho hx hD2 hps hft hI.1 hI.2.2.1 f4' f5' k2 hfit hO hGi hEi hF6
          | 16, _ => exact absurd rfl hj
          | 17, _ => exact absurd rfl h17
          | 18, _ => exact absurd rfl h18
          | 19, _ => exact ma_st_19 hl hk hwx hmt hok h12 f3' ho hx hD2 hps hft hI.1 hI.2.2.1 f4' f5' k2 hfit hO hGi hEi hF6
          | 20, _ => exact ma_st_20 hl hk hwx hmt hok h12 f3' ho hx hD2 hps hft hI.1 hI.2.2.1 f4' f5' k2 hfit hO hGi hEi hF6
          | 21, _ => exact ma_st_21 hl hk hwx hmt hok h12 f3' ho hx hD2 hps hft hI.1 hI.2.2.1 f4' f5' k2 hfit hO hGi hEi hF6
          | 22, _ => exact ma_st_22 hl hk hwx hmt hok h12 f3' ho hx hD2 hps hft hI.1 hI.2.2.1 f4' f5' k2 hfit hO hGi hEi hF6
          | 23, _ => exact ma_st_23 hl hk hwx hmt hok h12 f3' ho hx hD2 hps hft hI.1 hI.2.2.1 f4' f5' k2 hfit hO hGi hEi hF6
          | 24, _ => exact ma_st_24 hl hk hwx hmt hok h12 f3' ho hx hD2 hps hft hI.1 hI.2.2.1 f4' f5' k2 hfit hO hGi hEi hF6
          | 25, _ => exact ma_st_25 hl hk hwx hmt hok h12 f3' ho hx hD2 hps hft hI.1 hI.2.2.1 f4' f5' k2 hfit hO hGi hEi hF6
          | o + 26, h => omega
end JMst
