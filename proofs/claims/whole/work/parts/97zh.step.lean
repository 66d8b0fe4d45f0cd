/-! the model's machine: a step does what stp says, all INSTRUCTIONS (wip/gen/p97zg.py) -/
section JNzh
variable {l : Launch} {G : jl_G} {σ σ0 : jl_S} {tb : Nat → Bool} {pr : Nat → Option Nat} {ow fi ft : Nat → Nat} {hs : Nat → Bool} {u1 u2 : Nat → Option Nat} {ur ul uo : Nat → Nat} {ua : Nat → Int32} {uc us ut uk : Nat → Nat} {d : Nat} {fs : List Fm} {f : Fm} {H : Hp} {fa vf wh wy hg ov oh an : Int32} {sg : Int32 → Option Sg} {D : Nat → MDt} {P : jl_O → jl_S → Prop}
theorem hgt_of {R : Rw} {h : Nat} (e : R 6 = some h) : hgt R = h := by unfold hgt; rw [e]; rfl
theorem mo_step (hl : l.stackTraces = false) (hw0 : MoW σ0 tb pr ow ft hs) (hu0 : MoM σ0 u1 u2 ur ul uo ua uc us ut uk) (hK : MoK u1 u2 ur ul uo uc us ut uk) (hUD : ∀ m, m < 24 → hs m = true → MdM (D m) u1 u2 ur ul uo ua uc us ut uk m) (hok : WoOk tb pr ow fi) (hft : ∀ k f, tyv (some (fty pr fi ft k f))) (hD : ∀ m, m < 24 → hs m = true → MdOk (D m)) (hsg : SgM tb pr hs (fun m => (D m).1) (fun m => (D m).2.1) (fun m => (D m).2.2.1) sg)
    (hr : RI tb pr ow fi ft hs f fs H) (h0 : fltF tb pr ow fi ft sg D f = 0) (hn : NB σ0 σ (hgt f.R) fs.length f.m f.p (hgt f.R) f.R f.V fs H fa vf wh wy hg ov oh (nI d) an)
    (hgo : ∀ f' fs' H' σ', stp pr ow fi ft sg hs D f fs H = .go (f' :: fs') H' → NB σ0 σ' (hgt f'.R) fs'.length f'.m f'.p (hgt f'.R) f'.R f'.V fs' H' fa vf wh wy hg ov oh (nI (d + 1)) an → P (.inl none) σ') (hfin : ∀ how what an' H' aw σ', stp pr ow fi ft sg hs D f fs H = .fin how what an' H' → (∀ v, an' = some v → aw = v) → NQ σ0 σ' [] H' fa vf wh wy hg (nI how) (nI what) (nI (d + 1)) aw → P (.inl none) σ') : jl_mE l G m_Mo_step [.ref 22] σ P := by
  have hRI := hr
  obtain ⟨hI, hf, hw, h12⟩ := hr
  obtain ⟨f1', f2', f3', f4', f5', f6'⟩ := hf
  have hd := hD f.m f1' f2'
  obtain ⟨z4, z5, z1, zt⟩ := flt0 h0
  obtain ⟨k1, k2⟩ := f1_b z1
  have hop : dop (D f.m) f.p < 26 := hd.2.2.2.1 _ f3'
  have hsz : dsz (D f.m) ≤ 24 := hd.2.2.2.2.1
  have z5o : f5o tb ow fi sg (dop (D f.m) f.p) (dag (D f.m) f.p) = false := by unfold f5 at z5; rw [Bool.or_eq_false_iff] at z5; exact z5.2
  have hbb : hgt f.R - tks sg (dop (D f.m) f.p) (dag (D f.m) f.p) + tks sg (dop (D f.m) f.p) (dag (D f.m) f.p) = hgt f.R := Nat.sub_add_cancel k1
  obtain ⟨euo, eua⟩ := (hUD f.m f1' f2').2.2.2.2.1 f.p f3'
  obtain ⟨o, ho⟩ : ∃ o, dop (D f.m) f.p = o := ⟨_, rfl⟩
  obtain ⟨x, hx⟩ : ∃ x, dag (D f.m) f.p = x := ⟨_, rfl⟩
  obtain ⟨b, hb⟩ : ∃ b, hgt f.R - tks sg o x = b := ⟨_, rfl⟩
  rw [ho, hx] at z4 z5 z1 zt k1 k2 z5o hbb
  rw [ho] at hop euo
  rw [hx] at eua
  rw [hb] at hbb k2
  rw [← hbb] at f4' f5' f6' zt hn
  have hu := hu0.fn hn.frn
  have hcf : ∀ j, j < 48 → us j < 1024 ∧ ut j < 24 ∧ uk j < 7 := hK.2.2
  have hof : ∀ g ∈ (⟨f.m, f.p, f.R, f.V⟩ :: fs : List Fm), g.m < 24 ∧ g.p < 24 ∧ ctM (D g.m) uc us ut uk g.m ∧ uc g.m ≤ 2 := by
    intro g hg
    rcases List.mem_cons.mp hg with e | e
    · subst e; exact ⟨f1', f3', (hUD f.m f1' f2').2.2.2.2.2, (hK.1 f.m f1').2.2.2.2.1⟩
    · obtain ⟨⟨g1, g2, g3, _⟩, _⟩ := hw g e
      exact ⟨g1, g3, (hUD g.m g1 g2).2.2.2.2.2, (hK.1 g.m g1).2.2.2.2.1⟩
  have hft6 : ∀ k f, fty pr fi ft k f < 16 := fun k f => (hft k f _ rfl).1
  have hG : ∀ n, stp pr ow fi ft sg hs D f fs H = sgn pr D n (f :: fs) H → ∀ f' fs' σ', rse pr D none (-1) (f :: fs) = some (f' :: fs') → NB σ0 σ' (hgt f'.R) fs'.length f'.m f'.p (hgt f'.R) f'.R f'.V fs' H fa vf wh wy hg ov oh (nI (d + 1)) an → (.inl none : jl_O) = .inl none ∧ P (.inl none) σ' := fun n e f' fs' σ' e1 h1 => ⟨rfl, hgo f' fs' H σ' (e.trans (sgn_s e1)) h1⟩
  have hE : ∀ n, stp pr ow fi ft sg hs D f fs H = sgn pr D n (f :: fs) H → rse pr D none (-1) (f :: fs) = none → ∀ σ', NQ σ0 σ' [] H fa vf wh wy hg (nI n) (nI 0) (nI (d + 1)) an → (.inl none : jl_O) = .inl none ∧ P (.inl none) σ' := fun n e e1 σ' h1 => ⟨rfl, hfin n 0 none H an σ' (e.trans (sgn_n e1)) (fun _ q => by cases q) h1⟩
  by_cases hj : jmp o = true
  · obtain ⟨n, hn24, ex⟩ := f4_x z4 hsz hj
    subst ex
    have hc : (nI n).toNatClampNeg = n := nI_clamp (by omega)
    have es := stp_j (pr := pr) (ow := ow) (fi := fi) (ft := ft) (hs := hs) (fs := fs) (H := H) ho hx hb hj
    rw [hc] at es
    have fin : ∀ pc, (if jtk o f.R f.V b = true then n else f.p + 1) = pc → ∀ σ', NB σ0 σ' b fs.length f.m pc b (va_up f.R 6 (some b)) f.V fs H fa vf wh wy hg ov oh (nI (d + 1)) an → (.inl none : jl_O) = .inl none ∧ P (.inl none) σ' := fun pc e σ' h => ⟨rfl, hgo _ _ _ σ' es (by
      subst e
      show NB σ0 σ' (hgt (va_up f.R 6 (some b))) fs.length f.m _ (hgt (va_up f.R 6 (some b))) (va_up f.R 6 (some b)) f.V fs H fa vf wh wy hg ov oh (nI (d + 1)) an
      rw [hgt_six2]
      exact h)⟩
    rcases jmp_of hj with e | e | e | e
    · subst e
      exact mo_sw_7 hl hn hu h12 f1' f3' euo eua (fun σ1 h1 => mo_br_7 (b := b) hl h1 (hw0.fn h1.frn) (hu0.fn h1.frn) h12 f5' (by omega) (fin n rfl))
    · subst e
      refine mo_sw_8 hl hn hu h12 f1' f3' euo eua (fun σ1 h1 => ?_)
      by_cases hc : f.V (7 + b) = 0
      · exact mo_br_8t (b := b) hl h1 (hw0.fn h1.frn) (hu0.fn h1.frn) h12 f5' (by omega) hc (fin n (by show (if decide (f.V (7 + b) = 0) = true then n else f.p + 1) = n; rw [if_pos (decide_eq_true hc)]))
      · exact mo_br_8f (b := b) hl h1 (hw0.fn h1.frn) (hu0.fn h1.frn) h12 f5' (by omega) hc (fin (f.p + 1) (by show (if decide (f.V (7 + b) = 0) = true then n else f.p + 1) = f.p + 1; rw [if_neg (fun z => hc (of_decide_eq_true z))]))
    · subst e
      refine mo_sw_9 hl hn hu h12 f1' f3' euo eua (fun σ1 h1 => ?_)
      by_cases hc : f.V (7 + b) < f.V (8 + b)
      · exact mo_br_9t (b := b) hl h1 (hw0.fn h1.frn) (hu0.fn h1.frn) h12 f5' (by omega) hc (fin n (by show (if decide (f.V (7 + b) < f.V (8 + b)) = true then n else f.p + 1) = n; rw [if_pos (decide_eq_true hc)]))
      · exact mo_br_9f (b := b) hl h1 (hw0.fn h1.frn) (hu0.fn h1.frn) h12 f5' (by omega) hc (fin (f.p + 1) (by show (if decide (f.V (7 + b) < f.V (8 + b)) = true then n else f.p + 1) = f.p + 1; rw [if_neg (fun z => hc (of_decide_eq_true z))]))
    · subst e
      refine mo_sw_16 hl hn hu h12 f1' f3' euo eua (fun σ1 h1 => ?_)
      have h40' := hI.1
      have zi : (!isI (f.R (6 + (b + 1) - 0))) = true := zt
      rw [show 6 + (b + 1) - 0 = 7 + b by omega] at zi
      have hne := f6'.2 b (show b < b + 1 by omega)
      have hgd := f6'.1 (7 + b) (show 7 + b < 7 + (b + 1) by omega) (by omega)
      have tr : ∀ {q : Nat}, q < H.n → f.V (7 + b) = nI q → ¬ f.R (7 + b) = some 2 → jl_mE l G m_Mo_branch [.ref 22, .int (nI 16), .int (nI n)] σ1 (fun r σ' => r = .inl none ∧ P (.inl none) σ') := fun hq hv h2 => mo_br_16f (b := b) hl h1 (hw0.fn h1.frn) (hu0.fn h1.frn) h12 f5' (by omega) (by omega) hv (fin (f.p + 1) (by show (if decide (f.R (7 + b) = some 2) = true then n else f.p + 1) = f.p + 1; rw [if_neg (fun z => h2 (of_decide_eq_true z))]))
      cases hy : f.R (7 + b) with
      | none => exact absurd hy hne
      | some a =>
        rcases hgd a hy with e | ⟨e, q, hq, hv, hso⟩ | ⟨e, hv⟩ | ⟨k, q, e, hk6, hq, hv, hso⟩
        · rw [hy, e] at zi; cases zi
        · exact tr hq hv (by rw [hy, e]; intro z; cases z)
        · exact mo_br_16t (b := b) hl h1 (hw0.fn h1.frn) (hu0.fn h1.frn) h12 f5' (by omega) hv (fin n (by show (if decide (f.R (7 + b) = some 2) = true then n else f.p + 1) = n; rw [if_pos (decide_eq_true (by rw [hy, e]))]))
        · exact tr hq hv (by rw [hy, e]; intro z; have := Option.some.inj z; omega)
  · by_cases h14 : o = 14
    · subst h14
      have zs : (sg x).isNone = false := z5o
      cases hg' : sg x with
      | none => rw [hg'] at zs; cases zs
      | some g =>
        have ht : cfit pr g.1 g.2.1 (xq x 4) (fun j => f.R (6 + (b + tks sg 14 x) - j)) = true := by
          have zt : (match sg x with | none => false | some g => cfit pr g.1 g.2.1 (xq x 4) (fun j => f.R (6 + (b + tks sg 14 x) - j))) = true := zt
          rw [hg'] at zt; exact zt
        obtain ⟨n, m0, hn31, ex, hn6, htb, hm0, eg⟩ := hsg.of hg'
        obtain ⟨c0, _, hc06, em0, hhs0⟩ := mmo_of hok 6 _ hn6 hn6 hm0
        have hm24 : m0 < 24 := by omega
        have hd0 := hD m0 hm24 hhs0
        have hu1 := hUD m0 hm24 hhs0
        have hpq : g.1 = none → g.2.1 = none := by rw [eg]; exact hd0.2.2.2.2.2.2.2
        have hts : tks sg 14 x = 1 + prm g.1 g.2.1 := by unfold tks; rw [if_pos rfl, hg']; rfl
        have hpr : prS (sg x) = prm g.1 g.2.1 := by rw [hg']; rfl
        have hp : part pr (f.R (6 + (b + tks sg 14 x) - prm g.1 g.2.1)) (some (10 + xq x 4)) = true := cfit_self ht hpq
        rw [show 6 + (b + tks sg 14 x) - prm g.1 g.2.1 = 7 + b by omega] at hp
        have hxq : xq x 4 = n / 4 := by unfold xq; rw [ex, nI_clamp hn31]
        have hxr : xr x 4 = n % 4 := by unfold xr; rw [ex, nI_clamp hn31]
        rw [hxq] at hp
        have hoj := (f6'.1 (7 + b) (by omega) (by omega)).oj (part_isO hp)
        have e1 : u1 m0 = g.1 := by rw [eg]; exact hu1.1
        have e2 : u2 m0 = g.2.1 := by rw [eg]; exact hu1.2.1
        have ho1 : ob 16 g.1 := by rw [eg]; exact hd0.1.ob
        have ho2 : ob 16 g.2.1 := by rw [eg]; exact hd0.2.1.ob
        subst ex
        rcases hoj with ⟨hy, hv⟩ | ⟨q, k, hq, hk6, hy, hv, hso⟩
        · have es := stp_14n (pr := pr) (ow := ow) (fi := fi) (ft := ft) (hs := hs) (fs := fs) (H := H) ho hx hb hy
          exact mo_sw_14 hl hn hu h12 f1' f3' euo eua (fun σ1 h1 => mo_cl_n (b := b) hl h1 hw0 hu0 hcf h12 rfl hof hok hn31 hn6 hm0 hm24 e1 e2 ho1 ho2 hts.symm f5' hv (hG 2 es) (hE 2 es))
        · rw [hy] at hp
          have ha := (part_o hok hk6).mp hp
          have hne := anc_mmo hok ha hk6 (sl := n % 4) (hs := hs) (by rw [hm0]; simp)
          cases hm : mmo pr hs (n % 4) 6 (some k) with
          | none => exact absurd hm hne
          | some m2 =>
            by_cases h11 : 11 ≤ fs.length
            · exact mo_sw_14 hl hn hu h12 f1' f3' euo eua (fun σ1 h1 => mo_cl_f (b := b) hl h1 hw0 hu0 hok hn31 hn6 hm0 hm24 e1 e2 ho1 ho2 hts.symm h12 f5' h11 hq hI.1 hv (fun σ' h => ⟨rfl, hfin 6 0 none H an σ' (stp_14f ho hx hb hy h11) (fun _ q => by cases q) h⟩))
            · have es := stp_14 (pr := pr) (ow := ow) (fi := fi) (ft := ft) (hs := hs) (fs := fs) (H := H) ho hx hb hy h11 (by rw [hxr]; exact hm)
              rw [hpr] at es
              exact mo_sw_14 hl hn hu h12 f1' f3' euo eua (fun σ1 h1 => mo_cl_o (b := b) hl h1 hw0 hu0 hok hn31 hn6 hm0 hm24 e1 e2 ho1 ho2 hts.symm h12 f5' h11 hq hI.1 hv hso hk6 (dsc_of hok) hm (fun σ' h => ⟨rfl, hgo _ _ _ σ' es h⟩))
    · by_cases h17 : o = 17
      · subst h17
        have hio : isO (f.R (6 + (b + 1) - 0)) = true := zt
        rw [show 6 + (b + 1) - 0 = 7 + b by omega] at hio
        have hoj := (f6'.1 (7 + b) (show 7 + b < 7 + (b + 1) by omega) (by omega)).oj hio
        rcases hoj with ⟨hy, hv⟩ | ⟨q, k, hq, hk6, hy, hv, hso⟩
        · have es := stp_17n (pr := pr) (ow := ow) (fi := fi) (ft := ft) (hs := hs) (fs := fs) (H := H) ho hx hb hy
          exact mo_sw_17 hl hn hu h12 f1' f3' euo eua (fun σ1 h1 => mo_ra_n (b := b) hl h1 hw0 hu0 hcf h12 rfl hof f5' hv (hG 2 es) (hE 2 es))
        · have es := stp_17 (pr := pr) (ow := ow) (fi := fi) (ft := ft) (hs := hs) (fs := fs) (H := H) ho hx hb (ne2 hy)
          rw [hy, hv] at es
          exact mo_sw_17 hl hn hu h12 f1' f3' euo eua (fun σ1 h1 => mo_ra_o (b := b) hl h1 hw0 hu0 hcf h12 rfl hof f5' hq hI.1 hv hso hk6 (dsc_of hok) (fun f' fs' σ' e1 h => ⟨rfl, hgo f' fs' H σ' (by rw [es]; rw [show rse pr D (some (10 + k)) (nI q) (f :: fs) = some (f' :: fs') from e1]) h⟩) (fun e1 σ' h => ⟨rfl, hfin 7 k none H an σ' (by rw [es]; rw [show rse pr D (some (10 + k)) (nI q) (f :: fs) = none from e1]; show Sr.fin 7 (10 + k - 10) none H = _; rw [Nat.add_sub_cancel_left]) (fun _ q => by cases q) h⟩))
      · by_cases h18 : o = 18
        · subst h18
          cases fs with
          | nil => exact mo_sw_18 hl hn hu h12 f1' f3' euo eua (fun σ1 h1 => mo_gb_z (b := b) hl h1 h12 f5' rfl (fun σ' h => ⟨rfl, hfin 0 0 _ H _ σ' (stp_18z ho hx hb) (fun v q => Option.some.inj q) h⟩))
          | cons g gs =>
            obtain ⟨⟨g1, g2, g3, g4, g5, g6⟩, g7, g8⟩ := hw g List.mem_cons_self
            exact mo_sw_18 hl hn hu h12 f1' f3' euo eua (fun σ1 h1 => mo_gb_s (b := b) hl h1 h12 f5' g7 (fun σ' h => ⟨rfl, hgo _ _ _ σ' (stp_18s ho hx hb) h⟩))
        · have es := stp_i (pr := pr) (ow := ow) (fi := fi) (ft := ft) (hs := hs) (fs := fs) (H := H) ho hx hb (Bool.eq_false_iff.mpr hj) h14 h17 h18
          obtain ⟨hfit, hins⟩ := ins_inv hok hft hI hop (Bool.eq_false_iff.mpr hj) h14 h17 h18 f4' f6' z5o zt
          have hO : ∀ R' V' H' σ', ins pr ow fi ft o x f.R f.V b H = .ok R' V' H' → NB σ0 σ' (b + pts o) fs.length f.m (f.p + 1) (b + pts o) R' V' fs H' fa vf wh wy hg ov oh (nI (d + 1)) an → (.inl none : jl_O) = .inl none ∧ P (.inl none) σ' := fun R' V' H' σ' e h => ⟨rfl, hgo _ _ _ σ' (by rw [es, e]) (by
            rw [e] at hins
            show NB σ0 σ' (hgt R') fs.length f.m (f.p + 1) (hgt R') R' V' fs H' fa vf wh wy hg ov oh (nI (d + 1)) an
            rw [hgt_of hins.2.2.1]
            exact h)⟩
          have hGi : ∀ n f' fs' σ', ins pr ow fi ft o x f.R f.V b H = .sg n → rse pr D none (-1) (f :: fs) = some (f' :: fs') → NB σ0 σ' (hgt f'.R) fs'.length f'.m f'.p (hgt f'.R) f'.R f'.V fs' H fa vf wh wy hg ov oh (nI (d + 1)) an → (.inl none : jl_O) = .inl none ∧ P (.inl none) σ' := fun n f' fs' σ' e e1 h => hG n (by rw [es, e]) f' fs' σ' e1 h
          have hEi : ∀ n σ', ins pr ow fi ft o x f.R f.V b H = .sg n → rse pr D none (-1) (f :: fs) = none → NQ σ0 σ' [] H fa vf wh wy hg (nI n) (nI 0) (nI (d + 1)) an → (.inl none : jl_O) = .inl none ∧ P (.inl none) σ' := fun n σ' e e1 h => hE n (by rw [es, e]) e1 σ' h
          have hF6 : ∀ σ', ins pr ow fi ft o x f.R f.V b H = .full → NQ σ0 σ' [] H fa vf wh wy hg (nI 6) (nI 0) (nI (d + 1)) an → (.inl none : jl_O) = .inl none ∧ P (.inl none) σ' := fun σ' e h => ⟨rfl, hfin 6 0 none H an σ' (by rw [es, e]) (fun _ q => by cases q) h⟩
          match o, hop with
          | 0, _ => exact mo_sw_0 hl hn hu h12 f1' f3' euo eua (fun σ1 h1 => mo_in_0 (b := b) hl h1 hw0 hu0 hcf h12 rfl hof hok hft6 hI f5' k2 f6' z5o hfit zt hO hGi hEi hF6)
          | 1, _ => exact mo_sw_1 hl hn hu h12 f1' f3' euo eua (fun σ1 h1 => mo_in_1 (b := b) hl h1 hw0 hu0 hcf h12 rfl hof hok hft6 hI f5' k2 f6' z5o hfit zt hO hGi hEi hF6)
          | 2, _ => exact mo_sw_2 hl hn hu h12 f1' f3' euo eua (fun σ1 h1 => mo_in_2 (b := b) hl h1 hw0 hu0 hcf h12 rfl hof hok hft6 hI f5' k2 f6' z5o hfit zt hO hGi hEi hF6)
          | 3, _ => exact mo_sw_3 hl hn hu h12 f1' f3' euo eua (fun σ1 h1 => mo_in_3 (b := b) hl h1 hw0 hu0 hcf h12 rfl hof hok hft6 hI f5' k2 f6' z5o hfit zt hO hGi hEi hF6)
          | 4, _ => exact mo_sw_4 hl hn hu h12 f1' f3' euo eua (fun σ1 h1 => mo_in_4 (b := b) hl h1 hw0 hu0 hcf h12 rfl hof hok hft6 hI f5' k2 f6' z5o hfit zt hO hGi hEi hF6)
          | 5, _ => exact mo_sw_5 hl hn hu h12 f1' f3' euo eua (fun σ1 h1 => mo_in_5 (b := b) hl h1 hw0 hu0 hcf h12 rfl hof hok hft6 hI f5' k2 f6' z5o hfit zt hO hGi hEi hF6)
          | 6, _ => exact mo_sw_6 hl hn hu h12 f1' f3' euo eua (fun σ1 h1 => mo_in_6 (b := b) hl h1 hw0 hu0 hcf h12 rfl hof hok hft6 hI f5' k2 f6' z5o hfit zt hO hGi hEi hF6)
          | 7, _ => exact absurd rfl hj
          | 8, _ => exact absurd rfl hj
          | 9, _ => exact absurd rfl hj
          | 10, _ => exact mo_sw_10 hl hn hu h12 f1' f3' euo eua (fun σ1 h1 => mo_in_10 (b := b) hl h1 hw0 hu0 hcf h12 rfl hof hok hft6 hI f5' k2 f6' z5o hfit zt hO hGi hEi hF6)
          | 11, _ => exact mo_sw_11 hl hn hu h12 f1' f3' euo eua (fun σ1 h1 => mo_in_11 (b := b) hl h1 hw0 hu0 hcf h12 rfl hof hok hft6 hI f5' k2 f6' z5o hfit zt hO hGi hEi hF6)
          | 12, _ => exact mo_sw_12 hl hn hu h12 f1' f3' euo eua (fun σ1 h1 => mo_in_12 (b := b) hl h1 hw0 hu0 hcf h12 rfl hof hok hft6 hI f5' k2 f6' z5o hfit zt hO hGi hEi hF6)
          | 13, _ => exact mo_sw_13 hl hn hu h12 f1' f3' euo eua (fun σ1 h1 => mo_in_13 (b := b) hl h1 hw0 hu0 hcf h12 rfl hof hok hft6 hI f5' k2 f6' z5o hfit zt hO hGi hEi hF6)
          | 14, _ => exact absurd rfl h14
          | 15, _ => exact mo_sw_15 hl hn hu h12 f1' f3' euo eua (fun σ1 h1 => mo_in_15 (b := b) hl h1 hw0 hu0 hcf h12 rfl hof hok hft6 hI f5' k2 f6' z5o hfit zt hO hGi hEi hF6)
          | 16, _ => exact absurd rfl hj
          | 17, _ => exact absurd rfl h17
          | 18, _ => exact absurd rfl h18
          | 19, _ => exact mo_sw_19 hl hn hu h12 f1' f3' euo eua (fun σ1 h1 => mo_in_19 (b := b) hl h1 hw0 hu0 hcf h12 rfl hof hok hft6 hI f5' k2 f6' z5o hfit zt hO hGi hEi hF6)
          | 20, _ => exact mo_sw_20 hl hn hu h12 f1' f3' euo eua (fun σ1 h1 => mo_in_20 (b := b) hl h1 hw0 hu0 hcf h12 rfl hof hok hft6 hI f5' k2 f6' z5o hfit zt hO hGi hEi hF6)
          | 21, _ => exact mo_sw_21 hl hn hu h12 f1' f3' euo eua (fun σ1 h1 => mo_in_21 (b := b) hl h1 hw0 hu0 hcf h12 rfl hof hok hft6 hI f5' k2 f6' z5o hfit zt hO hGi hEi hF6)
          | 22, _ => exact mo_sw_22 hl hn hu h12 f1' f3' euo eua (fun σ1 h1 => mo_in_22 (b := b) hl h1 hw0 hu0 hcf h12 rfl hof hok hft6 hI f5' k2 f6' z5o hfit zt hO hGi hEi hF6)
          | 23, _ => exact mo_sw_23 hl hn hu h12 f1' f3' euo eua (fun σ1 h1 => mo_in_23 (b := b) hl h1 hw0 hu0 hcf h12 rfl hof hok hft6 hI f5' k2 f6' z5o hfit zt hO hGi hEi hF6)
          | 24, _ => exact mo_sw_24 hl hn hu h12 f1' f3' euo eua (fun σ1 h1 => mo_in_24 (b := b) hl h1 hw0 hu0 hcf h12 rfl hof hok hft6 hI f5' k2 f6' z5o hfit zt hO hGi hEi hF6)
          | 25, _ => exact mo_sw_25 hl hn hu h12 f1' f3' euo eua (fun σ1 h1 => mo_in_25 (b := b) hl h1 hw0 hu0 hcf h12 rfl hof hok hft6 hI f5' k2 f6' z5o hfit zt hO hGi hEi hF6)
          | o + 26, h => omega
end JNzh
