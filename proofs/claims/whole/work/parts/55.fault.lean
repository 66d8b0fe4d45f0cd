/-! the class Checker: firstFault (wip/gen/p55.py) -/
section JCf
variable {l : Launch} {G : jl_G} {σ : jl_S}
variable {tb : Nat → Bool} {pr : Nat → Option Nat} {ow fi ft : Nat → Nat} {mt : Nat → Option Nat}
variable {a : Nat} {q1 q2 : Option Nat} {rs : Nat} {op : Nat → Nat} {ag : Nat → Int32} {sz : Nat} {fr tt tg kd : Nat → Nat} {nc : Nat} {mp : Nat → Int32} {fh : Nat → Bool}
variable {sg : Int32 → Option Sg} {rr N : Nat} {ty : Nat → Option Nat}
theorem jl_meq {M : jl_M} {as : List Value} {o o' : jl_O} {σ' : jl_S} (h : o' = o) (k : jl_m l G M as σ o σ') : jl_m l G M as σ o' σ' := h ▸ k
theorem cfit_e {p q : Option Nat} {k : Nat} {s t : Nat → Option Nat} (h : ∀ j, j < 3 → s j = t j) : cfit pr p q k s = cfit pr p q k t := by
  unfold cfit
  rw [h 0 (by omega), h 1 (by omega), h 2 (by omega)]
theorem ck_types (hl : l.stackTraces = false) {pc at_ h : Nat} (hc : CkAt σ) (hw : WoAt σ tb pr ow fi ft mt) (hm : MeAt σ a q1 q2 rs op ag sz fr tt tg kd nc mp fh) (hok : WoOk tb pr ow fi) (hsg : SgC σ tb pr mt sg) (hR : σ[rr]? = some (.inl (0, N, .inl fun j => en (ty j)))) (hN : N ≤ 144) (hty : ∀ j, ob 16 (ty j)) (hop : op pc < 26) (hpc : pc < 24) (hat : at_ + 12 ≤ N) (hh : ty (at_ + 6) = some h) (hh5 : h ≤ 5) (hf5 : f5o tb ow fi sg (op pc) (ag pc) = false) (hf1 : f1 sg (op pc) (ag pc) h = false) (hft : ∀ k f, fty pr fi ft k f < 16) (hrs : rs < 16) : jl_m l G m_Ck_typesFit [.ref 8, .ref a, .int (nI pc), .ref rr, .int (nI at_)] σ (.inl (some (.int (bi (tfi pr fi ft sg (op pc) (ag pc) rs (fun j => ty (at_ + (6 + h - j))) (ty (at_ + (ag pc).toNatClampNeg))))))) σ := by
  have hq : op pc = 0 ∨ op pc = 1 ∨ op pc = 2 ∨ op pc = 3 ∨ op pc = 4 ∨ op pc = 5 ∨ op pc = 6 ∨ op pc = 7 ∨ op pc = 8 ∨ op pc = 9 ∨ op pc = 10 ∨ op pc = 11 ∨ op pc = 12 ∨ op pc = 13 ∨ op pc = 14 ∨ op pc = 15 ∨ op pc = 16 ∨ op pc = 17 ∨ op pc = 18 ∨ op pc = 19 ∨ op pc = 20 ∨ op pc = 21 ∨ op pc = 22 ∨ op pc = 23 ∨ op pc = 24 ∨ op pc = 25 := by omega
  rcases hq with ho | ho | ho | ho | ho | ho | ho | ho | ho | ho | ho | ho | ho | ho | ho | ho | ho | ho | ho | ho | ho | ho | ho | ho | ho | ho
  · exact jl_meq (by rw [ho]; rfl) (ck_ty_0 hl hc hw hm hok hsg hR hN hty hop hpc hat hh hh5 ho )
  · obtain ⟨n, hn, hx⟩ := lt6_of (x := ag pc) (by simpa [f5o, ho] using hf5)
    exact jl_meq (by rw [ho, hx, nI_clamp (by omega)]; rfl) (ck_ty_1 hl hc hw hm hok hsg hR hN hty hop hpc hat hh hh5 ho hn hx rfl)
  · exact jl_meq (by rw [ho]; rfl) (ck_ty_2 hl hc hw hm hok hsg hR hN hty hop hpc hat hh hh5 ho )
  · have hq : 2 ≤ h := by have q := hf1; simp only [f1, tks, ho] at q; simp [tk0, tkL] at q; omega
    exact jl_meq (by rw [ho]; rfl) (ck_ty_3 hl hc hw hm hok hsg hR hN hty hop hpc hat hh hh5 ho rfl (by omega) rfl (by omega))
  · have hq : 2 ≤ h := by have q := hf1; simp only [f1, tks, ho] at q; simp [tk0, tkL] at q; omega
    exact jl_meq (by rw [ho]; rfl) (ck_ty_4 hl hc hw hm hok hsg hR hN hty hop hpc hat hh hh5 ho rfl (by omega) rfl (by omega))
  · have hq : 2 ≤ h := by have q := hf1; simp only [f1, tks, ho] at q; simp [tk0, tkL] at q; omega
    exact jl_meq (by rw [ho]; rfl) (ck_ty_5 hl hc hw hm hok hsg hR hN hty hop hpc hat hh hh5 ho rfl (by omega) rfl (by omega))
  · have hq : 2 ≤ h := by have q := hf1; simp only [f1, tks, ho] at q; simp [tk0, tkL] at q; omega
    exact jl_meq (by rw [ho]; rfl) (ck_ty_6 hl hc hw hm hok hsg hR hN hty hop hpc hat hh hh5 ho rfl (by omega) rfl (by omega))
  · exact jl_meq (by rw [ho]; rfl) (ck_ty_7 hl hc hw hm hok hsg hR hN hty hop hpc hat hh hh5 ho )
  · have hq : 1 ≤ h := by have q := hf1; simp only [f1, tks, ho] at q; simp [tk0, tkL] at q; omega
    exact jl_meq (by rw [ho]; rfl) (ck_ty_8 hl hc hw hm hok hsg hR hN hty hop hpc hat hh hh5 ho rfl (by omega))
  · have hq : 2 ≤ h := by have q := hf1; simp only [f1, tks, ho] at q; simp [tk0, tkL] at q; omega
    exact jl_meq (by rw [ho]; rfl) (ck_ty_9 hl hc hw hm hok hsg hR hN hty hop hpc hat hh hh5 ho rfl (by omega) rfl (by omega))
  · exact jl_meq (by rw [ho]; rfl) (ck_ty_10 hl hc hw hm hok hsg hR hN hty hop hpc hat hh hh5 ho )
  · exact jl_meq (by rw [ho]; rfl) (ck_ty_11 hl hc hw hm hok hsg hR hN hty hop hpc hat hh hh5 ho )
  · have hq : 1 ≤ h := by have q := hf1; simp only [f1, tks, ho] at q; simp [tk0, tkL] at q; omega
    obtain ⟨n, hn, hx, hk, hf, -⟩ := hasF_of (tb := tb) (ow := ow) (fi := fi) (x := ag pc) (by simpa [f5o, ho] using hf5)
    exact jl_meq (by rw [ho]; simp only [tfi, xq, xr]; rw [hx, nI_clamp hn]; try rfl) (ck_ty_12 hl hc hw hm hok hsg hR hN hty hop hpc hat hh hh5 ho rfl (by omega) hn hx hk)
  · have hq : 2 ≤ h := by have q := hf1; simp only [f1, tks, ho] at q; simp [tk0, tkL] at q; omega
    obtain ⟨n, hn, hx, hk, hf, -⟩ := hasF_of (tb := tb) (ow := ow) (fi := fi) (x := ag pc) (by simpa [f5o, ho] using hf5)
    exact jl_meq (by rw [ho]; simp only [tfi, xq, xr]; rw [hx, nI_clamp hn]; try rfl) (ck_ty_13 hl hc hw hm hok hsg hR hN hty hop hpc hat hh hh5 ho rfl (by omega) rfl (by omega) hn hx hk hf (hft _ _))
  · cases hg : sg (ag pc) with
    | none => simp [f5o, ho, hg] at hf5
    | some g =>
      obtain ⟨p, q, r⟩ := g
      obtain ⟨n, hn, hx, hk, -⟩ := hsg.of hg
      have hpq : prm p q < h := by have z := hf1; simp only [f1, tks, ho, hg, prS] at z; simp at z; omega
      exact jl_meq (by rw [ho]; simp only [tfi, hg, xq]; rw [hx, nI_clamp hn]; congr 4; apply cfit_e; intro j hj; congr 1; omega) (ck_ty_14 hl hc hw hm hok hsg hR hN hty hop hpc hat hh hh5 ho hn hx hk (by rw [← hx]; exact hg) hpq)
  · have hq : 1 ≤ h := by have q := hf1; simp only [f1, tks, ho] at q; simp [tk0, tkL] at q; omega
    exact jl_meq (by rw [ho]; rfl) (ck_ty_15 hl hc hw hm hok hsg hR hN hty hop hpc hat hh hh5 ho rfl (by omega))
  · have hq : 1 ≤ h := by have q := hf1; simp only [f1, tks, ho] at q; simp [tk0, tkL] at q; omega
    exact jl_meq (by rw [ho]; rfl) (ck_ty_16 hl hc hw hm hok hsg hR hN hty hop hpc hat hh hh5 ho rfl (by omega))
  · have hq : 1 ≤ h := by have q := hf1; simp only [f1, tks, ho] at q; simp [tk0, tkL] at q; omega
    exact jl_meq (by rw [ho]; rfl) (ck_ty_17 hl hc hw hm hok hsg hR hN hty hop hpc hat hh hh5 ho rfl (by omega))
  · have hq : 1 ≤ h := by have q := hf1; simp only [f1, tks, ho] at q; simp [tk0, tkL] at q; omega
    exact jl_meq (by rw [ho]; rfl) (ck_ty_18 hl hc hw hm hok hsg hR hN hty hop hpc hat hh hh5 ho rfl (by omega) hrs)
  · have hq : 1 ≤ h := by have q := hf1; simp only [f1, tks, ho] at q; simp [tk0, tkL] at q; omega
    exact jl_meq (by rw [ho]; rfl) (ck_ty_19 hl hc hw hm hok hsg hR hN hty hop hpc hat hh hh5 ho rfl (by omega))
  · have hq : 2 ≤ h := by have q := hf1; simp only [f1, tks, ho] at q; simp [tk0, tkL] at q; omega
    exact jl_meq (by rw [ho]; rfl) (ck_ty_20 hl hc hw hm hok hsg hR hN hty hop hpc hat hh hh5 ho rfl (by omega) rfl (by omega))
  · have hq : 3 ≤ h := by have q := hf1; simp only [f1, tks, ho] at q; simp [tk0, tkL] at q; omega
    exact jl_meq (by rw [ho]; rfl) (ck_ty_21 hl hc hw hm hok hsg hR hN hty hop hpc hat hh hh5 ho rfl (by omega) rfl (by omega) rfl (by omega))
  · have hq : 1 ≤ h := by have q := hf1; simp only [f1, tks, ho] at q; simp [tk0, tkL] at q; omega
    exact jl_meq (by rw [ho]; rfl) (ck_ty_22 hl hc hw hm hok hsg hR hN hty hop hpc hat hh hh5 ho rfl (by omega))
  · exact jl_meq (by rw [ho]; rfl) (ck_ty_23 hl hc hw hm hok hsg hR hN hty hop hpc hat hh hh5 ho )
  · exact jl_meq (by rw [ho]; rfl) (ck_ty_24 hl hc hw hm hok hsg hR hN hty hop hpc hat hh hh5 ho )
  · have hq : 2 ≤ h := by have q := hf1; simp only [f1, tks, ho] at q; simp [tk0, tkL] at q; omega
    exact jl_meq (by rw [ho]; rfl) (ck_ty_25 hl hc hw hm hok hsg hR hN hty hop hpc hat hh hh5 ho rfl (by omega) rfl (by omega))
theorem f5o_f {x : Int32} {o : Nat} {pc : Nat} (h : f5 tb ow fi sg o x fr tt kd nc pc = false) : f5o tb ow fi sg o x = false := (Bool.or_eq_false_iff.mp h).2
theorem d_Ck_firstFault_0 : decode m_Ck_firstFault.2.1 0 = .ok (.aload_n 0, 1) := by decide +kernel
theorem d_Ck_firstFault_1 : decode m_Ck_firstFault.2.1 1 = .ok (.aload_n 1, 1) := by decide +kernel
theorem d_Ck_firstFault_2 : decode m_Ck_firstFault.2.1 2 = .ok (.iload_n 2, 1) := by decide +kernel
theorem k_Ck_firstFault_15 : jl_cv m_Ck_firstFault m_Ck_placesAreThere 15 2 = true := by decide +kernel
theorem d_Ck_firstFault_3 : decode m_Ck_firstFault.2.1 3 = .ok (.invokevirtual 15, 3) := by decide +kernel
theorem d_Ck_firstFault_6 : decode m_Ck_firstFault.2.1 6 = .ok (.ifCond .ne 5, 3) := by decide +kernel
theorem d_Ck_firstFault_11 : decode m_Ck_firstFault.2.1 11 = .ok (.aload_n 0, 1) := by decide +kernel
theorem d_Ck_firstFault_12 : decode m_Ck_firstFault.2.1 12 = .ok (.aload_n 1, 1) := by decide +kernel
theorem d_Ck_firstFault_13 : decode m_Ck_firstFault.2.1 13 = .ok (.iload_n 2, 1) := by decide +kernel
theorem k_Ck_firstFault_19 : jl_cv m_Ck_firstFault m_Ck_namesAreThere 19 2 = true := by decide +kernel
theorem d_Ck_firstFault_14 : decode m_Ck_firstFault.2.1 14 = .ok (.invokevirtual 19, 3) := by decide +kernel
theorem d_Ck_firstFault_17 : decode m_Ck_firstFault.2.1 17 = .ok (.ifCond .ne 5, 3) := by decide +kernel
theorem d_Ck_firstFault_22 : decode m_Ck_firstFault.2.1 22 = .ok (.aload_n 0, 1) := by decide +kernel
theorem d_Ck_firstFault_23 : decode m_Ck_firstFault.2.1 23 = .ok (.aload_n 1, 1) := by decide +kernel
theorem f_Ck_firstFault_22 : jl_fd m_Ck_firstFault 22 2 3 = true := by decide +kernel
theorem d_Ck_firstFault_24 : decode m_Ck_firstFault.2.1 24 = .ok (.getfield 22, 3) := by decide +kernel
theorem d_Ck_firstFault_27 : decode m_Ck_firstFault.2.1 27 = .ok (.iload_n 2, 1) := by decide +kernel
theorem d_Ck_firstFault_28 : decode m_Ck_firstFault.2.1 28 = .ok (.iaload, 1) := by decide +kernel
theorem d_Ck_firstFault_29 : decode m_Ck_firstFault.2.1 29 = .ok (.aload_n 1, 1) := by decide +kernel
theorem f_Ck_firstFault_28 : jl_fd m_Ck_firstFault 28 2 4 = true := by decide +kernel
theorem d_Ck_firstFault_30 : decode m_Ck_firstFault.2.1 30 = .ok (.getfield 28, 3) := by decide +kernel
theorem d_Ck_firstFault_33 : decode m_Ck_firstFault.2.1 33 = .ok (.iload_n 2, 1) := by decide +kernel
theorem d_Ck_firstFault_34 : decode m_Ck_firstFault.2.1 34 = .ok (.iaload, 1) := by decide +kernel
theorem d_Ck_firstFault_35 : decode m_Ck_firstFault.2.1 35 = .ok (.aload_n 3, 1) := by decide +kernel
theorem d_Ck_firstFault_36 : decode m_Ck_firstFault.2.1 36 = .ok (.iload 4, 2) := by decide +kernel
theorem d_Ck_firstFault_38 : decode m_Ck_firstFault.2.1 38 = .ok (.bipush 6, 2) := by decide +kernel
theorem d_Ck_firstFault_40 : decode m_Ck_firstFault.2.1 40 = .ok (.iadd, 1) := by decide +kernel
theorem d_Ck_firstFault_41 : decode m_Ck_firstFault.2.1 41 = .ok (.iaload, 1) := by decide +kernel
theorem k_Ck_firstFault_31 : jl_cv m_Ck_firstFault m_Ck_heightFits 31 3 = true := by decide +kernel
theorem d_Ck_firstFault_42 : decode m_Ck_firstFault.2.1 42 = .ok (.invokevirtual 31, 3) := by decide +kernel
theorem d_Ck_firstFault_45 : decode m_Ck_firstFault.2.1 45 = .ok (.ifCond .ne 5, 3) := by decide +kernel
theorem d_Ck_firstFault_50 : decode m_Ck_firstFault.2.1 50 = .ok (.aload_n 0, 1) := by decide +kernel
theorem d_Ck_firstFault_51 : decode m_Ck_firstFault.2.1 51 = .ok (.aload_n 1, 1) := by decide +kernel
theorem d_Ck_firstFault_52 : decode m_Ck_firstFault.2.1 52 = .ok (.iload_n 2, 1) := by decide +kernel
theorem d_Ck_firstFault_53 : decode m_Ck_firstFault.2.1 53 = .ok (.aload_n 3, 1) := by decide +kernel
theorem d_Ck_firstFault_54 : decode m_Ck_firstFault.2.1 54 = .ok (.iload 4, 2) := by decide +kernel
theorem k_Ck_firstFault_35 : jl_cv m_Ck_firstFault m_Ck_typesFit 35 4 = true := by decide +kernel
theorem d_Ck_firstFault_56 : decode m_Ck_firstFault.2.1 56 = .ok (.invokevirtual 35, 3) := by decide +kernel
theorem d_Ck_firstFault_59 : decode m_Ck_firstFault.2.1 59 = .ok (.ifCond .eq 7, 3) := by decide +kernel
theorem d_Ck_firstFault_66 : decode m_Ck_firstFault.2.1 66 = .ok (.iconst 2, 1) := by decide +kernel
theorem d_Ck_firstFault_67 : decode m_Ck_firstFault.2.1 67 = .ok (.ireturn, 1) := by decide +kernel
theorem d_Ck_firstFault_62 : decode m_Ck_firstFault.2.1 62 = .ok (.iconst 0, 1) := by decide +kernel
theorem d_Ck_firstFault_63 : decode m_Ck_firstFault.2.1 63 = .ok (.goto 4, 3) := by decide +kernel
theorem d_Ck_firstFault_48 : decode m_Ck_firstFault.2.1 48 = .ok (.iconst 1, 1) := by decide +kernel
theorem d_Ck_firstFault_49 : decode m_Ck_firstFault.2.1 49 = .ok (.ireturn, 1) := by decide +kernel
theorem d_Ck_firstFault_20 : decode m_Ck_firstFault.2.1 20 = .ok (.iconst 5, 1) := by decide +kernel
theorem d_Ck_firstFault_21 : decode m_Ck_firstFault.2.1 21 = .ok (.ireturn, 1) := by decide +kernel
theorem d_Ck_firstFault_9 : decode m_Ck_firstFault.2.1 9 = .ok (.iconst 4, 1) := by decide +kernel
theorem d_Ck_firstFault_10 : decode m_Ck_firstFault.2.1 10 = .ok (.ireturn, 1) := by decide +kernel
theorem ck_first (hl : l.stackTraces = false) {pc at_ h : Nat} (hc : CkAt σ) (hw : WoAt σ tb pr ow fi ft mt) (hm : MeAt σ a q1 q2 rs op ag sz fr tt tg kd nc mp fh) (hok : WoOk tb pr ow fi) (hsg : SgC σ tb pr mt sg) (hR : σ[rr]? = some (.inl (0, N, .inl fun j => en (ty j)))) (hN : N ≤ 144) (hty : ∀ j, ob 16 (ty j)) (hop : op pc < 26) (hpc : pc < 24) (hsz : sz ≤ 24) (hnc : nc ≤ 2) (hcf : ∀ i, i < 2 → fr i < 100 ∧ tt i < 100 ∧ tg i < 24 ∧ kd i < 7) (hat : at_ + 12 ≤ N) (hh : ty (at_ + 6) = some h) (hh5 : h ≤ 5) (hft : ∀ k f, fty pr fi ft k f < 16) (hrs : rs < 16) : jl_m l G m_Ck_firstFault [.ref 8, .ref a, .int (nI pc), .ref rr, .int (nI (at_))] σ (.inl (some (.int (nI (flt tb pr ow fi ft sg (op pc) (ag pc) sz fr tt tg kd nc rs pc (fun j => ty (at_ + j)) h))))) (σ) := by
  obtain ⟨hW, h2, h3, h4, h5, h6, h7⟩ := id hw
  obtain ⟨hM, g1, g2, g3, g4, g5, g6, g7, g8⟩ := id hm
  refine jl_of (as := [.ref 8, .ref a, .int (nI pc), .ref rr, .int (nI (at_))]) rfl (by decide) hl (jl_cc rfl (jl_cc rfl (jl_cc rfl (jl_cc rfl (jl_cc rfl jl_ca))))) (Nat.le_of_ble_eq_true rfl) ?_
  show jl_W l G m_Ck_firstFault (0, 0) 0 [some (.ref 8), some (.ref a), some (.int (nI pc)), some (.ref rr), some (.int (nI (at_)))] [] (σ) (.inl (some (.int (nI (flt tb pr ow fi ft sg (op pc) (ag pc) sz fr tt tg kd nc rs pc (fun j => ty (at_ + j)) h))))) (σ)
  refine jr_aload_n d_Ck_firstFault_0 rfl ?_
  refine jr_aload_n d_Ck_firstFault_1 rfl ?_
  refine jr_iload_n d_Ck_firstFault_2 rfl ?_
  refine jr_callV (As := [.ref a, .int (nI pc)]) d_Ck_firstFault_3 k_Ck_firstFault_15 hc rfl rfl rfl (Nat.le_of_ble_eq_true rfl) (by decide) (by decide) (ck_places hl hc hm hop hpc hsz hnc hcf) ?_
  show jl_W l G m_Ck_firstFault (0, 0) 6 [some (.ref 8), some (.ref a), some (.int (nI pc)), some (.ref rr), some (.int (nI (at_)))] [.int (bi (!f4 (op pc) (ag pc) sz fr tt tg nc pc))] (σ) (.inl (some (.int (nI (flt tb pr ow fi ft sg (op pc) (ag pc) sz fr tt tg kd nc rs pc (fun j => ty (at_ + j)) h))))) (σ)
  refine jr_if_ne 11 d_Ck_firstFault_6 (by decide) (fun c1 => ?_) (fun c1 => ?_)
  · refine jr_aload_n d_Ck_firstFault_11 rfl ?_
    refine jr_aload_n d_Ck_firstFault_12 rfl ?_
    refine jr_iload_n d_Ck_firstFault_13 rfl ?_
    refine jr_callV (As := [.ref a, .int (nI pc)]) d_Ck_firstFault_14 k_Ck_firstFault_19 hc rfl rfl rfl (Nat.le_of_ble_eq_true rfl) (by decide) (by decide) (ck_names hl hc hw hm hok hsg hop hpc hsz hnc hcf) ?_
    show jl_W l G m_Ck_firstFault (0, 0) 17 [some (.ref 8), some (.ref a), some (.int (nI pc)), some (.ref rr), some (.int (nI (at_)))] [.int (bi (!f5 tb ow fi sg (op pc) (ag pc) fr tt kd nc pc))] (σ) (.inl (some (.int (nI (flt tb pr ow fi ft sg (op pc) (ag pc) sz fr tt tg kd nc rs pc (fun j => ty (at_ + j)) h))))) (σ)
    refine jr_if_ne 22 d_Ck_firstFault_17 (by decide) (fun c2 => ?_) (fun c2 => ?_)
    · refine jr_aload_n d_Ck_firstFault_22 rfl ?_
      refine jr_aload_n d_Ck_firstFault_23 rfl ?_
      refine jr_getf d_Ck_firstFault_24 f_Ck_firstFault_22 hM rfl ?_
      refine jr_iload_n d_Ck_firstFault_27 rfl ?_
      refine jr_ialdN d_Ck_firstFault_28 g1 (by omega) (by omega) ?_
      refine jr_aload_n d_Ck_firstFault_29 rfl ?_
      refine jr_getf d_Ck_firstFault_30 f_Ck_firstFault_28 hM rfl ?_
      refine jr_iload_n d_Ck_firstFault_33 rfl ?_
      refine jr_ialdN d_Ck_firstFault_34 g2 (by omega) (by omega) ?_
      refine jr_aload_n d_Ck_firstFault_35 rfl ?_
      refine jr_iload d_Ck_firstFault_36 rfl ?_
      refine jr_bipush ((nI (6))) d_Ck_firstFault_38 (by decide) ?_
      refine jr_iaddN d_Ck_firstFault_40 ?_
      refine jr_ialdQ (v := (nI (h))) d_Ck_firstFault_41 hR (by omega) (by omega) (congrArg en hh) ?_
      refine jr_callV (As := [.int (nI (op (pc))), .int (ag (pc)), .int (nI h)]) d_Ck_firstFault_42 k_Ck_firstFault_31 hc rfl rfl rfl (Nat.le_of_ble_eq_true rfl) (by decide) (by decide) (ck_height hl hc hw hok hsg hop hh5) ?_
      show jl_W l G m_Ck_firstFault (0, 0) 45 [some (.ref 8), some (.ref a), some (.int (nI pc)), some (.ref rr), some (.int (nI (at_)))] [.int (bi (!f1 sg (op pc) (ag pc) h))] (σ) (.inl (some (.int (nI (flt tb pr ow fi ft sg (op pc) (ag pc) sz fr tt tg kd nc rs pc (fun j => ty (at_ + j)) h))))) (σ)
      refine jr_if_ne 50 d_Ck_firstFault_45 (by decide) (fun c3 => ?_) (fun c3 => ?_)
      · refine jr_aload_n d_Ck_firstFault_50 rfl ?_
        refine jr_aload_n d_Ck_firstFault_51 rfl ?_
        refine jr_iload_n d_Ck_firstFault_52 rfl ?_
        refine jr_aload_n d_Ck_firstFault_53 rfl ?_
        refine jr_iload d_Ck_firstFault_54 rfl ?_
        refine jr_callV (As := [.ref a, .int (nI pc), .ref rr, .int (nI (at_))]) d_Ck_firstFault_56 k_Ck_firstFault_35 hc rfl rfl rfl (Nat.le_of_ble_eq_true rfl) (by decide) (by decide) (ck_types hl hc hw hm hok hsg hR hN hty hop hpc hat hh hh5 (f5o_f (by simpa using bi_nf c2)) (by simpa using bi_nf c3) hft hrs) ?_
        show jl_W l G m_Ck_firstFault (0, 0) 59 [some (.ref 8), some (.ref a), some (.int (nI pc)), some (.ref rr), some (.int (nI (at_)))] [.int (bi (tfi pr fi ft sg (op pc) (ag pc) rs (fun j => ty (at_ + (6 + h - j))) (ty (at_ + (ag pc).toNatClampNeg))))] (σ) (.inl (some (.int (nI (flt tb pr ow fi ft sg (op pc) (ag pc) sz fr tt tg kd nc rs pc (fun j => ty (at_ + j)) h))))) (σ)
        refine jr_if_eq 66 d_Ck_firstFault_59 (by decide) (fun c4 => ?_) (fun c4 => ?_)
        · refine jr_iconst ((nI (2))) d_Ck_firstFault_66 (by decide) ?_
          exact jr_iretE d_Ck_firstFault_67 rfl (by unfold flt; simp only [show f4 (op pc) (ag pc) sz fr tt tg nc pc = false from by simpa using bi_nf c1, show f5 tb ow fi sg (op pc) (ag pc) fr tt kd nc pc = false from by simpa using bi_nf c2, show f1 sg (op pc) (ag pc) h = false from by simpa using bi_nf c3, bi_0.mp c4]; rfl) (rfl) (by decide) (by decide)
        · refine jr_iconst ((nI (0))) d_Ck_firstFault_62 (by decide) ?_
          refine jr_goto 67 d_Ck_firstFault_63 (by decide) ?_
          exact jr_iretE d_Ck_firstFault_67 rfl (by unfold flt; simp only [show f4 (op pc) (ag pc) sz fr tt tg nc pc = false from by simpa using bi_nf c1, show f5 tb ow fi sg (op pc) (ag pc) fr tt kd nc pc = false from by simpa using bi_nf c2, show f1 sg (op pc) (ag pc) h = false from by simpa using bi_nf c3, bi_nf c4]; rfl) (rfl) (by decide) (by decide)
      · refine jr_iconst ((nI (1))) d_Ck_firstFault_48 (by decide) ?_
        exact jr_iretE d_Ck_firstFault_49 rfl (by unfold flt; simp only [show f4 (op pc) (ag pc) sz fr tt tg nc pc = false from by simpa using bi_nf c1, show f5 tb ow fi sg (op pc) (ag pc) fr tt kd nc pc = false from by simpa using bi_nf c2, show f1 sg (op pc) (ag pc) h = true from by simpa using bi_0.mp c3]; rfl) (rfl) (by decide) (by decide)
    · refine jr_iconst ((nI (5))) d_Ck_firstFault_20 (by decide) ?_
      exact jr_iretE d_Ck_firstFault_21 rfl (by unfold flt; simp only [show f4 (op pc) (ag pc) sz fr tt tg nc pc = false from by simpa using bi_nf c1, show f5 tb ow fi sg (op pc) (ag pc) fr tt kd nc pc = true from by simpa using bi_0.mp c2]; rfl) (rfl) (by decide) (by decide)
  · refine jr_iconst ((nI (4))) d_Ck_firstFault_9 (by decide) ?_
    exact jr_iretE d_Ck_firstFault_10 rfl (by unfold flt; simp only [show f4 (op pc) (ag pc) sz fr tt tg nc pc = true from by simpa using bi_0.mp c1]; rfl) (rfl) (by decide) (by decide)
end JCf
