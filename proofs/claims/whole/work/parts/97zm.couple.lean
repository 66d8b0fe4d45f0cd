/-! class and model hold the same universe of calls -/
section WCo
variable {l : Launch} {G : jl_G} {σ σ' σ1 : jl_S} {U : Un} {tb : Nat → Bool} {pr : Nat → Option Nat} {ow fi ft : Nat → Nat} {hs : Nat → Bool} {mt : Nat → Option Nat} {D : Nat → MDt} {MP : Nat → Nat → Int32} {FH : Nat → Nat → Bool} {fa fa' hg an : Int32} {u1 u2 : Nat → Option Nat} {ur ul uo : Nat → Nat} {ua : Nat → Int32} {uc us ut uk : Nat → Nat} {kp : Rw} {mm : Nat → Int32} {fm : Nat → Bool}
theorem rg_of {k : Int32} {n : Nat} (hn : n < 2 ^ 30) (h : ¬ (k < nI 0 ∨ nI n < k)) : ∃ j, j < n + 1 ∧ k = nI j :=
  jl_rng (fun z => h (Or.inl (by rw [nI_0]; exact z))) (Int32.not_le.mp (fun z => h (Or.inr (Int32.lt_of_lt_of_le ((nI_ltI (by omega) (by omega)).mpr (Nat.lt_succ_self n)) z)))) (by omega)
theorem rg_out {k : Int32} {n : Nat} (hn : n < 2 ^ 30) (h : k < nI 0 ∨ nI n < k) : outB k (nI (n + 1)) = true := by
  cases e : outB k (nI (n + 1)) with
  | true => rfl
  | false =>
    obtain ⟨j, hj, ek⟩ := outB_t (by omega) e
    rw [ek] at h
    exact absurd h (rg_ok (by omega) (by omega))
theorem rg_enf {b : Int32} {n : Nat} (hn : n < 2 ^ 30) (h : ¬ (b < -1 ∨ nI n < b)) : ∃ x : Option Nat, ob (n + 1) x ∧ b = en x := by
  by_cases hb : b < 0
  · refine ⟨none, fun _ q => (by cases q), ?_⟩
    show b = -1
    apply Int32.toInt_inj.mp
    have h1 : ¬ b.toInt < (-1 : Int32).toInt := fun z => h (Or.inl (Int32.lt_iff_toInt_lt.mpr z))
    have h2 : b.toInt < (0 : Int32).toInt := Int32.lt_iff_toInt_lt.mp hb
    have e1 : (-1 : Int32).toInt = -1 := by decide
    have e0 : (0 : Int32).toInt = 0 := by decide
    omega
  · obtain ⟨j, hj, e⟩ := rg_of hn (fun z => z.elim (fun q => hb (by rw [nI_0] at q; exact q)) (fun q => h (Or.inr q)))
    exact ⟨some j, ob_s hj, e⟩
theorem isTyp_of {t : Int32} (h : isTyp t = true) : ∃ n, n < 16 ∧ (n ≤ 1 ∨ 10 ≤ n) ∧ t = nI n := by
  unfold isTyp at h
  by_cases h0 : t = 0
  · exact ⟨0, by decide, Or.inl (by decide), by rw [h0, nI_0]⟩
  rw [if_neg h0] at h
  by_cases h1 : t = nI 1
  · exact ⟨1, by decide, Or.inl (by decide), h1⟩
  rw [if_neg h1] at h
  by_cases h2 : t < nI 10
  · rw [if_pos h2] at h; cases h
  rw [if_neg h2] at h
  by_cases h3 : nI 16 ≤ t
  · rw [if_pos h3] at h; cases h
  obtain ⟨j, hj, e⟩ := jl_rng (k := t) (n := 16) (fun z => h2 (Int32.lt_trans z (by decide))) (Int32.not_le.mp h3) (by decide)
  refine ⟨j, hj, Or.inr ?_, e⟩
  rw [e, nI_ltI (by omega) (by decide)] at h2
  omega
theorem isTyp_tyv {t : Nat} (h : t < 16 ∧ (t ≤ 1 ∨ 10 ≤ t)) : tyv (some t) := fun a e => by cases e; exact ⟨h.1, by omega⟩
theorem prOk_of {p q : Int32} (h : prOk p q = true) : ∃ p' q' : Option Nat, tyv p' ∧ tyv q' ∧ p = en p' ∧ q = en q' ∧ (p' = none → q' = none) := by
  unfold prOk at h
  rw [Bool.and_eq_true] at h
  obtain ⟨h1, h2⟩ := h
  by_cases ep : p = -1
  · rw [if_pos ep] at h2
    by_cases eq : q = -1
    · exact ⟨none, none, fun _ z => (by cases z), fun _ z => (by cases z), ep, eq, fun _ => rfl⟩
    · rw [if_neg eq] at h2; cases h2
  · rw [if_neg ep] at h1 h2
    obtain ⟨n, a1, a2, e⟩ := isTyp_of h1
    by_cases eq : q = -1
    · exact ⟨some n, none, isTyp_tyv ⟨a1, a2⟩, fun _ z => (by cases z), e, eq, fun z => (by cases z)⟩
    · rw [if_neg eq] at h2
      obtain ⟨n2, b1, b2, e2⟩ := isTyp_of h2
      exact ⟨some n, some n2, isTyp_tyv ⟨a1, a2⟩, isTyp_tyv ⟨b1, b2⟩, e, e2, fun z => (by cases z)⟩
/-- what a CALL of the class finds is what the universe says -/
theorem SgC_of (hU : UI U) (hm : mtH U.hs mt) (hM : ∀ m a, mt m = some a → MeD σ a (U.D m) (MP m) (FH m)) : SgC σ U.tb U.pr mt (sgU U) := by
  intro x
  by_cases hx : x < 0
  · rw [found_neg hx]
    refine ⟨fun _ => ?_, fun a z => by cases z⟩
    unfold sgU; rw [if_pos hx]
  · obtain ⟨n, hn, e⟩ := nI_ofx hx
    subst e
    have e1 : nI n / nI 4 = nI (n / 4) := pk_div hn (by decide) (by decide)
    have e2 : nI n - nI n / nI 4 * nI 4 = nI (n % 4) := pk_rem hn (by decide) (by decide)
    have es : sgU U (nI n) = sgm U.tb U.pr U.hs (fun m => (U.D m).1) (fun m => (U.D m).2.1) (fun m => (U.D m).2.2.1) n := sgU_M.2 n hn
    rw [es, e2, e1]
    unfold found sgm
    by_cases h6 : n / 4 < 6 ∧ U.tb (n / 4) = true
    · rw [if_pos h6, if_neg (by rw [hasI_n h6.1, h6.2]; decide), if_neg (nI_pos (by omega)), if_pos ((nI_ltI (by omega) (by decide)).mpr (by omega)), nI_clamp (by omega), nI_clamp (by omega), fnd_mmo hm]
      cases hmm : mmo U.pr U.hs (n % 4) 6 (some (n / 4)) with
      | none => exact ⟨fun _ => rfl, fun a z => by cases z⟩
      | some m =>
        obtain ⟨c0, _, hc, em, hh⟩ := mmo_of hU.1 6 _ h6.1 h6.1 hmm
        have hd := hU.2.2.2.1 m hh
        refine ⟨fun z => ?_, fun a z => ?_⟩
        · have z : mt m = none := z
          rw [hm m, z] at hh; cases hh
        · have z : mt m = some a := z
          exact ⟨(U.D m).1, (U.D m).2.1, (U.D m).2.2.1, _, (hM m a z).1, rfl, hd.1.ob, hd.2.1.ob, (hd.2.2.1 _ rfl).1, hd.2.2.2.2.2.2.2⟩
    · rw [if_neg h6]
      have hf : hasI U.tb (nI (n / 4)) = false := by
        cases q : hasI U.tb (nI (n / 4)) with
        | false => rfl
        | true => exact absurd (hasI_b (by omega) q) h6
      rw [if_pos hf]
      exact ⟨fun _ => rfl, fun a z => by cases z⟩
/-- where the class's METHODS lie -/
def RL (mt : Nat → Option Nat) (n : Nat) : Prop := MtOk mt ∧ MtI mt ∧ (∀ m a, mt m = some a → a + 9 ≤ n) ∧ 54 ≤ n ∧ (n - 54) % 9 = 0
/-- the class holds U -/
def RC (σ : jl_S) (U : Un) : Prop := ∃ (mt : Nat → Option Nat) (bf gv jn : Rw) (MP : Nat → Nat → Int32) (FH : Nat → Nat → Bool) (aw : Int32), JcAt σ U.vf ∧ GV σ U.tb U.pr U.ow U.fi U.ft mt (sgU U) U.D U.wr U.wz bf gv jn MP FH ∧ gok bf ∧ gok gv ∧ KZ σ σ U.H U.su U.dt U.dn aw ∧ mtH U.hs mt ∧ RL mt σ.length ∧ ∀ m, U.hs m = true → MpC (MP m) (U.A m)
/-- the model's METHODS are U's -/
def MU (U : Un) (u1 u2 : Nat → Option Nat) (ur ul uo : Nat → Nat) (ua : Nat → Int32) (uc us ut uk : Nat → Nat) : Prop := MoK u1 u2 ur ul uo uc us ut uk ∧ (∀ m, tyv (u1 m) ∧ tyv (u2 m) ∧ tyv (some (ur m))) ∧ (∀ m, m < 24 → U.hs m = true → MdM (U.D m) u1 u2 ur ul uo ua uc us ut uk m) ∧ ∀ m, m < 24 → U.hs m = false → MdM (d0 (u1 m) (u2 m) (ur m)) u1 u2 ur ul uo ua uc us ut uk m
/-- the model holds U -/
def RMx (σ : jl_S) (U : Un) (fa hg an : Int32) (u1 u2 : Nat → Option Nat) (ur ul uo : Nat → Nat) (ua : Nat → Int32) (uc us ut uk : Nat → Nat) (kp : Rw) (mm : Nat → Int32) (fm : Nat → Bool) : Prop := NQ σ σ [] U.H fa (bi U.vf) U.wr U.wz hg U.su U.dt U.dn an ∧ MoW σ U.tb U.pr U.ow U.ft U.hs ∧ MoM σ u1 u2 ur ul uo ua uc us ut uk ∧ σ[42]? = some (.inl (0, 8, .inl fun j => en (kp j))) ∧ σ[38]? = some (.inl (0, 6912, .inl mm)) ∧ σ[39]? = some (.inl (1, 24, .inl fun j => bi (fm j))) ∧ MU U u1 u2 ur ul uo ua uc us ut uk ∧ ∀ m, m < 24 → MpM mm m (U.A m)
def RM (σ : jl_S) (U : Un) (fa : Int32) : Prop := ∃ hg an u1 u2 ur ul uo ua uc us ut uk kp mm fm, RMx σ U fa hg an u1 u2 ur ul uo ua uc us ut uk kp mm fm
/-- the class's calls leave the model's cells; the model's leave the class's -/
def FrC (σ σ' : jl_S) : Prop := σ.length ≤ σ'.length ∧ ∀ i, 22 ≤ i → i < 54 → σ'[i]? = σ[i]?
def FrX (σ σ' : jl_S) : Prop := σ'.length = σ.length ∧ ∀ i, (i < 22 ∨ 52 < i) → σ'[i]? = σ[i]?
theorem FrC.refl : FrC σ σ := ⟨Nat.le_refl _, fun _ _ _ => rfl⟩
theorem FrX.refl : FrX σ σ := ⟨rfl, fun _ _ => rfl⟩
theorem FrC.set {b : Nat} {c : jl_C} (h : FrC σ σ1) (hb : b < 22 ∨ 53 < b) : FrC σ (σ1.set b c) := ⟨by rw [List.length_set]; exact h.1, fun i h1 h2 => by rw [List.getElem?_set_ne (by omega)]; exact h.2 i h1 h2⟩
theorem FrX.set {b : Nat} {c : jl_C} (h : FrX σ σ1) (hb : 22 ≤ b ∧ b ≤ 52) : FrX σ (σ1.set b c) := ⟨(List.length_set ..).trans h.1, fun i h1 => by rw [List.getElem?_set_ne (by omega)]; exact h.2 i h1⟩
theorem NQ.fr {F : List Fm} {H : Hp} {vf wh wy hg ov oh dn an : Int32} (h : NQ σ σ F H fa vf wh wy hg ov oh dn an) (hf : ∀ i, 22 ≤ i → i < 53 → σ'[i]? = σ[i]?) : NQ σ' σ' F H fa vf wh wy hg ov oh dn an := by
  obtain ⟨fx, fp, fh, lw, lk, vl, vk, ks, kc, kv, lo, sk, hO, f1, f2, f3, f4, f5, f6, f7, ⟨k1, k2, k3⟩, hB, hy1, ⟨⟨r1, r2⟩, hlo, hsk⟩, hF⟩ := h
  have g : ∀ {j : Nat} {c : jl_C}, 22 ≤ j → j < 53 → σ[j]? = some c → σ'[j]? = some c := fun h1 h2 e => (hf _ h1 h2).trans e
  exact ⟨fx, fp, fh, lw, lk, vl, vk, ks, kc, kv, lo, sk, g (by decide) (by decide) hO, g (by decide) (by decide) f1, g (by decide) (by decide) f2, g (by decide) (by decide) f3, g (by decide) (by decide) f4, g (by decide) (by decide) f5, g (by decide) (by decide) f6, g (by decide) (by decide) f7, ⟨g (by decide) (by decide) k1, g (by decide) (by decide) k2, g (by decide) (by decide) k3⟩, hB, hy1, ⟨⟨g (by decide) (by decide) r1, g (by decide) (by decide) r2⟩, hlo, hsk⟩, FrN.refl⟩
theorem NQ.refl {σ0 : jl_S} {F : List Fm} {H : Hp} {vf wh wy hg ov oh dn an : Int32} (h : NQ σ0 σ F H fa vf wh wy hg ov oh dn an) : NQ σ σ F H fa vf wh wy hg ov oh dn an := by
  obtain ⟨fx, fp, fh, lw, lk, vl, vk, ks, kc, kv, lo, sk, hO, f1, f2, f3, f4, f5, f6, f7, hH, hB, hy1, hR1, hF⟩ := h
  exact ⟨fx, fp, fh, lw, lk, vl, vk, ks, kc, kv, lo, sk, hO, f1, f2, f3, f4, f5, f6, f7, hH, hB, hy1, hR1, FrN.refl⟩
theorem NQ.o {σ0 : jl_S} {H : Hp} {vf wh wy hg ov oh dn an : Int32} (h : NQ σ0 σ [] H fa vf wh wy hg ov oh dn an) : MoO σ fa vf wh wy hg (nI 0) (nI H.n) ov oh dn an := by
  obtain ⟨fx, fp, fh, lw, lk, vl, vk, ks, kc, kv, lo, sk, hO, f1, f2, f3, f4, f5, f6, f7, hH, hB, hy1, hR1, hF⟩ := h
  exact hO
/-- the object alone is another -/
theorem NQ.set22 {σ0 : jl_S} {H : Hp} {vf wh wy hg ov oh dn an vf' wh' wy' hg' ov' oh' dn' an' : Int32} (h : NQ σ0 σ [] H fa vf wh wy hg ov oh dn an) : NQ σ0 (σ.set 22 (.inr (7, MoF fa' vf' wh' wy' hg' (nI 0) (nI H.n) ov' oh' dn' an'))) [] H fa' vf' wh' wy' hg' ov' oh' dn' an' := by
  obtain ⟨fx, fp, fh, lw, lk, vl, vk, ks, kc, kv, lo, sk, hO, f1, f2, f3, f4, f5, f6, f7, ⟨k1, k2, k3⟩, hB, hy1, ⟨⟨r1, r2⟩, hlo, hsk⟩, hF⟩ := h
  exact ⟨fx, fp, fh, lw, lk, vl, vk, ks, kc, kv, lo, sk, jl_ss hO, jl_sn (by decide) f1, jl_sn (by decide) f2, jl_sn (by decide) f3, jl_sn (by decide) f4, jl_sn (by decide) f5, jl_sn (by decide) f6, jl_sn (by decide) f7, ⟨jl_sn (by decide) k1, jl_sn (by decide) k2, jl_sn (by decide) k3⟩, hB, hy1, ⟨⟨jl_sn (by decide) r1, jl_sn (by decide) r2⟩, hlo, hsk⟩, hF.set (by omega)⟩
/-- a cell that the machine doesn't have is another -/
theorem NQ.setw {σ0 : jl_S} {H : Hp} {b : Nat} {c : jl_C} {vf wh wy hg ov oh dn an : Int32} (h : NQ σ0 σ [] H fa vf wh wy hg ov oh dn an) (hb : (22 < b ∧ b < 40) ∨ b = 42) : NQ (σ.set b c) (σ.set b c) [] H fa vf wh wy hg ov oh dn an := by
  obtain ⟨fx, fp, fh, lw, lk, vl, vk, ks, kc, kv, lo, sk, hO, f1, f2, f3, f4, f5, f6, f7, ⟨k1, k2, k3⟩, hB, hy1, ⟨⟨r1, r2⟩, hlo, hsk⟩, hF⟩ := h
  exact ⟨fx, fp, fh, lw, lk, vl, vk, ks, kc, kv, lo, sk, jl_sn (by omega) hO, jl_sn (by omega) f1, jl_sn (by omega) f2, jl_sn (by omega) f3, jl_sn (by omega) f4, jl_sn (by omega) f5, jl_sn (by omega) f6, jl_sn (by omega) f7, ⟨jl_sn (by omega) k1, jl_sn (by omega) k2, jl_sn (by omega) k3⟩, hB, hy1, ⟨⟨jl_sn (by omega) r1, jl_sn (by omega) r2⟩, hlo, hsk⟩, FrN.refl⟩
theorem RMx.fr (h : RMx σ U fa hg an u1 u2 ur ul uo ua uc us ut uk kp mm fm) (hf : ∀ i, 22 ≤ i → i < 53 → σ'[i]? = σ[i]?) : RMx σ' U fa hg an u1 u2 ur ul uo ua uc us ut uk kp mm fm := by
  obtain ⟨h1, ⟨w1, w2, w3, w4, w5⟩, ⟨v1, v2, v3, v4, v5, v6, v7, v8, v9, v10⟩, h4, h5, h6, h7, h8⟩ := h
  have g : ∀ {j : Nat} {c : jl_C}, 22 ≤ j → j < 53 → σ[j]? = some c → σ'[j]? = some c := fun h1 h2 e => (hf _ h1 h2).trans e
  exact ⟨h1.fr hf, ⟨g (by decide) (by decide) w1, g (by decide) (by decide) w2, g (by decide) (by decide) w3, g (by decide) (by decide) w4, g (by decide) (by decide) w5⟩, ⟨g (by decide) (by decide) v1, g (by decide) (by decide) v2, g (by decide) (by decide) v3, g (by decide) (by decide) v4, g (by decide) (by decide) v5, g (by decide) (by decide) v6, g (by decide) (by decide) v7, g (by decide) (by decide) v8, g (by decide) (by decide) v9, g (by decide) (by decide) v10⟩, g (by decide) (by decide) h4, g (by decide) (by decide) h5, g (by decide) (by decide) h6, h7, h8⟩
theorem RM.fr (h : RM σ U fa) (hf : ∀ i, 22 ≤ i → i < 53 → σ'[i]? = σ[i]?) : RM σ' U fa := by
  obtain ⟨hg, an, u1, u2, ur, ul, uo, ua, uc, us, ut, uk, kp, mm, fm, hx⟩ := h
  exact ⟨hg, an, u1, u2, ur, ul, uo, ua, uc, us, ut, uk, kp, mm, fm, hx.fr hf⟩
theorem RMx.fa2 (h : RMx σ U fa hg an u1 u2 ur ul uo ua uc us ut uk kp mm fm) : RMx (σ.set 22 (.inr (7, MoF fa' (bi U.vf) U.wr U.wz hg (nI 0) (nI U.H.n) U.su U.dt U.dn an))) U fa' hg an u1 u2 ur ul uo ua uc us ut uk kp mm fm := by
  obtain ⟨h1, h2, h3, h4, h5, h6, h7, h8⟩ := h
  exact ⟨h1.set22.refl, MoW.sx h2 (Or.inl (by decide)), MoM.sx h3 (Or.inl (by decide)), jl_sn (by decide) h4, jl_sn (by decide) h5, jl_sn (by decide) h6, h7, h8⟩
theorem KZ.fr {H : Hp} {su dt dq aw : Int32} (h : KZ σ σ H su dt dq aw) (hf : ∀ i, 13 ≤ i → i < 22 → σ'[i]? = σ[i]?) : KZ σ' σ' H su dt dq aw := by
  obtain ⟨tp, uw, ps, ty, va, a1, a2, a3, a4, a5, ⟨s0, s1, s2, s3⟩, a7, a8, a9⟩ := h
  have g : ∀ {j : Nat} {c : jl_C}, 13 ≤ j → j < 22 → σ[j]? = some c → σ'[j]? = some c := fun h1 h2 e => (hf _ h1 h2).trans e
  exact ⟨tp, uw, ps, ty, va, g (by decide) (by decide) a1, g (by decide) (by decide) a2, g (by decide) (by decide) a3, g (by decide) (by decide) a4, g (by decide) (by decide) a5, ⟨g (by decide) (by decide) s0, g (by decide) (by decide) s1, g (by decide) (by decide) s2, g (by decide) (by decide) s3⟩, a7, a8, FrK.refl⟩
theorem MeD.fr9 {a : Nat} {d : MDt} {mp : Nat → Int32} {fh : Nat → Bool} (h : MeD σ a d mp fh) (hf : ∀ i, a ≤ i → i < a + 9 → σ'[i]? = σ[i]?) : MeD σ' a d mp fh := by
  obtain ⟨hM, g1, g2, g3, g4, g5, g6, g7, g8⟩ := h
  have g : ∀ {j : Nat} {c : jl_C}, a ≤ j → j < a + 9 → σ[j]? = some c → σ'[j]? = some c := fun h1 h2 e => (hf _ h1 h2).trans e
  exact ⟨g (by omega) (by omega) hM, g (by omega) (by omega) g1, g (by omega) (by omega) g2, g (by omega) (by omega) g3, g (by omega) (by omega) g4, g (by omega) (by omega) g5, g (by omega) (by omega) g6, g (by omega) (by omega) g7, g (by omega) (by omega) g8⟩
theorem RC.fr (hU : UI U) (h : RC σ U) (hf : FrX σ σ') : RC σ' U := by
  obtain ⟨mt, bf, gv, jn, MP, FH, aw, h1, ⟨⟨w1, w2, w3, w4, w5, w6, w7⟩, v2, v3, v4, v5, v6, v7, v8⟩, h3, h4, h5, h6, h7, h8⟩ := h
  have g : ∀ {j : Nat} {c : jl_C}, j < 22 → σ[j]? = some c → σ'[j]? = some c := fun h1 e => (hf.2 _ (Or.inl h1)).trans e
  have hM : ∀ m a, mt m = some a → MeD σ' a (U.D m) (MP m) (FH m) := fun m a e => (v4 m a e).fr9 (fun i h1 h2 => hf.2 i (Or.inr (by have := (h7.1 m a e).1; omega)))
  refine ⟨mt, bf, gv, jn, MP, FH, aw, g (by decide) h1, ⟨⟨g (by decide) w1, g (by decide) w2, g (by decide) w3, g (by decide) w4, g (by decide) w5, g (by decide) w6, g (by decide) w7⟩, g (by decide) v2, SgC_of hU h6 hM, hM, g (by decide) v5, g (by decide) v6, g (by decide) v7, g (by decide) v8⟩, h3, h4, h5.fr (fun i h1 h2 => hf.2 i (Or.inl (by omega))), h6, ?_, h8⟩
  rw [hf.1]; exact h7
/-- what a call of the class ends with: code c of the names nm -/
def oc (nm : List String) (c : Nat) (v : Int32) : jl_O := if c = 0 then .inl (some (.int v)) else .inr (nm.getD (c - 1) "")
/-- a call of the class and the same call of the model answer alike, and both hold the same afterwards -/
def Two (l : Launch) (G : jl_G) (MC MM : jl_M) (nm : List String) (as : List Value) (σ : jl_S) (U : Un) : Prop := ∃ (c : Nat) (v : Int32) (U' : Un), UI U' ∧ c ≤ nm.length ∧ jl_mE l G MC (.ref 0 :: as) σ (fun o σ' => o = oc nm c v ∧ RC σ' U' ∧ FrC σ σ') ∧ ∀ σ1 fa, RM σ1 U fa → jl_mE l G MM (.ref 22 :: as) σ1 (fun o σ' => o = .inl (some (.int v)) ∧ RM σ' U' (nI c) ∧ FrX σ1 σ')
theorem Two.rd {MC MM : jl_M} {nm : List String} {as : List Value} {c : Nat} {v : Int32} (hU : UI U) (hC : RC σ U) (hc : c ≤ nm.length) (h1 : jl_m l G MC (.ref 0 :: as) σ (oc nm c v) σ) (h2 : ∀ σ1 fa hg an u1 u2 ur ul uo ua uc us ut uk kp mm fm, RMx σ1 U fa hg an u1 u2 ur ul uo ua uc us ut uk kp mm fm → jl_m l G MM (.ref 22 :: as) σ1 (.inl (some (.int v))) (σ1.set 22 (.inr (7, MoF (nI c) (bi U.vf) U.wr U.wz hg (nI 0) (nI U.H.n) U.su U.dt U.dn an)))) : Two l G MC MM nm as σ U := by
  refine ⟨c, v, U, hU, hc, ⟨_, _, ⟨rfl, hC, FrC.refl⟩, h1⟩, fun σ1 fa hM => ?_⟩
  obtain ⟨hg, an, u1, u2, ur, ul, uo, ua, uc, us, ut, uk, kp, mm, fm, hx⟩ := hM
  exact ⟨_, _, ⟨rfl, ⟨hg, an, u1, u2, ur, ul, uo, ua, uc, us, ut, uk, kp, mm, fm, hx.fa2⟩, FrX.refl.set (by decide)⟩, h2 _ _ _ _ _ _ _ _ _ _ _ _ _ _ _ _ _ hx⟩
end WCo
