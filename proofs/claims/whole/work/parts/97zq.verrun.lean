/-! verify: class and model answer alike and hold the same afterwards -/
section WVe
variable {l : Launch} {G : jl_G} {σ σ' : jl_S} {U : Un} {u1 u2 : Nat → Option Nat} {ur ul uo : Nat → Nat} {ua : Nat → Int32} {uc us ut uk : Nat → Nat}
theorem VRM_e {q : Nat} (hM : MdM (U.D q) u1 u2 ur ul uo ua uc us ut uk q) (hc : uc q ≤ 2) : VRM U.tb U.pr U.ow U.fi U.ft (sgU U) u1 u2 ur ul uo ua uc us ut uk q = VRu U q := by
  obtain ⟨a1, a2, a3, a4, a5, a6, a7⟩ := hM
  unfold VRM VRu VRm
  rw [a1, a2, a3, a4, ← a6]
  exact vmA_g (fun j hj => (a5 j hj).1) (fun j hj => (a5 j hj).2) (fun i hi => ⟨(a7 i hi).1.symm, (a7 i hi).2.1.symm, (a7 i hi).2.2.1.symm, (a7 i hi).2.2.2.symm⟩) (by rw [a6]; exact hc)
theorem thr_e (hU : UI U) (m : Nat) : thr U.tb U.hs m = U.hs m := by
  unfold thr
  cases e : U.hs m with
  | false => simp
  | true => rw [(hU.2.2.1 m e).2]; rfl
theorem NQ.mb {H : Hp} {fa vf wh wy hg ov oh dn an fa' vf' wh' wy' hg' : Int32} {lo sk : Nat → Option Nat} (h : NQ σ σ [] H fa vf wh wy hg ov oh dn an) (hf : FrM σ σ') (hO : MoO σ' fa' vf' wh' wy' hg' (nI 0) (nI H.n) ov oh dn an) (hr : MoR σ' lo sk) (hlo : ∀ j, ob 16 (lo j)) (hsk : ∀ j, ob 16 (sk j)) : NQ σ' σ' [] H fa' vf' wh' wy' hg' ov oh dn an := by
  obtain ⟨fx, fp, fh, lw, lk, vl, vk, ks, kc, kv, lo1, sk1, hO1, f1, f2, f3, f4, f5, f6, f7, ⟨k1, k2, k3⟩, hB, hy1, hR1, hF⟩ := h
  have g : ∀ {j : Nat} {c : jl_C}, 42 < j → σ[j]? = some c → σ'[j]? = some c := fun h1 e => (hf.2 _ (by omega) (Or.inr h1)).trans e
  exact ⟨fx, fp, fh, lw, lk, vl, vk, ks, kc, kv, lo, sk, hO, g (by decide) f1, g (by decide) f2, g (by decide) f3, g (by decide) f4, g (by decide) f5, g (by decide) f6, g (by decide) f7, ⟨g (by decide) k1, g (by decide) k2, g (by decide) k3⟩, hB, hy1, ⟨hr, hlo, hsk⟩, FrN.refl⟩
theorem NQ.r {H : Hp} {fa vf wh wy hg ov oh dn an : Int32} (h : NQ σ σ [] H fa vf wh wy hg ov oh dn an) : ∃ lo sk, MoR σ lo sk ∧ (∀ j, ob 16 (lo j)) ∧ ∀ j, ob 16 (sk j) := by
  obtain ⟨fx, fp, fh, lw, lk, vl, vk, ks, kc, kv, lo, sk, hO, f1, f2, f3, f4, f5, f6, f7, hH, hB, hy1, hR1, hF⟩ := h
  exact ⟨lo, sk, hR1⟩
/-- the class behind VERIFYING -/
theorem RC.v {U' : Un} {mt : Nat → Option Nat} {bf gv jn : Rw} {MP : Nat → Nat → Int32} {FH : Nat → Nat → Bool} {aw : Int32} (hU' : UI U') (hgv : GV σ' U.tb U.pr U.ow U.fi U.ft mt (sgU U) U.D U'.wr U'.wz bf gv jn MP FH) (hj : JcAt σ U.vf) (hbf : gok bf) (hgk : gok gv) (hz : KZ σ σ U.H U.su U.dt U.dn aw) (hmt : mtH U.hs mt) (hrl : RL mt σ.length) (hf : FrV mt σ σ') (hA : ∀ m, U.hs m = true → MpC (MP m) (U'.A m)) (e1 : U'.D = U.D) (e2 : U'.hs = U.hs) (e6 : U'.H = U.H) (e7 : U'.su = U.su) (e8 : U'.dt = U.dt) (e9 : U'.dn = U.dn) (f1 : U'.tb = U.tb) (f2 : U'.pr = U.pr) (f3 : U'.ow = U.ow) (f4 : U'.fi = U.fi) (f5 : U'.ft = U.ft) : RC (σ'.set 0 (.inr (6, [.ref 1, .ref 9, .ref 13, .int (bi U'.vf)]))) U' := by
  obtain ⟨⟨w1, w2, w3, w4, w5, w6, w7⟩, v2, v3, v4, v5, v6, v7, v8⟩ := hgv
  have g : ∀ {j : Nat} {c : jl_C}, j ≠ 0 → σ'[j]? = some c → (σ'.set 0 (.inr (6, [.ref 1, .ref 9, .ref 13, .int (bi U'.vf)])))[j]? = some c := fun h1 e => jl_sn (Ne.symm h1) e
  have hM : ∀ m a, mt m = some a → MeD (σ'.set 0 (.inr (6, [.ref 1, .ref 9, .ref 13, .int (bi U'.vf)]))) a (U'.D m) (MP m) (FH m) := fun m a e => by
    rw [e1]
    exact (v4 m a e).fr9 (fun i h1 h2 => List.getElem?_set_ne (by have := (hrl.1 m a e).1; omega))
  have hm' : mtH U'.hs mt := by rw [e2]; exact hmt
  have fz : ∀ i, i < 54 → (i < 9 ∨ 12 < i) → σ'[i]? = σ[i]? := fun i h1 h2 => hf.2 i h2 (fun m a e => by have := (hrl.1 m a e).1; omega)
  refine ⟨mt, bf, gv, jn, MP, FH, aw, jl_ss ((fz 0 (by decide) (by decide)).trans hj), ⟨?_, g (by decide) v2, SgC_of hU' hm' hM, hM, g (by decide) v5, g (by decide) v6, g (by decide) v7, g (by decide) v8⟩, hbf, hgk, ?_, hm', ?_, ?_⟩
  · rw [f1, f2, f3, f4, f5]
    exact ⟨g (by decide) w1, g (by decide) w2, g (by decide) w3, g (by decide) w4, g (by decide) w5, g (by decide) w6, g (by decide) w7⟩
  · rw [e6, e7, e8, e9]
    exact hz.fr (fun i h1 h2 => by rw [List.getElem?_set_ne (by omega)]; exact fz i (by omega) (by omega))
  · rw [List.length_set, hf.1]; exact hrl
  · rw [e2]; exact hA
theorem co_verify (hl : l.stackTraces = false) (hU : UI U) (hC : RC σ U) : Two l G m_JC_verify m_Mo_verify [xU] [] σ U := by
  obtain ⟨mt, bf, gv, jn, MP, FH, aw, hj, hgv, hbf, hgk, hz, hmt, hrl, hA⟩ := id hC
  have hsm : ∀ {m}, mt m ≠ none → U.hs m = true := fun {m} h => by
    rw [hmt]
    cases e : mt m with
    | none => exact absurd e h
    | some a => rfl
  have hD2 : ∀ m, mt m ≠ none → MdOk (U.D m) := fun m h => hU.2.2.2.1 m (hsm h)
  have hm24 : ∀ m, mt m ≠ none → m < 24 := fun m h => (hU.2.2.1 m (hsm h)).1
  have hnn : ∀ {m}, U.hs m = true → mt m ≠ none := fun {m} h e => by rw [hmt, e] at h; cases h
  have fC : ∀ {σ' : jl_S} {c : jl_C}, FrV mt σ σ' → FrC σ (σ'.set 0 c) := fun {σ' c} hf => ⟨by rw [List.length_set, hf.1]; exact Nat.le_refl _, fun i h1 h2 => by rw [List.getElem?_set_ne (by omega)]; exact hf.2 i (by omega) (fun m a e => by have := (hrl.1 m a e).1; omega)⟩
  have hcn : sm (fun k => cnt (fun q => (mt (k * 4 + q)).isSome) 4 0) 6 0 = cnt U.hs 24 0 := by
    rw [cnt24 (fun j => (mt j).isSome)]
    exact cnt_e 24 0 (fun j _ _ => (hmt j).symm)
  have hUv := hU.ver
  have hMD : ∀ {fa hg an u1 u2 ur ul uo ua uc us ut uk kp mm fm} {σ1 : jl_S}, RMx σ1 U fa hg an u1 u2 ur ul uo ua uc us ut uk kp mm fm → ∀ q, U.hs q = true → VRM U.tb U.pr U.ow U.fi U.ft (sgU U) u1 u2 ur ul uo ua uc us ut uk q = VRu U q := fun hx q hq => by
    have h24 := (hU.2.2.1 q hq).1
    exact VRM_e (hx.2.2.2.2.2.2.1.2.2.1 q h24 hq) (hx.2.2.2.2.2.2.1.1.1 q h24).2.2.2.2.1
  cases e : vfst U 24 0 with
  | none =>
    have eU : uVer U = mkU U.tb U.pr U.ow U.fi U.ft U.hs U.D (fun m => if U.hs m = true then (VRu U m).2.1 else fun _ => none) (true) (-1) (-1) U.su U.dt U.dn U.H := by unfold uVer; rw [e]
    rw [eU] at hUv
    have hno := vfst_none 24 0 e
    refine ⟨0, nI (cnt U.hs 24 0), _, hUv, Nat.zero_le _, ?_, fun σ1 fa hM => ?_⟩
    · refine jc_verify hl hj hgv hU.1 hrl.1 hrl.2.1 hD2 hU.ft hU.sgv hbf hgk hm24 (fun bf' gv' jn' MP' FH' σ' h1 h2 hv hg' hf => ?_) (fun m a pc f bf' gv' jn' MP' FH' σ' hm hma h1 h2 hv hf1 hf2 hu hg' hf => ?_)
      · rw [hcn]
        refine ⟨rfl, ?_, fC hf⟩
        refine RC.v (U := U) (U' := mkU U.tb U.pr U.ow U.fi U.ft U.hs U.D (fun m => if U.hs m = true then (VRu U m).2.1 else fun _ => none) (true) (-1) (-1) U.su U.dt U.dn U.H) hUv hg' hj h1 h2 hz hmt hrl hf (fun m hm => ?_) rfl rfl rfl rfl rfl rfl rfl rfl rfl rfl rfl
        show MpC (MP' m) (if U.hs m = true then (VRu U m).2.1 else fun _ => none)
        rw [if_pos hm]
        exact (hv m (hU.2.2.1 m hm).1 (hnn hm)).2
      · have hh : U.hs m = true := hsm (by rw [hma]; exact fun z => by cases z)
        have z := hno m (Nat.zero_le _) (by omega) hh
        rw [show VRm U.tb U.pr U.ow U.fi U.ft (sgU U) (U.D m) (m / 4) = VRu U m from rfl, z] at hf1
        cases hf1
    · obtain ⟨hg, an, u1, u2, ur, ul, uo, ua, uc, us, ut, uk, kp, mm, fm, hx⟩ := hM
      have hVe := hMD hx
      obtain ⟨x1, x2, x3, x4, x5, x6, x7, x8⟩ := hx
      obtain ⟨lo, sk, hr, hlo, hsk⟩ := x1.r
      refine mo_verify (lo := lo) (sk := sk) (kp := kp) (mm := mm) (fm := fm) hl ⟨x1.o, x2, x3, hr, x4, x5, x6⟩ hU.1 x7.1 (SgM_u hU.1 (fun m h h2 => x7.2.2.1 m h h2) sgU_M) hU.ft hU.sgv (fun m _ => x7.2.1 m) hlo hsk (fun lo' sk' kp' hg' mm' fm' σ' o1 o2 hv hmb hf => ?_) (fun m pc f lo' sk' kp' hg' mm' fm' σ' o1 o2 hm hth hf1 hq hf2 hmb hf => ?_)
      · obtain ⟨b1, b2, b3, b4, b5, b6, b7⟩ := hmb
        refine ⟨by rw [cnt_e 24 0 (fun j _ _ => thr_e hU j)], ⟨hg', an, u1, u2, ur, ul, uo, ua, uc, us, ut, uk, kp', mm', fm', x1.mb hf b1 b4 o1 o2, b2, b3, b5, b6, b7, x7, fun m hm => ?_⟩, ⟨hf.1, fun i hi => hf.2 i (by omega) (by omega)⟩⟩
        show MpM mm' m (if U.hs m = true then (VRu U m).2.1 else fun _ => none)
        have z := hv m hm
        rw [thr_e hU] at z
        by_cases hh : U.hs m = true
        · rw [if_pos ⟨hm, hh⟩, hVe m hh] at z
          rw [if_pos hh]
          exact z.2
        · rw [if_neg (fun q => hh q.2)] at z
          rw [if_neg hh]
          exact z
      · rw [thr_e hU] at hth
        have z := hno m (Nat.zero_le _) (by omega) hth
        rw [hVe m hth, z] at hf1
        cases hf1
  | some w =>
    obtain ⟨m0, pc0, f0⟩ := w
    have eU : uVer U = mkU U.tb U.pr U.ow U.fi U.ft U.hs U.D (fun q => if q ≤ m0 ∧ U.hs q = true then (VRu U q).2.1 else fun _ => none) (false) (nI (1000 * (m0 / 4) + 100 * (m0 % 4) + pc0)) (nI f0) U.su U.dt U.dn U.H := by unfold uVer; rw [e]
    rw [eU] at hUv
    refine ⟨1, nI 0, _, hUv, Nat.le_refl _, ?_, fun σ1 fa hM => ?_⟩
    · refine jc_verify hl hj hgv hU.1 hrl.1 hrl.2.1 hD2 hU.ft hU.sgv hbf hgk hm24 (fun bf' gv' jn' MP' FH' σ' h1 h2 hv hg' hf => ?_) (fun m a pc f bf' gv' jn' MP' FH' σ' hm hma h1 h2 hv hf1 hf2 hu hg' hf => ?_)
      · have z := vfst_no (U := U) 24 0 (fun j _ hj hh => (hv j (by omega) (hnn hh)).1)
        rw [z] at e; cases e
      · have hh : U.hs m = true := hsm (by rw [hma]; exact fun z => by cases z)
        have z := vfst_at 24 0 m (Nat.zero_le _) (by omega) hh (fun j _ hj hh2 => (hv j hj (hnn hh2)).1) pc f hf1
        rw [e] at z
        cases z
        refine ⟨rfl, ?_, fC hf⟩
        refine RC.v (U := U) (U' := mkU U.tb U.pr U.ow U.fi U.ft U.hs U.D (fun q => if q ≤ m0 ∧ U.hs q = true then (VRu U q).2.1 else fun _ => none) (false) (nI (1000 * (m0 / 4) + 100 * (m0 % 4) + pc0)) (nI f0) U.su U.dt U.dn U.H) hUv hg' hj h1 h2 hz hmt hrl hf (fun q hq => ?_) rfl rfl rfl rfl rfl rfl rfl rfl rfl rfl rfl
        show MpC (MP' q) (if q ≤ m0 ∧ U.hs q = true then (VRu U q).2.1 else fun _ => none)
        by_cases z : q ≤ m0
        · rw [if_pos ⟨z, hq⟩]
          by_cases z2 : q = m0
          · subst z2; exact hf2
          · exact (hv q (by omega) (hnn hq)).2
        · rw [if_neg (fun z2 => z z2.1)]
          exact (hu q (by omega) (hnn hq)).1
    · obtain ⟨hg, an, u1, u2, ur, ul, uo, ua, uc, us, ut, uk, kp, mm, fm, hx⟩ := hM
      have hVe := hMD hx
      obtain ⟨x1, x2, x3, x4, x5, x6, x7, x8⟩ := hx
      obtain ⟨lo, sk, hr, hlo, hsk⟩ := x1.r
      refine mo_verify (lo := lo) (sk := sk) (kp := kp) (mm := mm) (fm := fm) hl ⟨x1.o, x2, x3, hr, x4, x5, x6⟩ hU.1 x7.1 (SgM_u hU.1 (fun m h h2 => x7.2.2.1 m h h2) sgU_M) hU.ft hU.sgv (fun m _ => x7.2.1 m) hlo hsk (fun lo' sk' kp' hg' mm' fm' σ' o1 o2 hv hmb hf => ?_) (fun m pc f lo' sk' kp' hg' mm' fm' σ' o1 o2 hm hth hf1 hq hf2 hmb hf => ?_)
      · have z := vfst_no (U := U) 24 0 (fun j _ hj hh => by
          have z := hv j (by omega)
          rw [thr_e hU, if_pos ⟨by omega, hh⟩, hVe j hh] at z
          exact z.1)
        rw [z] at e; cases e
      · rw [thr_e hU] at hth
        rw [hVe m hth] at hf1 hf2
        have z := vfst_at (U := U) 24 0 m (Nat.zero_le _) (by omega) hth (fun j _ hj hh2 => by
          have z := hq j (by omega) (by omega)
          rw [thr_e hU, if_pos ⟨hj, hh2⟩, hVe j hh2] at z
          exact z.1) pc f hf1
        rw [e] at z
        cases z
        obtain ⟨b1, b2, b3, b4, b5, b6, b7⟩ := hmb
        refine ⟨rfl, ⟨hg', an, u1, u2, ur, ul, uo, ua, uc, us, ut, uk, kp', mm', fm', x1.mb hf b1 b4 o1 o2, b2, b3, b5, b6, b7, x7, fun q hq4 => ?_⟩, ⟨hf.1, fun i hi => hf.2 i (by omega) (by omega)⟩⟩
        show MpM mm' q (if q ≤ m0 ∧ U.hs q = true then (VRu U q).2.1 else fun _ => none)
        by_cases z2 : q = m0
        · subst z2; rw [if_pos ⟨Nat.le_refl _, hth⟩]; exact hf2
        · have z := hq q hq4 z2
          rw [thr_e hU] at z
          by_cases hh : q < m0 ∧ U.hs q = true
          · rw [if_pos hh, hVe q hh.2] at z
            rw [if_pos ⟨by omega, hh.2⟩]
            exact z.2
          · rw [if_neg hh] at z
            rw [if_neg (fun w => hh ⟨by omega, w.2⟩)]
            exact z
end WVe
