/-! the model's run: the loop (wip/gen/p97zj.py) -/
section JNzj
variable {l : Launch} {G : jl_G} {σ : jl_S}
variable {tb : Nat → Bool} {pr : Nat → Option Nat} {ow fi ft : Nat → Nat} {hs : Nat → Bool} {fa vf wh wy hg dp md ov oh dn an : Int32}
variable {u1 u2 : Nat → Option Nat} {ur ul uo : Nat → Nat} {ua : Nat → Int32} {uc us ut uk : Nat → Nat}
variable {σ0 : jl_S} {N t m p h b n k : Nat} {R R2 : Rw} {V V2 : Nat → Int32} {fs : List Fm} {f : Fm} {H : Hp} {fa vf wh wy hg ov oh dn an x xa xb : Int32} {sg : Int32 → Option Sg} {D : Nat → MDt} {W : Nat → Nat → Option Rw} {gd : Bool} {d : Nat} {q1 q2 : Option Nat} {t1v t2v : Nat} {fx fp fh : Nat → Nat} {lw lk lk2 vl vk : Nat → Int32}
theorem dec_1 (r : Nat) : nI (r + 1) + Int32.ofInt (-1) = nI r := by
  rw [← jl_inc, Int32.add_assoc, show Int32.ofInt 1 + Int32.ofInt (-1) = 0 by decide, Int32.add_zero]
theorem SgM_u (hok : WoOk tb pr ow fi) (hUD : ∀ m, m < 24 → hs m = true → MdM (D m) u1 u2 ur ul uo ua uc us ut uk m) (hsg : SgM tb pr hs (fun m => (D m).1) (fun m => (D m).2.1) (fun m => (D m).2.2.1) sg) : SgM tb pr hs u1 u2 ur sg := by
  refine ⟨hsg.1, fun n hn => ?_⟩
  rw [hsg.2 n hn]
  unfold sgm
  by_cases e : n / 4 < 6 ∧ tb (n / 4) = true
  · rw [if_pos e, if_pos e]
    cases hm : mmo pr hs (n % 4) 6 (some (n / 4)) with
    | none => rfl
    | some m =>
      obtain ⟨c0, _, hc, em, hh⟩ := mmo_of hok 6 _ e.1 e.1 hm
      obtain ⟨a1, a2, a3, _⟩ := hUD m (by omega) hh
      show some ((D m).1, (D m).2.1, (D m).2.2.1) = some (u1 m, u2 m, ur m)
      rw [a1, a2, a3]
  · rw [if_neg e, if_neg e]
theorem fltF_u (hU : MdM (D f.m) u1 u2 ur ul uo ua uc us ut uk f.m) (hp : f.p < 24) (hnc : uc f.m ≤ 2) : flt tb pr ow fi ft sg (uo (24 * f.m + f.p)) (ua (24 * f.m + f.p)) (ul f.m) (fun i => us (2 * f.m + i) / 32) (fun i => us (2 * f.m + i) % 32) (fun i => ut (2 * f.m + i)) (fun i => uk (2 * f.m + i)) (uc f.m) (ur f.m) f.p f.R (hgt f.R) = fltF tb pr ow fi ft sg D f := by
  obtain ⟨a1, a2, a3, a4, a5, a6, a7⟩ := hU
  unfold fltF
  rw [(a5 f.p hp).1, (a5 f.p hp).2, a4, a3, a6]
  exact flt_g (fun i hi => ⟨(a7 i hi).1.symm, (a7 i hi).2.1.symm, (a7 i hi).2.2.1.symm, (a7 i hi).2.2.2.symm⟩) hnc
variable {xk fu xm : Int32}
theorem d_Mo_run_233 : decode m_Mo_run.2.1 233 = .ok (.iload 8, 2) := by decide +kernel
theorem d_Mo_run_235 : decode m_Mo_run.2.1 235 = .ok (.ifCond .le 15, 3) := by decide +kernel
theorem d_Mo_run_250 : decode m_Mo_run.2.1 250 = .ok (.iconst 0, 1) := by decide +kernel
theorem d_Mo_run_251 : decode m_Mo_run.2.1 251 = .ok (.istore 9, 2) := by decide +kernel
theorem d_Mo_run_253 : decode m_Mo_run.2.1 253 = .ok (.iload 8, 2) := by decide +kernel
theorem d_Mo_run_255 : decode m_Mo_run.2.1 255 = .ok (.ifCond .ne 12, 3) := by decide +kernel
theorem d_Mo_run_258 : decode m_Mo_run.2.1 258 = .ok (.aload_n 0, 1) := by decide +kernel
theorem d_Mo_run_259 : decode m_Mo_run.2.1 259 = .ok (.iconst 5, 1) := by decide +kernel
theorem d_Mo_run_260 : decode m_Mo_run.2.1 260 = .ok (.iconst 0, 1) := by decide +kernel
theorem k_Mo_run_230 : jl_cv m_Mo_run m_Mo_end 230 2 = true := by decide +kernel
theorem d_Mo_run_261 : decode m_Mo_run.2.1 261 = .ok (.invokevirtual 230, 3) := by decide +kernel
theorem d_Mo_run_264 : decode m_Mo_run.2.1 264 = .ok (.goto 26, 3) := by decide +kernel
theorem d_Mo_run_290 : decode m_Mo_run.2.1 290 = .ok (.goto (-64), 3) := by decide +kernel
theorem d_Mo_run_238 : decode m_Mo_run.2.1 238 = .ok (.iload 5, 2) := by decide +kernel
theorem d_Mo_run_240 : decode m_Mo_run.2.1 240 = .ok (.ifCond .eq 10, 3) := by decide +kernel
theorem d_Mo_run_267 : decode m_Mo_run.2.1 267 = .ok (.iload 9, 2) := by decide +kernel
theorem d_Mo_run_269 : decode m_Mo_run.2.1 269 = .ok (.ifCond .le 14, 3) := by decide +kernel
theorem d_Mo_run_283 : decode m_Mo_run.2.1 283 = .ok (.iinc 8 (-1), 3) := by decide +kernel
theorem d_Mo_run_286 : decode m_Mo_run.2.1 286 = .ok (.aload_n 0, 1) := by decide +kernel
theorem k_Mo_run_307 : jl_cv m_Mo_run m_Mo_step 307 0 = true := by decide +kernel
theorem d_Mo_run_287 : decode m_Mo_run.2.1 287 = .ok (.invokevirtual 307, 3) := by decide +kernel
theorem d_Mo_run_243 : decode m_Mo_run.2.1 243 = .ok (.aload_n 0, 1) := by decide +kernel
theorem k_Mo_run_303 : jl_cv m_Mo_run m_Mo_guard 303 0 = true := by decide +kernel
theorem d_Mo_run_244 : decode m_Mo_run.2.1 244 = .ok (.invokevirtual 303, 3) := by decide +kernel
theorem d_Mo_run_247 : decode m_Mo_run.2.1 247 = .ok (.goto 4, 3) := by decide +kernel
theorem d_Mo_run_272 : decode m_Mo_run.2.1 272 = .ok (.aload_n 0, 1) := by decide +kernel
theorem d_Mo_run_273 : decode m_Mo_run.2.1 273 = .ok (.bipush 8, 2) := by decide +kernel
theorem d_Mo_run_275 : decode m_Mo_run.2.1 275 = .ok (.iload 9, 2) := by decide +kernel
theorem d_Mo_run_277 : decode m_Mo_run.2.1 277 = .ok (.invokevirtual 230, 3) := by decide +kernel
theorem d_Mo_run_280 : decode m_Mo_run.2.1 280 = .ok (.goto 10, 3) := by decide +kernel
theorem mo_run_l (hl : l.stackTraces = false) {P : jl_O → jl_S → Prop}   (hw0 : MoW σ0 tb pr ow ft hs) (hu0 : MoM σ0 u1 u2 ur ul uo ua uc us ut uk) (hK : MoK u1 u2 ur ul uo uc us ut uk) (hUD : ∀ m, m < 24 → hs m = true → MdM (D m) u1 u2 ur ul uo ua uc us ut uk m) (hok : WoOk tb pr ow fi) (hft : ∀ k f, tyv (some (fty pr fi ft k f))) (hD : ∀ m, m < 24 → hs m = true → MdOk (D m)) (hsg : SgM tb pr hs (fun m => (D m).1) (fun m => (D m).2.1) (fun m => (D m).2.2.1) sg) (hW : gd = false → FixW tb pr ow fi ft sg hs D W) (hE : SgE pr hs D) : ∀ (nn : Nat) (r d : Nat) (σ : jl_S) (f : Fm) (fs : List Fm) (H : Hp) (hg an : Int32), r < nn → r ≤ 400 → NB σ0 σ (hgt f.R) fs.length f.m f.p (hgt f.R) f.R f.V fs H fa vf wh wy hg ov oh (nI d) an → SF tb pr ow fi ft hs D W gd f fs H → (∀ how what dn an' H' aw hg' σ', mrn tb pr ow fi ft sg hs D gd (r) f fs H d = (how, what, dn, an', H') → (∀ v, an' = some v → aw = v) → NQ σ0 σ' [] H' fa vf wh wy hg' (nI how) (nI what) (nI dn) aw → jl_E l G m_Mo_run (0, 0) 293 [some (.ref 22), none, none, none, none, none, none, none, none, none] [] σ' P) → jl_E l G m_Mo_run (0, 0) 226 [some (.ref 22), some (.int (xk)), some (.int (xa)), some (.int (xb)), some (.int (fu)), some (.int (bi gd)), some (.int (xm)), none, some (.int (nI r)), none] [] σ P := by
  intro nn
  induction nn with
  | zero => intro r d σ f fs H hg an hnn; exact absurd hnn (Nat.not_lt_zero _)
  | succ nn ihn =>
    intro r d σ f fs H hg an hnn hr4 hn hsf hT
    obtain ⟨fx, fp, fh, lw, lk, vl, vk, ks, kc, kv, lo, sk, hO, f1, f2, f3, f4, f5, f6, f7, hH, hB, hy1, hR1, hF⟩ := id hn
    obtain ⟨k1, k2, k3⟩ := id hH
    obtain ⟨⟨r1, r2⟩, hlo, hsk⟩ := id hR1
    obtain ⟨r1', r2', r3, r4, r5, r6⟩ := hsf.1.2.1
    have h12 := hsf.1.2.2.2
    have hU := hUD f.m r1' r2'
    refine er_aload_n d_Mo_run_226 rfl ?_
    refine er_getf d_Mo_run_227 f_Mo_run_224 hO rfl ?_
    refine er_if_leN 293 d_Mo_run_230 (by decide) (by omega) (fun c1 => ?_) (fun c1 => ?_)
    · exact absurd c1 (by omega)
    · cases r with
      | zero =>
        show jl_E l G m_Mo_run (0, 0) 233 [some (.ref 22), some (.int (xk)), some (.int (xa)), some (.int (xb)), some (.int (fu)), some (.int (bi gd)), some (.int (xm)), none, some (.int (nI 0)), none] [] (σ) P
        refine er_iload d_Mo_run_233 rfl ?_
        refine er_if_le 250 d_Mo_run_235 (by decide) (fun _ => ?_) (fun z => absurd (by decide) z)
        refine er_iconst ((nI (0))) d_Mo_run_250 (by decide) ?_
        refine er_istore d_Mo_run_251 (by decide) ?_
        show jl_E l G m_Mo_run (0, 0) 253 [some (.ref 22), some (.int (xk)), some (.int (xa)), some (.int (xb)), some (.int (fu)), some (.int (bi gd)), some (.int (xm)), none, some (.int (nI 0)), some (.int (nI 0))] [] (σ) P
        refine er_iload d_Mo_run_253 rfl ?_
        refine er_if_ne 267 d_Mo_run_255 (by decide) (fun z => absurd rfl z) (fun _ => ?_)
        refine er_aload_n d_Mo_run_258 rfl ?_
        refine er_iconst ((nI (5))) d_Mo_run_259 (by decide) ?_
        refine er_iconst ((nI (0))) d_Mo_run_260 (by decide) ?_
        refine er_callV (As := [.int (nI 5), .int (nI 0)]) d_Mo_run_261 k_Mo_run_230 hO rfl rfl rfl (Nat.le_of_ble_eq_true rfl) (by decide) (by decide) (mo_mend hl hO) ?_
        show jl_E l G m_Mo_run (0, 0) 264 [some (.ref 22), some (.int (xk)), some (.int (xa)), some (.int (xb)), some (.int (fu)), some (.int (bi gd)), some (.int (xm)), none, some (.int (nI 0)), some (.int (nI 0))] [] (σ.set (22) (.inr (7, [.int (fa), .ref 23, .ref 24, .ref 25, .ref 26, .ref 27, .ref 28, .ref 29, .ref 30, .ref 31, .ref 32, .ref 33, .ref 34, .ref 35, .ref 36, .ref 37, .int (vf), .int (wh), .int (wy), .ref 38, .ref 39, .ref 40, .ref 41, .int (hg), .ref 42, .ref 43, .ref 44, .ref 45, .ref 46, .ref 47, .ref 48, .ref 49, .int (nI 0), .ref 50, .ref 51, .ref 52, .int (nI (H.n)), .int (nI 5), .int (nI 0), .int (nI d), .int (an)]))) P
        refine er_goto 290 d_Mo_run_264 (by decide) ?_
        refine er_goto 226 d_Mo_run_290 (by decide) ?_
        exact er_weak (ls' := [some (.ref 22), none, none, none, none, none, none, none, none, none]) (fun q v hv => by match q, hv with | 0, hv => exact hv | 1, hv => cases hv | 2, hv => cases hv | 3, hv => cases hv | 4, hv => cases hv | 5, hv => cases hv | 6, hv => cases hv | 7, hv => cases hv | 8, hv => cases hv | 9, hv => cases hv | q + 10, hv => cases hv) (mo_run_x hl (H := H) ⟨_, _, _, _, _, _, _, _, _, _, _, _, (jl_ss hO), (jl_sn (by decide) f1), (jl_sn (by decide) f2), (jl_sn (by decide) f3), (jl_sn (by decide) f4), (jl_sn (by decide) f5), (jl_sn (by decide) f6), (jl_sn (by decide) f7), ⟨(jl_sn (by decide) k1), (jl_sn (by decide) k2), (jl_sn (by decide) k3)⟩, hB, trivial, ⟨⟨(jl_sn (by decide) r1), (jl_sn (by decide) r2)⟩, hlo, hsk⟩, (hF.set (by omega))⟩ hw0 (hT 5 0 d none H an _ _ rfl (fun _ q => by cases q) ⟨_, _, _, _, _, _, _, _, _, _, _, _, (jl_ss hO), (jl_sn (by decide) f1), (jl_sn (by decide) f2), (jl_sn (by decide) f3), (jl_sn (by decide) f4), (jl_sn (by decide) f5), (jl_sn (by decide) f6), (jl_sn (by decide) f7), ⟨(jl_sn (by decide) k1), (jl_sn (by decide) k2), (jl_sn (by decide) k3)⟩, hB, trivial, ⟨⟨(jl_sn (by decide) r1), (jl_sn (by decide) r2)⟩, hlo, hsk⟩, (hF.set (by omega))⟩))
      | succ r =>
        show jl_E l G m_Mo_run (0, 0) 233 [some (.ref 22), some (.int (xk)), some (.int (xa)), some (.int (xb)), some (.int (fu)), some (.int (bi gd)), some (.int (xm)), none, some (.int (nI (r + 1))), none] [] (σ) P
        refine er_iload d_Mo_run_233 rfl ?_
        refine er_if_le 250 d_Mo_run_235 (by decide) (fun z => absurd z (fun z => by rw [← nI_0, nI_leI (by omega) (by omega)] at z; omega)) (fun _ => ?_)
        refine er_iload d_Mo_run_238 rfl ?_
        refine er_if_eq 250 d_Mo_run_240 (by decide) (fun c2 => ?_) (fun c2 => ?_)
        · refine er_iconst ((nI (0))) d_Mo_run_250 (by decide) ?_
          refine er_istore d_Mo_run_251 (by decide) ?_
          show jl_E l G m_Mo_run (0, 0) 253 [some (.ref 22), some (.int (xk)), some (.int (xa)), some (.int (xb)), some (.int (fu)), some (.int (bi gd)), some (.int (xm)), none, some (.int (nI (r + 1))), some (.int (nI 0))] [] (σ) P
          refine er_iload d_Mo_run_253 rfl ?_
          refine er_if_ne 267 d_Mo_run_255 (by decide) (fun _ => ?_) (fun z => absurd z (fun z => by rw [← nI_0, nI_eq (by omega) (by omega)] at z; omega))
          refine er_iload d_Mo_run_267 rfl ?_
          refine er_if_le 283 d_Mo_run_269 (by decide) (fun _ => ?_) (fun z => absurd (by decide) z)
          have hng : ¬ (gd = true ∧ fltF tb pr ow fi ft sg D f ≠ 0) := fun z => by have q := bi_0.mp c2; rw [q] at z; cases z.1
          have h0 := hsf.flt hok hD hsg hW hng
          refine er_iinc (nI r) d_Mo_run_283 (by decide) rfl (dec_1 r) ?_
          show jl_E l G m_Mo_run (0, 0) 286 [some (.ref 22), some (.int (xk)), some (.int (xa)), some (.int (xb)), some (.int (fu)), some (.int (bi gd)), some (.int (xm)), none, some (.int (nI r)), some (.int (nI 0))] [] (σ) P
          refine er_weak (ls' := [some (.ref 22), some (.int (xk)), some (.int (xa)), some (.int (xb)), some (.int (fu)), some (.int (bi gd)), some (.int (xm)), none, some (.int (nI r)), none]) (fun q v hv => by match q, hv with | 0, hv => exact hv | 1, hv => exact hv | 2, hv => exact hv | 3, hv => exact hv | 4, hv => exact hv | 5, hv => exact hv | 6, hv => exact hv | 7, hv => cases hv | 8, hv => exact hv | 9, hv => cases hv | q + 10, hv => cases hv) ?_
          show jl_E l G m_Mo_run (0, 0) 286 [some (.ref 22), some (.int (xk)), some (.int (xa)), some (.int (xb)), some (.int (fu)), some (.int (bi gd)), some (.int (xm)), none, some (.int (nI r)), none] [] (σ) P
          refine er_aload_n d_Mo_run_286 rfl ?_
          refine er_callVE (As := []) d_Mo_run_287 k_Mo_run_307 hO rfl rfl rfl (Nat.le_of_ble_eq_true rfl) (by decide) (by decide) (mo_step hl hw0 hu0 hK hUD hok hft hD hsg hsf.1 h0 hn (fun f1 fs1 H1 σ e1 hk1 => ⟨_, rfl, ?_⟩) (fun how what an1 H1 aw σ e1 e2 hz1 => ⟨_, rfl, ?_⟩))
          · skip
            show jl_E l G m_Mo_run (0, 0) 290 [some (.ref 22), some (.int (xk)), some (.int (xa)), some (.int (xb)), some (.int (fu)), some (.int (bi gd)), some (.int (xm)), none, some (.int (nI r)), none] [] (σ) P
            refine er_goto 226 d_Mo_run_290 (by decide) ?_
            (obtain ⟨f2, fs2, eq2, hsf2⟩ := hsf.step hok hft hD hsg hW hE h0 e1; cases eq2; exact ihn r (d + 1) σ f1 fs1 H1 _ an (by omega) (by omega) hk1 hsf2 (fun how what dn an' H2 aw hg2 σ2 q => hT how what dn an' H2 aw hg2 σ2 ((show mrn tb pr ow fi ft sg hs D gd (r + 1) f fs H d = mrn tb pr ow fi ft sg hs D gd (r) f1 fs1 H1 (d + 1) from (by rw [mrn, if_neg hng, e1])).trans q)))
          · skip
            show jl_E l G m_Mo_run (0, 0) 290 [some (.ref 22), some (.int (xk)), some (.int (xa)), some (.int (xb)), some (.int (fu)), some (.int (bi gd)), some (.int (xm)), none, some (.int (nI r)), none] [] (σ) P
            refine er_goto 226 d_Mo_run_290 (by decide) ?_
            exact er_weak (ls' := [some (.ref 22), none, none, none, none, none, none, none, none, none]) (fun q v hv => by match q, hv with | 0, hv => exact hv | 1, hv => cases hv | 2, hv => cases hv | 3, hv => cases hv | 4, hv => cases hv | 5, hv => cases hv | 6, hv => cases hv | 7, hv => cases hv | 8, hv => cases hv | 9, hv => cases hv | q + 10, hv => cases hv) (mo_run_x hl hz1 hw0 (hT how what (d + 1) an1 H1 aw _ _ (by rw [mrn, if_neg hng, e1]) e2 hz1))
        · refine er_aload_n d_Mo_run_243 rfl ?_
          refine er_callVE (As := []) d_Mo_run_244 k_Mo_run_303 hO rfl rfl rfl (Nat.le_of_ble_eq_true rfl) (by decide) (by decide) (mo_guard hl hn hw0 hu0 hok (SgM_u hok hUD hsg) hK r1' r3 (fun k f => (hft k f _ rfl).1) h12 r5 r6 hsf.1.1.1 (sg_pq hok hD hsg) (fltF_u hU r3 (hK.1 f.m r1').2.2.2.2.1) (fun σ h1 => ⟨_, rfl, ?_⟩))
          have hn := h1
          obtain ⟨fx, fp, fh, lw, lk, vl, vk, ks, kc, kv, lo, sk, hO, f1, f2, f3, f4, f5, f6, f7, hH, hB, hy1, hR1, hF⟩ := id hn
          obtain ⟨k1, k2, k3⟩ := id hH
          obtain ⟨⟨r1, r2⟩, hlo, hsk⟩ := id hR1
          have hfl5 : fltF tb pr ow fi ft sg D f ≤ 5 := flt_le
          show jl_E l G m_Mo_run (0, 0) 247 [some (.ref 22), some (.int (xk)), some (.int (xa)), some (.int (xb)), some (.int (fu)), some (.int (bi gd)), some (.int (xm)), none, some (.int (nI (r + 1))), none] [.int (nI (fltF tb pr ow fi ft sg D f))] (σ) P
          refine er_goto 251 d_Mo_run_247 (by decide) ?_
          refine er_istore d_Mo_run_251 (by decide) ?_
          show jl_E l G m_Mo_run (0, 0) 253 [some (.ref 22), some (.int (xk)), some (.int (xa)), some (.int (xb)), some (.int (fu)), some (.int (bi gd)), some (.int (xm)), none, some (.int (nI (r + 1))), some (.int (nI (fltF tb pr ow fi ft sg D f)))] [] (σ) P
          refine er_iload d_Mo_run_253 rfl ?_
          refine er_if_ne 267 d_Mo_run_255 (by decide) (fun _ => ?_) (fun z => absurd z (fun z => by rw [← nI_0, nI_eq (by omega) (by omega)] at z; omega))
          refine er_iload d_Mo_run_267 rfl ?_
          refine er_if_leN 283 d_Mo_run_269 (by decide) (by omega) (fun c3 => ?_) (fun c3 => ?_)
          · have hng : ¬ (gd = true ∧ fltF tb pr ow fi ft sg D f ≠ 0) := fun z => z.2 (by omega)
            have h0 := hsf.flt hok hD hsg hW hng
            refine er_iinc (nI r) d_Mo_run_283 (by decide) rfl (dec_1 r) ?_
            show jl_E l G m_Mo_run (0, 0) 286 [some (.ref 22), some (.int (xk)), some (.int (xa)), some (.int (xb)), some (.int (fu)), some (.int (bi gd)), some (.int (xm)), none, some (.int (nI r)), some (.int (nI (fltF tb pr ow fi ft sg D f)))] [] (σ) P
            refine er_weak (ls' := [some (.ref 22), some (.int (xk)), some (.int (xa)), some (.int (xb)), some (.int (fu)), some (.int (bi gd)), some (.int (xm)), none, some (.int (nI r)), none]) (fun q v hv => by match q, hv with | 0, hv => exact hv | 1, hv => exact hv | 2, hv => exact hv | 3, hv => exact hv | 4, hv => exact hv | 5, hv => exact hv | 6, hv => exact hv | 7, hv => cases hv | 8, hv => exact hv | 9, hv => cases hv | q + 10, hv => cases hv) ?_
            show jl_E l G m_Mo_run (0, 0) 286 [some (.ref 22), some (.int (xk)), some (.int (xa)), some (.int (xb)), some (.int (fu)), some (.int (bi gd)), some (.int (xm)), none, some (.int (nI r)), none] [] (σ) P
            refine er_aload_n d_Mo_run_286 rfl ?_
            refine er_callVE (As := []) d_Mo_run_287 k_Mo_run_307 hO rfl rfl rfl (Nat.le_of_ble_eq_true rfl) (by decide) (by decide) (mo_step hl hw0 hu0 hK hUD hok hft hD hsg hsf.1 h0 hn (fun f1 fs1 H1 σ e1 hk1 => ⟨_, rfl, ?_⟩) (fun how what an1 H1 aw σ e1 e2 hz1 => ⟨_, rfl, ?_⟩))
            · skip
              show jl_E l G m_Mo_run (0, 0) 290 [some (.ref 22), some (.int (xk)), some (.int (xa)), some (.int (xb)), some (.int (fu)), some (.int (bi gd)), some (.int (xm)), none, some (.int (nI r)), none] [] (σ) P
              refine er_goto 226 d_Mo_run_290 (by decide) ?_
              (obtain ⟨f2, fs2, eq2, hsf2⟩ := hsf.step hok hft hD hsg hW hE h0 e1; cases eq2; exact ihn r (d + 1) σ f1 fs1 H1 _ an (by omega) (by omega) hk1 hsf2 (fun how what dn an' H2 aw hg2 σ2 q => hT how what dn an' H2 aw hg2 σ2 ((show mrn tb pr ow fi ft sg hs D gd (r + 1) f fs H d = mrn tb pr ow fi ft sg hs D gd (r) f1 fs1 H1 (d + 1) from (by rw [mrn, if_neg hng, e1])).trans q)))
            · skip
              show jl_E l G m_Mo_run (0, 0) 290 [some (.ref 22), some (.int (xk)), some (.int (xa)), some (.int (xb)), some (.int (fu)), some (.int (bi gd)), some (.int (xm)), none, some (.int (nI r)), none] [] (σ) P
              refine er_goto 226 d_Mo_run_290 (by decide) ?_
              exact er_weak (ls' := [some (.ref 22), none, none, none, none, none, none, none, none, none]) (fun q v hv => by match q, hv with | 0, hv => exact hv | 1, hv => cases hv | 2, hv => cases hv | 3, hv => cases hv | 4, hv => cases hv | 5, hv => cases hv | 6, hv => cases hv | 7, hv => cases hv | 8, hv => cases hv | 9, hv => cases hv | q + 10, hv => cases hv) (mo_run_x hl hz1 hw0 (hT how what (d + 1) an1 H1 aw _ _ (by rw [mrn, if_neg hng, e1]) e2 hz1))
          · refine er_aload_n d_Mo_run_272 rfl ?_
            refine er_bipush ((nI (8))) d_Mo_run_273 (by decide) ?_
            refine er_iload d_Mo_run_275 rfl ?_
            refine er_callV (As := [.int (nI 8), .int (nI (fltF tb pr ow fi ft sg D f))]) d_Mo_run_277 k_Mo_run_230 hO rfl rfl rfl (Nat.le_of_ble_eq_true rfl) (by decide) (by decide) (mo_mend hl hO) ?_
            show jl_E l G m_Mo_run (0, 0) 280 [some (.ref 22), some (.int (xk)), some (.int (xa)), some (.int (xb)), some (.int (fu)), some (.int (bi gd)), some (.int (xm)), none, some (.int (nI (r + 1))), some (.int (nI (fltF tb pr ow fi ft sg D f)))] [] (σ.set (22) (.inr (7, [.int (fa), .ref 23, .ref 24, .ref 25, .ref 26, .ref 27, .ref 28, .ref 29, .ref 30, .ref 31, .ref 32, .ref 33, .ref 34, .ref 35, .ref 36, .ref 37, .int (vf), .int (wh), .int (wy), .ref 38, .ref 39, .ref 40, .ref 41, .int (nI (hgt f.R)), .ref 42, .ref 43, .ref 44, .ref 45, .ref 46, .ref 47, .ref 48, .ref 49, .int (nI 0), .ref 50, .ref 51, .ref 52, .int (nI (H.n)), .int (nI 8), .int (nI (fltF tb pr ow fi ft sg D f)), .int (nI d), .int (an)]))) P
            refine er_goto 290 d_Mo_run_280 (by decide) ?_
            refine er_goto 226 d_Mo_run_290 (by decide) ?_
            exact er_weak (ls' := [some (.ref 22), none, none, none, none, none, none, none, none, none]) (fun q v hv => by match q, hv with | 0, hv => exact hv | 1, hv => cases hv | 2, hv => cases hv | 3, hv => cases hv | 4, hv => cases hv | 5, hv => cases hv | 6, hv => cases hv | 7, hv => cases hv | 8, hv => cases hv | 9, hv => cases hv | q + 10, hv => cases hv) (mo_run_x hl (H := H) ⟨_, _, _, _, _, _, _, _, _, _, _, _, (jl_ss hO), (jl_sn (by decide) f1), (jl_sn (by decide) f2), (jl_sn (by decide) f3), (jl_sn (by decide) f4), (jl_sn (by decide) f5), (jl_sn (by decide) f6), (jl_sn (by decide) f7), ⟨(jl_sn (by decide) k1), (jl_sn (by decide) k2), (jl_sn (by decide) k3)⟩, hB, trivial, ⟨⟨(jl_sn (by decide) r1), (jl_sn (by decide) r2)⟩, hlo, hsk⟩, (hF.set (by omega))⟩ hw0 (hT 8 (fltF tb pr ow fi ft sg D f) d none H an _ _ (by rw [mrn, if_pos ⟨bi_nf c2, by omega⟩]) (fun _ q => by cases q) ⟨_, _, _, _, _, _, _, _, _, _, _, _, (jl_ss hO), (jl_sn (by decide) f1), (jl_sn (by decide) f2), (jl_sn (by decide) f3), (jl_sn (by decide) f4), (jl_sn (by decide) f5), (jl_sn (by decide) f6), (jl_sn (by decide) f7), ⟨(jl_sn (by decide) k1), (jl_sn (by decide) k2), (jl_sn (by decide) k3)⟩, hB, trivial, ⟨⟨(jl_sn (by decide) r1), (jl_sn (by decide) r2)⟩, hlo, hsk⟩, (hF.set (by omega))⟩))
end JNzj
