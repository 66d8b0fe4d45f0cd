/-! the model's machine: SIGNALS (wip/gen/p97xh.py) -/
section JNxh
variable {l : Launch} {G : jl_G} {σ : jl_S}
variable {tb : Nat → Bool} {pr : Nat → Option Nat} {ow fi ft : Nat → Nat} {hs : Nat → Bool} {fa vf wh wy hg dp md ov oh dn an : Int32}
variable {u1 u2 : Nat → Option Nat} {ur ul uo : Nat → Nat} {ua : Nat → Int32} {uc us ut uk : Nat → Nat}
variable {σ0 : jl_S} {N t m p h b n : Nat} {R : Rw} {V : Nat → Int32} {fs : List Fm} {H : Hp} {fa vf wh wy hg ov oh dn an x a v : Int32} {y : Option Nat}
variable {D : Nat → MDt} {q k : Nat} {wt : Int32}
theorem rse_dn {y : Option Nat} {v : Int32} {g : Fm} {gs : List Fm} (hc : ctM (D g.m) uc us ut uk g.m) (z : cti pr (D g.m) g.p y (uc g.m - 0) 0 = none) : rse pr D y v (g :: gs) = rse pr D y v gs := by
  have z2 : cti pr (D g.m) g.p y (dnc (D g.m)) 0 = none := by rw [hc.1]; exact z
  rw [rse, z2]
theorem mo_signal_s (hl : l.stackTraces = false) {P : jl_O → jl_S → Prop}  (hn : NB σ0 σ (0) t m (p) (h) (R) (V) (fs) (H) fa vf wh wy hg ov oh dn an) (hw0 : MoW σ0 tb pr ow ft hs) (hu0 : MoM σ0 u1 u2 ur ul uo ua uc us ut uk) (hcf : ∀ j, j < 48 → us j < 1024 ∧ ut j < 24 ∧ uk j < 7) (ht : t < 12) (htl : fs.length = t) (hof : (∀ f ∈ (⟨m, p, R, V⟩ :: fs), f.m < 24 ∧ f.p < 24 ∧ ctM (D f.m) uc us ut uk f.m ∧ uc f.m ≤ 2)) (hwt : wt < 0) (hwn : -(wt) - (nI (1)) = nI n) (hG : ∀ f' fs' σ', rse pr D none (-1) (⟨m, p, R, V⟩ :: fs) = some (f' :: fs') → NB σ0 σ' (hgt f'.R) fs'.length f'.m f'.p (hgt f'.R) f'.R f'.V fs' H fa vf wh wy hg ov oh dn an → P (.inl none) σ') (hE : rse pr D none (-1) (⟨m, p, R, V⟩ :: fs) = none → ∀ σ', NQ σ0 σ' [] H fa vf wh wy hg (nI n) (nI 0) dn an → P (.inl none) σ') : jl_mE l G m_Mo_signal [.ref 22, .int (wt)] σ P := by
  refine jl_ofE (as := [.ref 22, .int (wt)]) rfl (by decide) hl (jl_cc rfl (jl_cc rfl jl_ca)) (Nat.le_of_ble_eq_true rfl) ?_
  show jl_E l G m_Mo_signal (0, 0) 0 [some (.ref 22), some (.int (wt)), none, none, none, none] [] (σ) P
  subst htl
  exact mo_sigT_s (g := ⟨m, p, R, V⟩) (gs := fs) hl hw0 hu0 hcf hwt hwn hn ht (hof _ List.mem_cons_self) (fun z σ' hq' => mo_sigL_s hl hw0 hu0 hcf hwt hwn fs σ' hq' (by omega) (fun f hf => hof f (List.mem_cons_of_mem _ hf)) (fun f' fs' σ2 z2 => hG f' fs' σ2 ((rse_dn (hof _ List.mem_cons_self).2.2.1 z).trans z2)) (fun z2 => hE ((rse_dn (hof _ List.mem_cons_self).2.2.1 z).trans z2))) hG
theorem mo_signal_t (hl : l.stackTraces = false) {P : jl_O → jl_S → Prop}  (hn : NB σ0 σ (0) t m (p) (h) (R) (V) (fs) (H) fa vf wh wy hg ov oh dn an) (hw0 : MoW σ0 tb pr ow ft hs) (hu0 : MoM σ0 u1 u2 ur ul uo ua uc us ut uk) (hcf : ∀ j, j < 48 → us j < 1024 ∧ ut j < 24 ∧ uk j < 7) (ht : t < 12) (htl : fs.length = t) (hof : (∀ f ∈ (⟨m, p, R, V⟩ :: fs), f.m < 24 ∧ f.p < 24 ∧ ctM (D f.m) uc us ut uk f.m ∧ uc f.m ≤ 2)) (hq : q < H.n) (hn40 : H.n ≤ 40) (hso : H.so q = some k) (hk6 : k < 6) (hd : dsc pr) (hG : ∀ f' fs' σ', rse pr D (some (10 + k)) (nI q) (⟨m, p, R, V⟩ :: fs) = some (f' :: fs') → NB σ0 σ' (hgt f'.R) fs'.length f'.m f'.p (hgt f'.R) f'.R f'.V fs' H fa vf wh wy hg ov oh dn an → P (.inl none) σ') (hE : rse pr D (some (10 + k)) (nI q) (⟨m, p, R, V⟩ :: fs) = none → ∀ σ', NQ σ0 σ' [] H fa vf wh wy hg (nI 7) (nI k) dn an → P (.inl none) σ') : jl_mE l G m_Mo_signal [.ref 22, .int (nI q)] σ P := by
  refine jl_ofE (as := [.ref 22, .int (nI q)]) rfl (by decide) hl (jl_cc rfl (jl_cc rfl jl_ca)) (Nat.le_of_ble_eq_true rfl) ?_
  show jl_E l G m_Mo_signal (0, 0) 0 [some (.ref 22), some (.int (nI q)), none, none, none, none] [] (σ) P
  subst htl
  exact mo_sigT_t (g := ⟨m, p, R, V⟩) (gs := fs) hl hw0 hu0 hcf hq hn40 hso hk6 hd hn ht (hof _ List.mem_cons_self) (fun z σ' hq' => mo_sigL_t hl hw0 hu0 hcf hq hn40 hso hk6 hd fs σ' hq' (by omega) (fun f hf => hof f (List.mem_cons_of_mem _ hf)) (fun f' fs' σ2 z2 => hG f' fs' σ2 ((rse_dn (hof _ List.mem_cons_self).2.2.1 z).trans z2)) (fun z2 => hE ((rse_dn (hof _ List.mem_cons_self).2.2.1 z).trans z2))) hG
theorem d_Mo_signalNumber_0 : decode m_Mo_signalNumber.2.1 0 = .ok (.aload_n 0, 1) := by decide +kernel
theorem d_Mo_signalNumber_1 : decode m_Mo_signalNumber.2.1 1 = .ok (.iload_n 1, 1) := by decide +kernel
theorem d_Mo_signalNumber_2 : decode m_Mo_signalNumber.2.1 2 = .ok (.ineg, 1) := by decide +kernel
theorem d_Mo_signalNumber_3 : decode m_Mo_signalNumber.2.1 3 = .ok (.iconst 1, 1) := by decide +kernel
theorem d_Mo_signalNumber_4 : decode m_Mo_signalNumber.2.1 4 = .ok (.isub, 1) := by decide +kernel
theorem k_Mo_signalNumber_239 : jl_cv m_Mo_signalNumber m_Mo_signal 239 1 = true := by decide +kernel
theorem d_Mo_signalNumber_5 : decode m_Mo_signalNumber.2.1 5 = .ok (.invokevirtual 239, 3) := by decide +kernel
theorem d_Mo_signalNumber_8 : decode m_Mo_signalNumber.2.1 8 = .ok (.return_, 1) := by decide +kernel
theorem mo_sn_1 (hl : l.stackTraces = false) {P : jl_O → jl_S → Prop}  (hn : NB σ0 σ (0) t m (p) (h) (R) (V) (fs) (H) fa vf wh wy hg ov oh dn an) (hw0 : MoW σ0 tb pr ow ft hs) (hu0 : MoM σ0 u1 u2 ur ul uo ua uc us ut uk) (hcf : ∀ j, j < 48 → us j < 1024 ∧ ut j < 24 ∧ uk j < 7) (ht : t < 12) (htl : fs.length = t) (hof : (∀ f ∈ (⟨m, p, R, V⟩ :: fs), f.m < 24 ∧ f.p < 24 ∧ ctM (D f.m) uc us ut uk f.m ∧ uc f.m ≤ 2)) (hG : ∀ f' fs' σ', rse pr D none (-1) (⟨m, p, R, V⟩ :: fs) = some (f' :: fs') → NB σ0 σ' (hgt f'.R) fs'.length f'.m f'.p (hgt f'.R) f'.R f'.V fs' H fa vf wh wy hg ov oh dn an → P (.inl none) σ') (hE : rse pr D none (-1) (⟨m, p, R, V⟩ :: fs) = none → ∀ σ', NQ σ0 σ' [] H fa vf wh wy hg (nI 1) (nI 0) dn an → P (.inl none) σ') : jl_mE l G m_Mo_signalNumber [.ref 22, .int (nI 1)] σ P := by
  obtain ⟨fx, fp, fh, lw, lk, vl, vk, ks, kc, kv, lo, sk, hO, f1, f2, f3, f4, f5, f6, f7, hH, hB, hy1, hR1, hF⟩ := id hn
  refine jl_ofE (as := [.ref 22, .int (nI 1)]) rfl (by decide) hl (jl_cc rfl (jl_cc rfl jl_ca)) (Nat.le_of_ble_eq_true rfl) ?_
  show jl_E l G m_Mo_signalNumber (0, 0) 0 [some (.ref 22), some (.int (nI 1))] [] (σ) P
  refine er_aload_n d_Mo_signalNumber_0 rfl ?_
  refine er_iload_n d_Mo_signalNumber_1 rfl ?_
  refine er_ineg d_Mo_signalNumber_2 ?_
  refine er_iconst ((nI (1))) d_Mo_signalNumber_3 (by decide) ?_
  refine er_isub d_Mo_signalNumber_4 ?_
  refine er_callVE (As := [.int ((-(nI (1))) - (nI (1)))]) d_Mo_signalNumber_5 k_Mo_signalNumber_239 hO rfl rfl rfl (Nat.le_of_ble_eq_true rfl) (by decide) (by decide) (mo_signal_s (n := 1) (wt := (-(nI (1))) - (nI (1))) hl hn hw0 hu0 hcf ht htl hof (by decide +kernel) (by decide +kernel) (fun f1 fs1 σ e1 h1 => ⟨_, rfl, ?_⟩) (fun e1 σ h1 => ⟨_, rfl, ?_⟩))
  · skip
    show jl_E l G m_Mo_signalNumber (0, 0) 8 [some (.ref 22), some (.int (nI 1))] [] (σ) P
    exact er_vret d_Mo_signalNumber_8 rfl (hG f1 fs1 _ e1 h1) (by decide) (by decide)
  · skip
    show jl_E l G m_Mo_signalNumber (0, 0) 8 [some (.ref 22), some (.int (nI 1))] [] (σ) P
    exact er_vret d_Mo_signalNumber_8 rfl (hE e1 _ h1) (by decide) (by decide)
theorem mo_sn_2 (hl : l.stackTraces = false) {P : jl_O → jl_S → Prop}  (hn : NB σ0 σ (0) t m (p) (h) (R) (V) (fs) (H) fa vf wh wy hg ov oh dn an) (hw0 : MoW σ0 tb pr ow ft hs) (hu0 : MoM σ0 u1 u2 ur ul uo ua uc us ut uk) (hcf : ∀ j, j < 48 → us j < 1024 ∧ ut j < 24 ∧ uk j < 7) (ht : t < 12) (htl : fs.length = t) (hof : (∀ f ∈ (⟨m, p, R, V⟩ :: fs), f.m < 24 ∧ f.p < 24 ∧ ctM (D f.m) uc us ut uk f.m ∧ uc f.m ≤ 2)) (hG : ∀ f' fs' σ', rse pr D none (-1) (⟨m, p, R, V⟩ :: fs) = some (f' :: fs') → NB σ0 σ' (hgt f'.R) fs'.length f'.m f'.p (hgt f'.R) f'.R f'.V fs' H fa vf wh wy hg ov oh dn an → P (.inl none) σ') (hE : rse pr D none (-1) (⟨m, p, R, V⟩ :: fs) = none → ∀ σ', NQ σ0 σ' [] H fa vf wh wy hg (nI 2) (nI 0) dn an → P (.inl none) σ') : jl_mE l G m_Mo_signalNumber [.ref 22, .int (nI 2)] σ P := by
  obtain ⟨fx, fp, fh, lw, lk, vl, vk, ks, kc, kv, lo, sk, hO, f1, f2, f3, f4, f5, f6, f7, hH, hB, hy1, hR1, hF⟩ := id hn
  refine jl_ofE (as := [.ref 22, .int (nI 2)]) rfl (by decide) hl (jl_cc rfl (jl_cc rfl jl_ca)) (Nat.le_of_ble_eq_true rfl) ?_
  show jl_E l G m_Mo_signalNumber (0, 0) 0 [some (.ref 22), some (.int (nI 2))] [] (σ) P
  refine er_aload_n d_Mo_signalNumber_0 rfl ?_
  refine er_iload_n d_Mo_signalNumber_1 rfl ?_
  refine er_ineg d_Mo_signalNumber_2 ?_
  refine er_iconst ((nI (1))) d_Mo_signalNumber_3 (by decide) ?_
  refine er_isub d_Mo_signalNumber_4 ?_
  refine er_callVE (As := [.int ((-(nI (2))) - (nI (1)))]) d_Mo_signalNumber_5 k_Mo_signalNumber_239 hO rfl rfl rfl (Nat.le_of_ble_eq_true rfl) (by decide) (by decide) (mo_signal_s (n := 2) (wt := (-(nI (2))) - (nI (1))) hl hn hw0 hu0 hcf ht htl hof (by decide +kernel) (by decide +kernel) (fun f1 fs1 σ e1 h1 => ⟨_, rfl, ?_⟩) (fun e1 σ h1 => ⟨_, rfl, ?_⟩))
  · skip
    show jl_E l G m_Mo_signalNumber (0, 0) 8 [some (.ref 22), some (.int (nI 2))] [] (σ) P
    exact er_vret d_Mo_signalNumber_8 rfl (hG f1 fs1 _ e1 h1) (by decide) (by decide)
  · skip
    show jl_E l G m_Mo_signalNumber (0, 0) 8 [some (.ref 22), some (.int (nI 2))] [] (σ) P
    exact er_vret d_Mo_signalNumber_8 rfl (hE e1 _ h1) (by decide) (by decide)
theorem mo_sn_3 (hl : l.stackTraces = false) {P : jl_O → jl_S → Prop}  (hn : NB σ0 σ (0) t m (p) (h) (R) (V) (fs) (H) fa vf wh wy hg ov oh dn an) (hw0 : MoW σ0 tb pr ow ft hs) (hu0 : MoM σ0 u1 u2 ur ul uo ua uc us ut uk) (hcf : ∀ j, j < 48 → us j < 1024 ∧ ut j < 24 ∧ uk j < 7) (ht : t < 12) (htl : fs.length = t) (hof : (∀ f ∈ (⟨m, p, R, V⟩ :: fs), f.m < 24 ∧ f.p < 24 ∧ ctM (D f.m) uc us ut uk f.m ∧ uc f.m ≤ 2)) (hG : ∀ f' fs' σ', rse pr D none (-1) (⟨m, p, R, V⟩ :: fs) = some (f' :: fs') → NB σ0 σ' (hgt f'.R) fs'.length f'.m f'.p (hgt f'.R) f'.R f'.V fs' H fa vf wh wy hg ov oh dn an → P (.inl none) σ') (hE : rse pr D none (-1) (⟨m, p, R, V⟩ :: fs) = none → ∀ σ', NQ σ0 σ' [] H fa vf wh wy hg (nI 3) (nI 0) dn an → P (.inl none) σ') : jl_mE l G m_Mo_signalNumber [.ref 22, .int (nI 3)] σ P := by
  obtain ⟨fx, fp, fh, lw, lk, vl, vk, ks, kc, kv, lo, sk, hO, f1, f2, f3, f4, f5, f6, f7, hH, hB, hy1, hR1, hF⟩ := id hn
  refine jl_ofE (as := [.ref 22, .int (nI 3)]) rfl (by decide) hl (jl_cc rfl (jl_cc rfl jl_ca)) (Nat.le_of_ble_eq_true rfl) ?_
  show jl_E l G m_Mo_signalNumber (0, 0) 0 [some (.ref 22), some (.int (nI 3))] [] (σ) P
  refine er_aload_n d_Mo_signalNumber_0 rfl ?_
  refine er_iload_n d_Mo_signalNumber_1 rfl ?_
  refine er_ineg d_Mo_signalNumber_2 ?_
  refine er_iconst ((nI (1))) d_Mo_signalNumber_3 (by decide) ?_
  refine er_isub d_Mo_signalNumber_4 ?_
  refine er_callVE (As := [.int ((-(nI (3))) - (nI (1)))]) d_Mo_signalNumber_5 k_Mo_signalNumber_239 hO rfl rfl rfl (Nat.le_of_ble_eq_true rfl) (by decide) (by decide) (mo_signal_s (n := 3) (wt := (-(nI (3))) - (nI (1))) hl hn hw0 hu0 hcf ht htl hof (by decide +kernel) (by decide +kernel) (fun f1 fs1 σ e1 h1 => ⟨_, rfl, ?_⟩) (fun e1 σ h1 => ⟨_, rfl, ?_⟩))
  · skip
    show jl_E l G m_Mo_signalNumber (0, 0) 8 [some (.ref 22), some (.int (nI 3))] [] (σ) P
    exact er_vret d_Mo_signalNumber_8 rfl (hG f1 fs1 _ e1 h1) (by decide) (by decide)
  · skip
    show jl_E l G m_Mo_signalNumber (0, 0) 8 [some (.ref 22), some (.int (nI 3))] [] (σ) P
    exact er_vret d_Mo_signalNumber_8 rfl (hE e1 _ h1) (by decide) (by decide)
theorem mo_sn_4 (hl : l.stackTraces = false) {P : jl_O → jl_S → Prop}  (hn : NB σ0 σ (0) t m (p) (h) (R) (V) (fs) (H) fa vf wh wy hg ov oh dn an) (hw0 : MoW σ0 tb pr ow ft hs) (hu0 : MoM σ0 u1 u2 ur ul uo ua uc us ut uk) (hcf : ∀ j, j < 48 → us j < 1024 ∧ ut j < 24 ∧ uk j < 7) (ht : t < 12) (htl : fs.length = t) (hof : (∀ f ∈ (⟨m, p, R, V⟩ :: fs), f.m < 24 ∧ f.p < 24 ∧ ctM (D f.m) uc us ut uk f.m ∧ uc f.m ≤ 2)) (hG : ∀ f' fs' σ', rse pr D none (-1) (⟨m, p, R, V⟩ :: fs) = some (f' :: fs') → NB σ0 σ' (hgt f'.R) fs'.length f'.m f'.p (hgt f'.R) f'.R f'.V fs' H fa vf wh wy hg ov oh dn an → P (.inl none) σ') (hE : rse pr D none (-1) (⟨m, p, R, V⟩ :: fs) = none → ∀ σ', NQ σ0 σ' [] H fa vf wh wy hg (nI 4) (nI 0) dn an → P (.inl none) σ') : jl_mE l G m_Mo_signalNumber [.ref 22, .int (nI 4)] σ P := by
  obtain ⟨fx, fp, fh, lw, lk, vl, vk, ks, kc, kv, lo, sk, hO, f1, f2, f3, f4, f5, f6, f7, hH, hB, hy1, hR1, hF⟩ := id hn
  refine jl_ofE (as := [.ref 22, .int (nI 4)]) rfl (by decide) hl (jl_cc rfl (jl_cc rfl jl_ca)) (Nat.le_of_ble_eq_true rfl) ?_
  show jl_E l G m_Mo_signalNumber (0, 0) 0 [some (.ref 22), some (.int (nI 4))] [] (σ) P
  refine er_aload_n d_Mo_signalNumber_0 rfl ?_
  refine er_iload_n d_Mo_signalNumber_1 rfl ?_
  refine er_ineg d_Mo_signalNumber_2 ?_
  refine er_iconst ((nI (1))) d_Mo_signalNumber_3 (by decide) ?_
  refine er_isub d_Mo_signalNumber_4 ?_
  refine er_callVE (As := [.int ((-(nI (4))) - (nI (1)))]) d_Mo_signalNumber_5 k_Mo_signalNumber_239 hO rfl rfl rfl (Nat.le_of_ble_eq_true rfl) (by decide) (by decide) (mo_signal_s (n := 4) (wt := (-(nI (4))) - (nI (1))) hl hn hw0 hu0 hcf ht htl hof (by decide +kernel) (by decide +kernel) (fun f1 fs1 σ e1 h1 => ⟨_, rfl, ?_⟩) (fun e1 σ h1 => ⟨_, rfl, ?_⟩))
  · skip
    show jl_E l G m_Mo_signalNumber (0, 0) 8 [some (.ref 22), some (.int (nI 4))] [] (σ) P
    exact er_vret d_Mo_signalNumber_8 rfl (hG f1 fs1 _ e1 h1) (by decide) (by decide)
  · skip
    show jl_E l G m_Mo_signalNumber (0, 0) 8 [some (.ref 22), some (.int (nI 4))] [] (σ) P
    exact er_vret d_Mo_signalNumber_8 rfl (hE e1 _ h1) (by decide) (by decide)
theorem mo_out1 (hl : l.stackTraces = false) {v n : Int32} {dp md : Int32} (hO : MoO σ fa vf wh wy hg dp md ov oh dn an) (hw : MoW σ tb pr ow ft hs) (h : outB v n = true) : jl_m l G m_Mo_out [.ref 22, .int v, .int n] σ (.inl (some (.int (nI 1)))) σ := by
  have z := mo_out (G := G) (v := v) (n := n) hl hO hw
  rw [h, bi_t1] at z
  exact z
theorem d_Mo_arithmetic_22 : decode m_Mo_arithmetic.2.1 22 = .ok (.aload_n 0, 1) := by decide +kernel
theorem d_Mo_arithmetic_23 : decode m_Mo_arithmetic.2.1 23 = .ok (.iconst 1, 1) := by decide +kernel
theorem k_Mo_arithmetic_248 : jl_cv m_Mo_arithmetic m_Mo_signalNumber 248 1 = true := by decide +kernel
theorem d_Mo_arithmetic_24 : decode m_Mo_arithmetic.2.1 24 = .ok (.invokevirtual 248, 3) := by decide +kernel
theorem d_Mo_arithmetic_27 : decode m_Mo_arithmetic.2.1 27 = .ok (.return_, 1) := by decide +kernel
theorem mo_ar_6z (hl : l.stackTraces = false) {P : jl_O → jl_S → Prop}  (hn : NB σ0 σ (b + 2) t m (p) (b + 2) (R) (V) (fs) (H) fa vf wh wy hg ov oh dn an) (hw0 : MoW σ0 tb pr ow ft hs) (hu0 : MoM σ0 u1 u2 ur ul uo ua uc us ut uk) (hcf : ∀ j, j < 48 → us j < 1024 ∧ ut j < 24 ∧ uk j < 7) (ht : t < 12) (htl : fs.length = t) (hof : (∀ f ∈ (⟨m, p, R, V⟩ :: fs), f.m < 24 ∧ f.p < 24 ∧ ctM (D f.m) uc us ut uk f.m ∧ uc f.m ≤ 2)) (hb : b + 2 ≤ 5) (hq0 : V (8 + b) = 0) (hG : ∀ f' fs' σ', rse pr D none (-1) (⟨m, p, R, V⟩ :: fs) = some (f' :: fs') → NB σ0 σ' (hgt f'.R) fs'.length f'.m f'.p (hgt f'.R) f'.R f'.V fs' H fa vf wh wy hg ov oh dn an → P (.inl none) σ') (hE : rse pr D none (-1) (⟨m, p, R, V⟩ :: fs) = none → ∀ σ', NQ σ0 σ' [] H fa vf wh wy hg (nI 1) (nI 0) dn an → P (.inl none) σ') : jl_mE l G m_Mo_arithmetic [.ref 22, .int (nI 6)] σ P := by
  obtain ⟨fx, fp, fh, lw, lk, vl, vk, ks, kc, kv, lo, sk, hO, f1, f2, f3, f4, f5, f6, f7, hH, hB, hy1, hR1, hF⟩ := id hn
  obtain ⟨k1, k2, k3⟩ := id hH
  obtain ⟨⟨r1, r2⟩, hlo, hsk⟩ := id hR1
  obtain ⟨⟨hfx, hfp, hlc, hst⟩, hfh, hfs, hln⟩ := id hy1
  have hfx : fx t = m := hfx
  have hfp : fp t = p := hfp
  have hlc : ∀ k, k < 6 → lk (6 * t + k) = kdI (R k) ∧ (R k ≠ none → lw (6 * t + k) = V k) := hlc
  have hst : ∀ j, j < _ → vk (5 * t + j) = kdI (R (7 + j)) ∧ vl (5 * t + j) = V (7 + j) := hst
  have hw := hw0.fn hF
  obtain ⟨h23, h24, h25, h26, h27⟩ := id hw
  have hS0 : vl (5 * t + (b)) = V (7 + b) := by rw [show 7 + b = 7 + (b) by omega]; exact (hst _ (by omega)).2
  have hK0 : vk (5 * t + (b)) = kdI (R (7 + b)) := by rw [show 7 + b = 7 + (b) by omega]; exact (hst _ (by omega)).1
  have hS1 : vl (5 * t + (b + 1)) = V (8 + b) := by rw [show 8 + b = 7 + (b + 1) by omega]; exact (hst _ (by omega)).2
  have hK1 : vk (5 * t + (b + 1)) = kdI (R (8 + b)) := by rw [show 8 + b = 7 + (b + 1) by omega]; exact (hst _ (by omega)).1
  refine jl_ofE (as := [.ref 22, .int (nI 6)]) rfl (by decide) hl (jl_cc rfl (jl_cc rfl jl_ca)) (Nat.le_of_ble_eq_true rfl) ?_
  show jl_E l G m_Mo_arithmetic (0, 0) 0 [some (.ref 22), some (.int (nI 6)), none, none] [] (σ) P
  refine er_aload_n d_Mo_arithmetic_0 rfl ?_
  refine er_iconst ((nI (2))) d_Mo_arithmetic_1 (by decide) ?_
  refine er_callV (As := [.int (nI 2)]) d_Mo_arithmetic_2 k_Mo_arithmetic_245 hO rfl rfl rfl (Nat.le_of_ble_eq_true rfl) (by decide) (by decide) (mo_topE (h := b + 2) (n := 2) (v := (V (7 + b))) hl hO f3 f6 ht hfh (by omega) (by omega) (by omega) (by rw [show 5 * t + (b + 2) - 2 = 5 * t + (b) by omega]; exact hS0)) ?_
  show jl_E l G m_Mo_arithmetic (0, 0) 5 [some (.ref 22), some (.int (nI 6)), none, none] [.int (V (7 + b))] (σ) P
  refine er_istore_n d_Mo_arithmetic_5 (by decide) ?_
  show jl_E l G m_Mo_arithmetic (0, 0) 6 [some (.ref 22), some (.int (nI 6)), some (.int (V (7 + b))), none] [] (σ) P
  refine er_aload_n d_Mo_arithmetic_6 rfl ?_
  refine er_iconst ((nI (1))) d_Mo_arithmetic_7 (by decide) ?_
  refine er_callV (As := [.int (nI 1)]) d_Mo_arithmetic_8 k_Mo_arithmetic_245 hO rfl rfl rfl (Nat.le_of_ble_eq_true rfl) (by decide) (by decide) (mo_topE (h := b + 2) (n := 1) (v := (V (8 + b))) hl hO f3 f6 ht hfh (by omega) (by omega) (by omega) (by rw [show 5 * t + (b + 2) - 1 = 5 * t + (b + 1) by omega]; exact hS1)) ?_
  show jl_E l G m_Mo_arithmetic (0, 0) 11 [some (.ref 22), some (.int (nI 6)), some (.int (V (7 + b))), none] [.int (V (8 + b))] (σ) P
  refine er_istore_n d_Mo_arithmetic_11 (by decide) ?_
  show jl_E l G m_Mo_arithmetic (0, 0) 12 [some (.ref 22), some (.int (nI 6)), some (.int (V (7 + b))), some (.int (V (8 + b)))] [] (σ) P
  refine er_iload_n d_Mo_arithmetic_12 rfl ?_
  refine er_bipush ((nI (6))) d_Mo_arithmetic_13 (by decide) ?_
  refine er_icmp_ne 28 d_Mo_arithmetic_15 (by decide) (fun z => absurd rfl z) (fun _ => ?_)
  refine er_iload_n d_Mo_arithmetic_18 rfl ?_
  refine er_if_ne 28 d_Mo_arithmetic_19 (by decide) (fun z => absurd (hq0) z) (fun _ => ?_)
  refine er_aload_n d_Mo_arithmetic_22 rfl ?_
  refine er_iconst ((nI (1))) d_Mo_arithmetic_23 (by decide) ?_
  refine er_callVE (As := [.int (nI 1)]) d_Mo_arithmetic_24 k_Mo_arithmetic_248 hO rfl rfl rfl (Nat.le_of_ble_eq_true rfl) (by decide) (by decide) (mo_sn_1 hl (hn.le (Nat.zero_le _)) hw0 hu0 hcf ht htl hof (fun f1 fs1 σ e1 h1 => ⟨_, rfl, ?_⟩) (fun e1 σ h1 => ⟨_, rfl, ?_⟩))
  · skip
    show jl_E l G m_Mo_arithmetic (0, 0) 27 [some (.ref 22), some (.int (nI 6)), some (.int (V (7 + b))), some (.int (V (8 + b)))] [] (σ) P
    exact er_vret d_Mo_arithmetic_27 rfl (hG f1 fs1 _ e1 h1) (by decide) (by decide)
  · skip
    show jl_E l G m_Mo_arithmetic (0, 0) 27 [some (.ref 22), some (.int (nI 6)), some (.int (V (7 + b))), some (.int (V (8 + b)))] [] (σ) P
    exact er_vret d_Mo_arithmetic_27 rfl (hE e1 _ h1) (by decide) (by decide)
theorem d_Mo_castTo_24 : decode m_Mo_castTo.2.1 24 = .ok (.aload_n 0, 1) := by decide +kernel
theorem d_Mo_castTo_25 : decode m_Mo_castTo.2.1 25 = .ok (.iconst 4, 1) := by decide +kernel
theorem k_Mo_castTo_248 : jl_cv m_Mo_castTo m_Mo_signalNumber 248 1 = true := by decide +kernel
theorem d_Mo_castTo_26 : decode m_Mo_castTo.2.1 26 = .ok (.invokevirtual 248, 3) := by decide +kernel
theorem d_Mo_castTo_29 : decode m_Mo_castTo.2.1 29 = .ok (.goto 7, 3) := by decide +kernel
theorem mo_ca_x (hl : l.stackTraces = false) {P : jl_O → jl_S → Prop} {q k : Nat} (hn : NB σ0 σ (b + 1) t m (p) (b + 1) (R) (V) (fs) (H) fa vf wh wy hg ov oh dn an) (hw0 : MoW σ0 tb pr ow ft hs) (hu0 : MoM σ0 u1 u2 ur ul uo ua uc us ut uk) (hcf : ∀ j, j < 48 → us j < 1024 ∧ ut j < 24 ∧ uk j < 7) (ht : t < 12) (htl : fs.length = t) (hof : (∀ f ∈ (⟨m, p, R, V⟩ :: fs), f.m < 24 ∧ f.p < 24 ∧ ctM (D f.m) uc us ut uk f.m ∧ uc f.m ≤ 2)) (hb : b + 1 ≤ 5) (hq : q < H.n) (hn40 : H.n ≤ 40) (hv : V (7 + b) = nI q) (hso : H.so q = some k) (hk6 : k < 6) (hn6 : n < 6) (hd : dsc pr) (hab : ab pr n (some k) = false) (hG : ∀ f' fs' σ', rse pr D none (-1) (⟨m, p, R, V⟩ :: fs) = some (f' :: fs') → NB σ0 σ' (hgt f'.R) fs'.length f'.m f'.p (hgt f'.R) f'.R f'.V fs' H fa vf wh wy hg ov oh dn an → P (.inl none) σ') (hE : rse pr D none (-1) (⟨m, p, R, V⟩ :: fs) = none → ∀ σ', NQ σ0 σ' [] H fa vf wh wy hg (nI 4) (nI 0) dn an → P (.inl none) σ') : jl_mE l G m_Mo_castTo [.ref 22, .int (nI n)] σ P := by
  obtain ⟨fx, fp, fh, lw, lk, vl, vk, ks, kc, kv, lo, sk, hO, f1, f2, f3, f4, f5, f6, f7, hH, hB, hy1, hR1, hF⟩ := id hn
  obtain ⟨k1, k2, k3⟩ := id hH
  obtain ⟨⟨r1, r2⟩, hlo, hsk⟩ := id hR1
  obtain ⟨⟨hfx, hfp, hlc, hst⟩, hfh, hfs, hln⟩ := id hy1
  have hfx : fx t = m := hfx
  have hfp : fp t = p := hfp
  have hlc : ∀ k, k < 6 → lk (6 * t + k) = kdI (R k) ∧ (R k ≠ none → lw (6 * t + k) = V k) := hlc
  have hst : ∀ j, j < _ → vk (5 * t + j) = kdI (R (7 + j)) ∧ vl (5 * t + j) = V (7 + j) := hst
  have hw := hw0.fn hF
  obtain ⟨h23, h24, h25, h26, h27⟩ := id hw
  have hS0 : vl (5 * t + (b)) = V (7 + b) := by rw [show 7 + b = 7 + (b) by omega]; exact (hst _ (by omega)).2
  have hK0 : vk (5 * t + (b)) = kdI (R (7 + b)) := by rw [show 7 + b = 7 + (b) by omega]; exact (hst _ (by omega)).1
  refine jl_ofE (as := [.ref 22, .int (nI n)]) rfl (by decide) hl (jl_cc rfl (jl_cc rfl jl_ca)) (Nat.le_of_ble_eq_true rfl) ?_
  show jl_E l G m_Mo_castTo (0, 0) 0 [some (.ref 22), some (.int (nI n)), none] [] (σ) P
  refine er_aload_n d_Mo_castTo_0 rfl ?_
  refine er_iconst ((nI (1))) d_Mo_castTo_1 (by decide) ?_
  refine er_callV (As := [.int (nI 1)]) d_Mo_castTo_2 k_Mo_castTo_245 hO rfl rfl rfl (Nat.le_of_ble_eq_true rfl) (by decide) (by decide) (mo_topE (h := b + 1) (n := 1) (v := (nI (q))) hl hO f3 f6 ht hfh (by omega) (by omega) (by omega) (by rw [show 5 * t + (b + 1) - 1 = 5 * t + (b) by omega]; exact hS0.trans hv)) ?_
  show jl_E l G m_Mo_castTo (0, 0) 5 [some (.ref 22), some (.int (nI n)), none] [.int (nI q)] (σ) P
  refine er_istore_n d_Mo_castTo_5 (by decide) ?_
  show jl_E l G m_Mo_castTo (0, 0) 6 [some (.ref 22), some (.int (nI n)), some (.int (nI q))] [] (σ) P
  refine er_iload_n d_Mo_castTo_6 rfl ?_
  refine er_if_lt 32 d_Mo_castTo_7 (by decide) (fun z => absurd z (nI_pos (by omega))) (fun _ => ?_)
  refine er_aload_n d_Mo_castTo_10 rfl ?_
  refine er_iload_n d_Mo_castTo_11 rfl ?_
  refine er_aload_n d_Mo_castTo_12 rfl ?_
  refine er_getf d_Mo_castTo_13 f_Mo_castTo_99 hO rfl ?_
  refine er_iload_n d_Mo_castTo_16 rfl ?_
  refine er_ialdQ (v := (nI (k))) d_Mo_castTo_17 k1 (by omega) (by omega) ((hB q hq).1.trans (congrArg soI hso)) ?_
  refine er_callV (As := [.int (nI n), .int (nI k)]) d_Mo_castTo_18 k_Mo_castTo_136 hO rfl rfl rfl (Nat.le_of_ble_eq_true rfl) (by decide) (by decide) (mo_aboveF (h := n) (k := k) hl hO hw (by omega) hd hk6 hab) ?_
  show jl_E l G m_Mo_castTo (0, 0) 21 [some (.ref 22), some (.int (nI n)), some (.int (nI q))] [.int (nI 0)] (σ) P
  refine er_if_ne 32 d_Mo_castTo_21 (by decide) (fun z => absurd rfl z) (fun _ => ?_)
  refine er_aload_n d_Mo_castTo_24 rfl ?_
  refine er_iconst ((nI (4))) d_Mo_castTo_25 (by decide) ?_
  refine er_callVE (As := [.int (nI 4)]) d_Mo_castTo_26 k_Mo_castTo_248 hO rfl rfl rfl (Nat.le_of_ble_eq_true rfl) (by decide) (by decide) (mo_sn_4 hl (hn.le (Nat.zero_le _)) hw0 hu0 hcf ht htl hof (fun f1 fs1 σ e1 h1 => ⟨_, rfl, ?_⟩) (fun e1 σ h1 => ⟨_, rfl, ?_⟩))
  · skip
    show jl_E l G m_Mo_castTo (0, 0) 29 [some (.ref 22), some (.int (nI n)), some (.int (nI q))] [] (σ) P
    refine er_goto 36 d_Mo_castTo_29 (by decide) ?_
    exact er_vret d_Mo_castTo_36 rfl (hG f1 fs1 _ e1 h1) (by decide) (by decide)
  · skip
    show jl_E l G m_Mo_castTo (0, 0) 29 [some (.ref 22), some (.int (nI n)), some (.int (nI q))] [] (σ) P
    refine er_goto 36 d_Mo_castTo_29 (by decide) ?_
    exact er_vret d_Mo_castTo_36 rfl (hE e1 _ h1) (by decide) (by decide)
theorem d_Mo_rowOf_51 : decode m_Mo_rowOf.2.1 51 = .ok (.aload_n 0, 1) := by decide +kernel
theorem d_Mo_rowOf_52 : decode m_Mo_rowOf.2.1 52 = .ok (.iconst 2, 1) := by decide +kernel
theorem k_Mo_rowOf_248 : jl_cv m_Mo_rowOf m_Mo_signalNumber 248 1 = true := by decide +kernel
theorem d_Mo_rowOf_53 : decode m_Mo_rowOf.2.1 53 = .ok (.invokevirtual 248, 3) := by decide +kernel
theorem d_Mo_rowOf_56 : decode m_Mo_rowOf.2.1 56 = .ok (.return_, 1) := by decide +kernel
theorem mo_ro_20n (hl : l.stackTraces = false) {P : jl_O → jl_S → Prop}  (hn : NB σ0 σ (b + 2) t m (p) (b + 2) (R) (V) (fs) (H) fa vf wh wy hg ov oh dn an) (hw0 : MoW σ0 tb pr ow ft hs) (hu0 : MoM σ0 u1 u2 ur ul uo ua uc us ut uk) (hcf : ∀ j, j < 48 → us j < 1024 ∧ ut j < 24 ∧ uk j < 7) (ht : t < 12) (htl : fs.length = t) (hof : (∀ f ∈ (⟨m, p, R, V⟩ :: fs), f.m < 24 ∧ f.p < 24 ∧ ctM (D f.m) uc us ut uk f.m ∧ uc f.m ≤ 2)) (hb : b + 2 ≤ 5) (hv : V (7 + b) = -1) (hG : ∀ f' fs' σ', rse pr D none (-1) (⟨m, p, R, V⟩ :: fs) = some (f' :: fs') → NB σ0 σ' (hgt f'.R) fs'.length f'.m f'.p (hgt f'.R) f'.R f'.V fs' H fa vf wh wy hg ov oh dn an → P (.inl none) σ') (hE : rse pr D none (-1) (⟨m, p, R, V⟩ :: fs) = none → ∀ σ', NQ σ0 σ' [] H fa vf wh wy hg (nI 2) (nI 0) dn an → P (.inl none) σ') : jl_mE l G m_Mo_rowOf [.ref 22, .int (nI 20)] σ P := by
  obtain ⟨fx, fp, fh, lw, lk, vl, vk, ks, kc, kv, lo, sk, hO, f1, f2, f3, f4, f5, f6, f7, hH, hB, hy1, hR1, hF⟩ := id hn
  obtain ⟨k1, k2, k3⟩ := id hH
  obtain ⟨⟨r1, r2⟩, hlo, hsk⟩ := id hR1
  obtain ⟨⟨hfx, hfp, hlc, hst⟩, hfh, hfs, hln⟩ := id hy1
  have hfx : fx t = m := hfx
  have hfp : fp t = p := hfp
  have hlc : ∀ k, k < 6 → lk (6 * t + k) = kdI (R k) ∧ (R k ≠ none → lw (6 * t + k) = V k) := hlc
  have hst : ∀ j, j < _ → vk (5 * t + j) = kdI (R (7 + j)) ∧ vl (5 * t + j) = V (7 + j) := hst
  have hw := hw0.fn hF
  obtain ⟨h23, h24, h25, h26, h27⟩ := id hw
  have hS0 : vl (5 * t + (b)) = V (7 + b) := by rw [show 7 + b = 7 + (b) by omega]; exact (hst _ (by omega)).2
  have hK0 : vk (5 * t + (b)) = kdI (R (7 + b)) := by rw [show 7 + b = 7 + (b) by omega]; exact (hst _ (by omega)).1
  have hS1 : vl (5 * t + (b + 1)) = V (8 + b) := by rw [show 8 + b = 7 + (b + 1) by omega]; exact (hst _ (by omega)).2
  have hK1 : vk (5 * t + (b + 1)) = kdI (R (8 + b)) := by rw [show 8 + b = 7 + (b + 1) by omega]; exact (hst _ (by omega)).1
  refine jl_ofE (as := [.ref 22, .int (nI 20)]) rfl (by decide) hl (jl_cc rfl (jl_cc rfl jl_ca)) (Nat.le_of_ble_eq_true rfl) ?_
  show jl_E l G m_Mo_rowOf (0, 0) 0 [some (.ref 22), some (.int (nI 20)), none, none, none, none] [] (σ) P
  refine er_iload_n d_Mo_rowOf_0 rfl ?_
  refine er_bipush ((nI (20))) d_Mo_rowOf_1 (by decide) ?_
  refine er_icmp_ne 10 d_Mo_rowOf_3 (by decide) (fun z => absurd rfl z) (fun _ => ?_)
  refine er_iconst ((nI (2))) d_Mo_rowOf_6 (by decide) ?_
  refine er_goto 21 d_Mo_rowOf_7 (by decide) ?_
  refine er_istore_n d_Mo_rowOf_21 (by decide) ?_
  show jl_E l G m_Mo_rowOf (0, 0) 22 [some (.ref 22), some (.int (nI 20)), some (.int (nI 2)), none, none, none] [] (σ) P
  refine er_aload_n d_Mo_rowOf_22 rfl ?_
  refine er_iload_n d_Mo_rowOf_23 rfl ?_
  refine er_callV (As := [.int (nI 2)]) d_Mo_rowOf_24 k_Mo_rowOf_245 hO rfl rfl rfl (Nat.le_of_ble_eq_true rfl) (by decide) (by decide) (mo_topE (h := b + 2) (n := 2) (v := (-1)) hl hO f3 f6 ht hfh (by omega) (by omega) (by omega) (by rw [show 5 * t + (b + 2) - 2 = 5 * t + (b) by omega]; exact hS0.trans hv)) ?_
  show jl_E l G m_Mo_rowOf (0, 0) 27 [some (.ref 22), some (.int (nI 20)), some (.int (nI 2)), none, none, none] [.int (-1)] (σ) P
  refine er_istore_n d_Mo_rowOf_27 (by decide) ?_
  show jl_E l G m_Mo_rowOf (0, 0) 28 [some (.ref 22), some (.int (nI 20)), some (.int (nI 2)), some (.int (-1)), none, none] [] (σ) P
  refine er_iload_n d_Mo_rowOf_28 rfl ?_
  refine er_bipush ((nI (22))) d_Mo_rowOf_29 (by decide) ?_
  refine er_icmp_ne 38 d_Mo_rowOf_31 (by decide) (fun _ => ?_) (fun z => absurd z (by decide))
  refine er_aload_n d_Mo_rowOf_38 rfl ?_
  refine er_iload_n d_Mo_rowOf_39 rfl ?_
  refine er_iconst ((nI (1))) d_Mo_rowOf_40 (by decide) ?_
  refine er_isubN d_Mo_rowOf_41 (by omega) ?_
  rw [show (2) - (1) = 1 by omega]
  show jl_E l G m_Mo_rowOf (0, 0) 42 [some (.ref 22), some (.int (nI 20)), some (.int (nI 2)), some (.int (-1)), none, none] [.int (nI 1), .ref 22] (σ) P
  refine er_callV (As := [.int (nI 1)]) d_Mo_rowOf_42 k_Mo_rowOf_245 hO rfl rfl rfl (Nat.le_of_ble_eq_true rfl) (by decide) (by decide) (mo_topE (h := b + 2) (n := 1) (v := (V (8 + b))) hl hO f3 f6 ht hfh (by omega) (by omega) (by omega) (by rw [show 5 * t + (b + 2) - 1 = 5 * t + (b + 1) by omega]; exact hS1)) ?_
  show jl_E l G m_Mo_rowOf (0, 0) 45 [some (.ref 22), some (.int (nI 20)), some (.int (nI 2)), some (.int (-1)), none, none] [.int (V (8 + b))] (σ) P
  refine er_istore d_Mo_rowOf_45 (by decide) ?_
  show jl_E l G m_Mo_rowOf (0, 0) 47 [some (.ref 22), some (.int (nI 20)), some (.int (nI 2)), some (.int (-1)), some (.int (V (8 + b))), none] [] (σ) P
  refine er_iload_n d_Mo_rowOf_47 rfl ?_
  refine er_if_ge 57 d_Mo_rowOf_48 (by decide) (fun z => absurd z (by decide)) (fun _ => ?_)
  refine er_aload_n d_Mo_rowOf_51 rfl ?_
  refine er_iconst ((nI (2))) d_Mo_rowOf_52 (by decide) ?_
  refine er_callVE (As := [.int (nI 2)]) d_Mo_rowOf_53 k_Mo_rowOf_248 hO rfl rfl rfl (Nat.le_of_ble_eq_true rfl) (by decide) (by decide) (mo_sn_2 hl (hn.le (Nat.zero_le _)) hw0 hu0 hcf ht htl hof (fun f1 fs1 σ e1 h1 => ⟨_, rfl, ?_⟩) (fun e1 σ h1 => ⟨_, rfl, ?_⟩))
  · skip
    show jl_E l G m_Mo_rowOf (0, 0) 56 [some (.ref 22), some (.int (nI 20)), some (.int (nI 2)), some (.int (-1)), some (.int (V (8 + b))), none] [] (σ) P
    exact er_vret d_Mo_rowOf_56 rfl (hG f1 fs1 _ e1 h1) (by decide) (by decide)
  · skip
    show jl_E l G m_Mo_rowOf (0, 0) 56 [some (.ref 22), some (.int (nI 20)), some (.int (nI 2)), some (.int (-1)), some (.int (V (8 + b))), none] [] (σ) P
    exact er_vret d_Mo_rowOf_56 rfl (hE e1 _ h1) (by decide) (by decide)
theorem d_Mo_rowOf_78 : decode m_Mo_rowOf.2.1 78 = .ok (.aload_n 0, 1) := by decide +kernel
theorem d_Mo_rowOf_79 : decode m_Mo_rowOf.2.1 79 = .ok (.iconst 3, 1) := by decide +kernel
theorem d_Mo_rowOf_80 : decode m_Mo_rowOf.2.1 80 = .ok (.invokevirtual 248, 3) := by decide +kernel
theorem d_Mo_rowOf_83 : decode m_Mo_rowOf.2.1 83 = .ok (.return_, 1) := by decide +kernel
theorem mo_ro_20b (hl : l.stackTraces = false) {P : jl_O → jl_S → Prop} {q : Nat} (hn : NB σ0 σ (b + 2) t m (p) (b + 2) (R) (V) (fs) (H) fa vf wh wy hg ov oh dn an) (hw0 : MoW σ0 tb pr ow ft hs) (hu0 : MoM σ0 u1 u2 ur ul uo ua uc us ut uk) (hcf : ∀ j, j < 48 → us j < 1024 ∧ ut j < 24 ∧ uk j < 7) (ht : t < 12) (htl : fs.length = t) (hof : (∀ f ∈ (⟨m, p, R, V⟩ :: fs), f.m < 24 ∧ f.p < 24 ∧ ctM (D f.m) uc us ut uk f.m ∧ uc f.m ≤ 2)) (hb : b + 2 ≤ 5) (hq : q < H.n) (hn40 : H.n ≤ 40) (hv : V (7 + b) = nI q) (hout : outB (V (8 + b)) (nI (H.sz q)) = true) (hG : ∀ f' fs' σ', rse pr D none (-1) (⟨m, p, R, V⟩ :: fs) = some (f' :: fs') → NB σ0 σ' (hgt f'.R) fs'.length f'.m f'.p (hgt f'.R) f'.R f'.V fs' H fa vf wh wy hg ov oh dn an → P (.inl none) σ') (hE : rse pr D none (-1) (⟨m, p, R, V⟩ :: fs) = none → ∀ σ', NQ σ0 σ' [] H fa vf wh wy hg (nI 3) (nI 0) dn an → P (.inl none) σ') : jl_mE l G m_Mo_rowOf [.ref 22, .int (nI 20)] σ P := by
  obtain ⟨fx, fp, fh, lw, lk, vl, vk, ks, kc, kv, lo, sk, hO, f1, f2, f3, f4, f5, f6, f7, hH, hB, hy1, hR1, hF⟩ := id hn
  obtain ⟨k1, k2, k3⟩ := id hH
  obtain ⟨⟨r1, r2⟩, hlo, hsk⟩ := id hR1
  obtain ⟨⟨hfx, hfp, hlc, hst⟩, hfh, hfs, hln⟩ := id hy1
  have hfx : fx t = m := hfx
  have hfp : fp t = p := hfp
  have hlc : ∀ k, k < 6 → lk (6 * t + k) = kdI (R k) ∧ (R k ≠ none → lw (6 * t + k) = V k) := hlc
  have hst : ∀ j, j < _ → vk (5 * t + j) = kdI (R (7 + j)) ∧ vl (5 * t + j) = V (7 + j) := hst
  have hw := hw0.fn hF
  obtain ⟨h23, h24, h25, h26, h27⟩ := id hw
  have hS0 : vl (5 * t + (b)) = V (7 + b) := by rw [show 7 + b = 7 + (b) by omega]; exact (hst _ (by omega)).2
  have hK0 : vk (5 * t + (b)) = kdI (R (7 + b)) := by rw [show 7 + b = 7 + (b) by omega]; exact (hst _ (by omega)).1
  have hS1 : vl (5 * t + (b + 1)) = V (8 + b) := by rw [show 8 + b = 7 + (b + 1) by omega]; exact (hst _ (by omega)).2
  have hK1 : vk (5 * t + (b + 1)) = kdI (R (8 + b)) := by rw [show 8 + b = 7 + (b + 1) by omega]; exact (hst _ (by omega)).1
  refine jl_ofE (as := [.ref 22, .int (nI 20)]) rfl (by decide) hl (jl_cc rfl (jl_cc rfl jl_ca)) (Nat.le_of_ble_eq_true rfl) ?_
  show jl_E l G m_Mo_rowOf (0, 0) 0 [some (.ref 22), some (.int (nI 20)), none, none, none, none] [] (σ) P
  refine er_iload_n d_Mo_rowOf_0 rfl ?_
  refine er_bipush ((nI (20))) d_Mo_rowOf_1 (by decide) ?_
  refine er_icmp_ne 10 d_Mo_rowOf_3 (by decide) (fun z => absurd rfl z) (fun _ => ?_)
  refine er_iconst ((nI (2))) d_Mo_rowOf_6 (by decide) ?_
  refine er_goto 21 d_Mo_rowOf_7 (by decide) ?_
  refine er_istore_n d_Mo_rowOf_21 (by decide) ?_
  show jl_E l G m_Mo_rowOf (0, 0) 22 [some (.ref 22), some (.int (nI 20)), some (.int (nI 2)), none, none, none] [] (σ) P
  refine er_aload_n d_Mo_rowOf_22 rfl ?_
  refine er_iload_n d_Mo_rowOf_23 rfl ?_
  refine er_callV (As := [.int (nI 2)]) d_Mo_rowOf_24 k_Mo_rowOf_245 hO rfl rfl rfl (Nat.le_of_ble_eq_true rfl) (by decide) (by decide) (mo_topE (h := b + 2) (n := 2) (v := (nI (q))) hl hO f3 f6 ht hfh (by omega) (by omega) (by omega) (by rw [show 5 * t + (b + 2) - 2 = 5 * t + (b) by omega]; exact hS0.trans hv)) ?_
  show jl_E l G m_Mo_rowOf (0, 0) 27 [some (.ref 22), some (.int (nI 20)), some (.int (nI 2)), none, none, none] [.int (nI q)] (σ) P
  refine er_istore_n d_Mo_rowOf_27 (by decide) ?_
  show jl_E l G m_Mo_rowOf (0, 0) 28 [some (.ref 22), some (.int (nI 20)), some (.int (nI 2)), some (.int (nI q)), none, none] [] (σ) P
  refine er_iload_n d_Mo_rowOf_28 rfl ?_
  refine er_bipush ((nI (22))) d_Mo_rowOf_29 (by decide) ?_
  refine er_icmp_ne 38 d_Mo_rowOf_31 (by decide) (fun _ => ?_) (fun z => absurd z (by decide))
  refine er_aload_n d_Mo_rowOf_38 rfl ?_
  refine er_iload_n d_Mo_rowOf_39 rfl ?_
  refine er_iconst ((nI (1))) d_Mo_rowOf_40 (by decide) ?_
  refine er_isubN d_Mo_rowOf_41 (by omega) ?_
  rw [show (2) - (1) = 1 by omega]
  show jl_E l G m_Mo_rowOf (0, 0) 42 [some (.ref 22), some (.int (nI 20)), some (.int (nI 2)), some (.int (nI q)), none, none] [.int (nI 1), .ref 22] (σ) P
  refine er_callV (As := [.int (nI 1)]) d_Mo_rowOf_42 k_Mo_rowOf_245 hO rfl rfl rfl (Nat.le_of_ble_eq_true rfl) (by decide) (by decide) (mo_topE (h := b + 2) (n := 1) (v := (V (8 + b))) hl hO f3 f6 ht hfh (by omega) (by omega) (by omega) (by rw [show 5 * t + (b + 2) - 1 = 5 * t + (b + 1) by omega]; exact hS1)) ?_
  show jl_E l G m_Mo_rowOf (0, 0) 45 [some (.ref 22), some (.int (nI 20)), some (.int (nI 2)), some (.int (nI q)), none, none] [.int (V (8 + b))] (σ) P
  refine er_istore d_Mo_rowOf_45 (by decide) ?_
  show jl_E l G m_Mo_rowOf (0, 0) 47 [some (.ref 22), some (.int (nI 20)), some (.int (nI 2)), some (.int (nI q)), some (.int (V (8 + b))), none] [] (σ) P
  refine er_iload_n d_Mo_rowOf_47 rfl ?_
  refine er_if_ge 57 d_Mo_rowOf_48 (by decide) (fun _ => ?_) (fun z => absurd (Int32.not_lt.mp (nI_pos (by omega))) z)
  refine er_iload_n d_Mo_rowOf_57 rfl ?_
  refine er_bipush ((nI (22))) d_Mo_rowOf_58 (by decide) ?_
  refine er_icmp_eq 84 d_Mo_rowOf_60 (by decide) (fun z => absurd z (by decide)) (fun _ => ?_)
  refine er_aload_n d_Mo_rowOf_63 rfl ?_
  refine er_iload d_Mo_rowOf_64 rfl ?_
  refine er_aload_n d_Mo_rowOf_66 rfl ?_
  refine er_getf d_Mo_rowOf_67 f_Mo_rowOf_102 hO rfl ?_
  refine er_iload_n d_Mo_rowOf_70 rfl ?_
  refine er_ialdQ (v := (nI (H.sz q))) d_Mo_rowOf_71 k2 (by omega) (by omega) (congrArg nI (hB q hq).2.1) ?_
  refine er_callV (As := [.int (V (8 + b)), .int (nI (H.sz q))]) d_Mo_rowOf_72 k_Mo_rowOf_114 hO rfl rfl rfl (Nat.le_of_ble_eq_true rfl) (by decide) (by decide) (mo_out1 (v := V (8 + b)) (n := nI (H.sz q)) hl hO hw hout) ?_
  show jl_E l G m_Mo_rowOf (0, 0) 75 [some (.ref 22), some (.int (nI 20)), some (.int (nI 2)), some (.int (nI q)), some (.int (V (8 + b))), none] [.int (nI 1)] (σ) P
  refine er_if_eq 84 d_Mo_rowOf_75 (by decide) (fun z => absurd z (by decide)) (fun _ => ?_)
  refine er_aload_n d_Mo_rowOf_78 rfl ?_
  refine er_iconst ((nI (3))) d_Mo_rowOf_79 (by decide) ?_
  refine er_callVE (As := [.int (nI 3)]) d_Mo_rowOf_80 k_Mo_rowOf_248 hO rfl rfl rfl (Nat.le_of_ble_eq_true rfl) (by decide) (by decide) (mo_sn_3 hl (hn.le (Nat.zero_le _)) hw0 hu0 hcf ht htl hof (fun f1 fs1 σ e1 h1 => ⟨_, rfl, ?_⟩) (fun e1 σ h1 => ⟨_, rfl, ?_⟩))
  · skip
    show jl_E l G m_Mo_rowOf (0, 0) 83 [some (.ref 22), some (.int (nI 20)), some (.int (nI 2)), some (.int (nI q)), some (.int (V (8 + b))), none] [] (σ) P
    exact er_vret d_Mo_rowOf_83 rfl (hG f1 fs1 _ e1 h1) (by decide) (by decide)
  · skip
    show jl_E l G m_Mo_rowOf (0, 0) 83 [some (.ref 22), some (.int (nI 20)), some (.int (nI 2)), some (.int (nI q)), some (.int (V (8 + b))), none] [] (σ) P
    exact er_vret d_Mo_rowOf_83 rfl (hE e1 _ h1) (by decide) (by decide)
theorem mo_ro_21n (hl : l.stackTraces = false) {P : jl_O → jl_S → Prop}  (hn : NB σ0 σ (b + 3) t m (p) (b + 3) (R) (V) (fs) (H) fa vf wh wy hg ov oh dn an) (hw0 : MoW σ0 tb pr ow ft hs) (hu0 : MoM σ0 u1 u2 ur ul uo ua uc us ut uk) (hcf : ∀ j, j < 48 → us j < 1024 ∧ ut j < 24 ∧ uk j < 7) (ht : t < 12) (htl : fs.length = t) (hof : (∀ f ∈ (⟨m, p, R, V⟩ :: fs), f.m < 24 ∧ f.p < 24 ∧ ctM (D f.m) uc us ut uk f.m ∧ uc f.m ≤ 2)) (hb : b + 3 ≤ 5) (hv : V (7 + b) = -1) (hG : ∀ f' fs' σ', rse pr D none (-1) (⟨m, p, R, V⟩ :: fs) = some (f' :: fs') → NB σ0 σ' (hgt f'.R) fs'.length f'.m f'.p (hgt f'.R) f'.R f'.V fs' H fa vf wh wy hg ov oh dn an → P (.inl none) σ') (hE : rse pr D none (-1) (⟨m, p, R, V⟩ :: fs) = none → ∀ σ', NQ σ0 σ' [] H fa vf wh wy hg (nI 2) (nI 0) dn an → P (.inl none) σ') : jl_mE l G m_Mo_rowOf [.ref 22, .int (nI 21)] σ P := by
  obtain ⟨fx, fp, fh, lw, lk, vl, vk, ks, kc, kv, lo, sk, hO, f1, f2, f3, f4, f5, f6, f7, hH, hB, hy1, hR1, hF⟩ := id hn
  obtain ⟨k1, k2, k3⟩ := id hH
  obtain ⟨⟨r1, r2⟩, hlo, hsk⟩ := id hR1
  obtain ⟨⟨hfx, hfp, hlc, hst⟩, hfh, hfs, hln⟩ := id hy1
  have hfx : fx t = m := hfx
  have hfp : fp t = p := hfp
  have hlc : ∀ k, k < 6 → lk (6 * t + k) = kdI (R k) ∧ (R k ≠ none → lw (6 * t + k) = V k) := hlc
  have hst : ∀ j, j < _ → vk (5 * t + j) = kdI (R (7 + j)) ∧ vl (5 * t + j) = V (7 + j) := hst
  have hw := hw0.fn hF
  obtain ⟨h23, h24, h25, h26, h27⟩ := id hw
  have hS0 : vl (5 * t + (b)) = V (7 + b) := by rw [show 7 + b = 7 + (b) by omega]; exact (hst _ (by omega)).2
  have hK0 : vk (5 * t + (b)) = kdI (R (7 + b)) := by rw [show 7 + b = 7 + (b) by omega]; exact (hst _ (by omega)).1
  have hS1 : vl (5 * t + (b + 1)) = V (8 + b) := by rw [show 8 + b = 7 + (b + 1) by omega]; exact (hst _ (by omega)).2
  have hK1 : vk (5 * t + (b + 1)) = kdI (R (8 + b)) := by rw [show 8 + b = 7 + (b + 1) by omega]; exact (hst _ (by omega)).1
  have hS2 : vl (5 * t + (b + 2)) = V (9 + b) := by rw [show 9 + b = 7 + (b + 2) by omega]; exact (hst _ (by omega)).2
  have hK2 : vk (5 * t + (b + 2)) = kdI (R (9 + b)) := by rw [show 9 + b = 7 + (b + 2) by omega]; exact (hst _ (by omega)).1
  refine jl_ofE (as := [.ref 22, .int (nI 21)]) rfl (by decide) hl (jl_cc rfl (jl_cc rfl jl_ca)) (Nat.le_of_ble_eq_true rfl) ?_
  show jl_E l G m_Mo_rowOf (0, 0) 0 [some (.ref 22), some (.int (nI 21)), none, none, none, none] [] (σ) P
  refine er_iload_n d_Mo_rowOf_0 rfl ?_
  refine er_bipush ((nI (20))) d_Mo_rowOf_1 (by decide) ?_
  refine er_icmp_ne 10 d_Mo_rowOf_3 (by decide) (fun _ => ?_) (fun z => absurd z (by decide))
  refine er_iload_n d_Mo_rowOf_10 rfl ?_
  refine er_bipush ((nI (21))) d_Mo_rowOf_11 (by decide) ?_
  refine er_icmp_ne 20 d_Mo_rowOf_13 (by decide) (fun z => absurd rfl z) (fun _ => ?_)
  refine er_iconst ((nI (3))) d_Mo_rowOf_16 (by decide) ?_
  refine er_goto 21 d_Mo_rowOf_17 (by decide) ?_
  refine er_istore_n d_Mo_rowOf_21 (by decide) ?_
  show jl_E l G m_Mo_rowOf (0, 0) 22 [some (.ref 22), some (.int (nI 21)), some (.int (nI 3)), none, none, none] [] (σ) P
  refine er_aload_n d_Mo_rowOf_22 rfl ?_
  refine er_iload_n d_Mo_rowOf_23 rfl ?_
  refine er_callV (As := [.int (nI 3)]) d_Mo_rowOf_24 k_Mo_rowOf_245 hO rfl rfl rfl (Nat.le_of_ble_eq_true rfl) (by decide) (by decide) (mo_topE (h := b + 3) (n := 3) (v := (-1)) hl hO f3 f6 ht hfh (by omega) (by omega) (by omega) (by rw [show 5 * t + (b + 3) - 3 = 5 * t + (b) by omega]; exact hS0.trans hv)) ?_
  show jl_E l G m_Mo_rowOf (0, 0) 27 [some (.ref 22), some (.int (nI 21)), some (.int (nI 3)), none, none, none] [.int (-1)] (σ) P
  refine er_istore_n d_Mo_rowOf_27 (by decide) ?_
  show jl_E l G m_Mo_rowOf (0, 0) 28 [some (.ref 22), some (.int (nI 21)), some (.int (nI 3)), some (.int (-1)), none, none] [] (σ) P
  refine er_iload_n d_Mo_rowOf_28 rfl ?_
  refine er_bipush ((nI (22))) d_Mo_rowOf_29 (by decide) ?_
  refine er_icmp_ne 38 d_Mo_rowOf_31 (by decide) (fun _ => ?_) (fun z => absurd z (by decide))
  refine er_aload_n d_Mo_rowOf_38 rfl ?_
  refine er_iload_n d_Mo_rowOf_39 rfl ?_
  refine er_iconst ((nI (1))) d_Mo_rowOf_40 (by decide) ?_
  refine er_isubN d_Mo_rowOf_41 (by omega) ?_
  rw [show (3) - (1) = 2 by omega]
  show jl_E l G m_Mo_rowOf (0, 0) 42 [some (.ref 22), some (.int (nI 21)), some (.int (nI 3)), some (.int (-1)), none, none] [.int (nI 2), .ref 22] (σ) P
  refine er_callV (As := [.int (nI 2)]) d_Mo_rowOf_42 k_Mo_rowOf_245 hO rfl rfl rfl (Nat.le_of_ble_eq_true rfl) (by decide) (by decide) (mo_topE (h := b + 3) (n := 2) (v := (V (8 + b))) hl hO f3 f6 ht hfh (by omega) (by omega) (by omega) (by rw [show 5 * t + (b + 3) - 2 = 5 * t + (b + 1) by omega]; exact hS1)) ?_
  show jl_E l G m_Mo_rowOf (0, 0) 45 [some (.ref 22), some (.int (nI 21)), some (.int (nI 3)), some (.int (-1)), none, none] [.int (V (8 + b))] (σ) P
  refine er_istore d_Mo_rowOf_45 (by decide) ?_
  show jl_E l G m_Mo_rowOf (0, 0) 47 [some (.ref 22), some (.int (nI 21)), some (.int (nI 3)), some (.int (-1)), some (.int (V (8 + b))), none] [] (σ) P
  refine er_iload_n d_Mo_rowOf_47 rfl ?_
  refine er_if_ge 57 d_Mo_rowOf_48 (by decide) (fun z => absurd z (by decide)) (fun _ => ?_)
  refine er_aload_n d_Mo_rowOf_51 rfl ?_
  refine er_iconst ((nI (2))) d_Mo_rowOf_52 (by decide) ?_
  refine er_callVE (As := [.int (nI 2)]) d_Mo_rowOf_53 k_Mo_rowOf_248 hO rfl rfl rfl (Nat.le_of_ble_eq_true rfl) (by decide) (by decide) (mo_sn_2 hl (hn.le (Nat.zero_le _)) hw0 hu0 hcf ht htl hof (fun f1 fs1 σ e1 h1 => ⟨_, rfl, ?_⟩) (fun e1 σ h1 => ⟨_, rfl, ?_⟩))
  · skip
    show jl_E l G m_Mo_rowOf (0, 0) 56 [some (.ref 22), some (.int (nI 21)), some (.int (nI 3)), some (.int (-1)), some (.int (V (8 + b))), none] [] (σ) P
    exact er_vret d_Mo_rowOf_56 rfl (hG f1 fs1 _ e1 h1) (by decide) (by decide)
  · skip
    show jl_E l G m_Mo_rowOf (0, 0) 56 [some (.ref 22), some (.int (nI 21)), some (.int (nI 3)), some (.int (-1)), some (.int (V (8 + b))), none] [] (σ) P
    exact er_vret d_Mo_rowOf_56 rfl (hE e1 _ h1) (by decide) (by decide)
theorem mo_ro_21b (hl : l.stackTraces = false) {P : jl_O → jl_S → Prop} {q : Nat} (hn : NB σ0 σ (b + 3) t m (p) (b + 3) (R) (V) (fs) (H) fa vf wh wy hg ov oh dn an) (hw0 : MoW σ0 tb pr ow ft hs) (hu0 : MoM σ0 u1 u2 ur ul uo ua uc us ut uk) (hcf : ∀ j, j < 48 → us j < 1024 ∧ ut j < 24 ∧ uk j < 7) (ht : t < 12) (htl : fs.length = t) (hof : (∀ f ∈ (⟨m, p, R, V⟩ :: fs), f.m < 24 ∧ f.p < 24 ∧ ctM (D f.m) uc us ut uk f.m ∧ uc f.m ≤ 2)) (hb : b + 3 ≤ 5) (hq : q < H.n) (hn40 : H.n ≤ 40) (hv : V (7 + b) = nI q) (hout : outB (V (8 + b)) (nI (H.sz q)) = true) (hG : ∀ f' fs' σ', rse pr D none (-1) (⟨m, p, R, V⟩ :: fs) = some (f' :: fs') → NB σ0 σ' (hgt f'.R) fs'.length f'.m f'.p (hgt f'.R) f'.R f'.V fs' H fa vf wh wy hg ov oh dn an → P (.inl none) σ') (hE : rse pr D none (-1) (⟨m, p, R, V⟩ :: fs) = none → ∀ σ', NQ σ0 σ' [] H fa vf wh wy hg (nI 3) (nI 0) dn an → P (.inl none) σ') : jl_mE l G m_Mo_rowOf [.ref 22, .int (nI 21)] σ P := by
  obtain ⟨fx, fp, fh, lw, lk, vl, vk, ks, kc, kv, lo, sk, hO, f1, f2, f3, f4, f5, f6, f7, hH, hB, hy1, hR1, hF⟩ := id hn
  obtain ⟨k1, k2, k3⟩ := id hH
  obtain ⟨⟨r1, r2⟩, hlo, hsk⟩ := id hR1
  obtain ⟨⟨hfx, hfp, hlc, hst⟩, hfh, hfs, hln⟩ := id hy1
  have hfx : fx t = m := hfx
  have hfp : fp t = p := hfp
  have hlc : ∀ k, k < 6 → lk (6 * t + k) = kdI (R k) ∧ (R k ≠ none → lw (6 * t + k) = V k) := hlc
  have hst : ∀ j, j < _ → vk (5 * t + j) = kdI (R (7 + j)) ∧ vl (5 * t + j) = V (7 + j) := hst
  have hw := hw0.fn hF
  obtain ⟨h23, h24, h25, h26, h27⟩ := id hw
  have hS0 : vl (5 * t + (b)) = V (7 + b) := by rw [show 7 + b = 7 + (b) by omega]; exact (hst _ (by omega)).2
  have hK0 : vk (5 * t + (b)) = kdI (R (7 + b)) := by rw [show 7 + b = 7 + (b) by omega]; exact (hst _ (by omega)).1
  have hS1 : vl (5 * t + (b + 1)) = V (8 + b) := by rw [show 8 + b = 7 + (b + 1) by omega]; exact (hst _ (by omega)).2
  have hK1 : vk (5 * t + (b + 1)) = kdI (R (8 + b)) := by rw [show 8 + b = 7 + (b + 1) by omega]; exact (hst _ (by omega)).1
  have hS2 : vl (5 * t + (b + 2)) = V (9 + b) := by rw [show 9 + b = 7 + (b + 2) by omega]; exact (hst _ (by omega)).2
  have hK2 : vk (5 * t + (b + 2)) = kdI (R (9 + b)) := by rw [show 9 + b = 7 + (b + 2) by omega]; exact (hst _ (by omega)).1
  refine jl_ofE (as := [.ref 22, .int (nI 21)]) rfl (by decide) hl (jl_cc rfl (jl_cc rfl jl_ca)) (Nat.le_of_ble_eq_true rfl) ?_
  show jl_E l G m_Mo_rowOf (0, 0) 0 [some (.ref 22), some (.int (nI 21)), none, none, none, none] [] (σ) P
  refine er_iload_n d_Mo_rowOf_0 rfl ?_
  refine er_bipush ((nI (20))) d_Mo_rowOf_1 (by decide) ?_
  refine er_icmp_ne 10 d_Mo_rowOf_3 (by decide) (fun _ => ?_) (fun z => absurd z (by decide))
  refine er_iload_n d_Mo_rowOf_10 rfl ?_
  refine er_bipush ((nI (21))) d_Mo_rowOf_11 (by decide) ?_
  refine er_icmp_ne 20 d_Mo_rowOf_13 (by decide) (fun z => absurd rfl z) (fun _ => ?_)
  refine er_iconst ((nI (3))) d_Mo_rowOf_16 (by decide) ?_
  refine er_goto 21 d_Mo_rowOf_17 (by decide) ?_
  refine er_istore_n d_Mo_rowOf_21 (by decide) ?_
  show jl_E l G m_Mo_rowOf (0, 0) 22 [some (.ref 22), some (.int (nI 21)), some (.int (nI 3)), none, none, none] [] (σ) P
  refine er_aload_n d_Mo_rowOf_22 rfl ?_
  refine er_iload_n d_Mo_rowOf_23 rfl ?_
  refine er_callV (As := [.int (nI 3)]) d_Mo_rowOf_24 k_Mo_rowOf_245 hO rfl rfl rfl (Nat.le_of_ble_eq_true rfl) (by decide) (by decide) (mo_topE (h := b + 3) (n := 3) (v := (nI (q))) hl hO f3 f6 ht hfh (by omega) (by omega) (by omega) (by rw [show 5 * t + (b + 3) - 3 = 5 * t + (b) by omega]; exact hS0.trans hv)) ?_
  show jl_E l G m_Mo_rowOf (0, 0) 27 [some (.ref 22), some (.int (nI 21)), some (.int (nI 3)), none, none, none] [.int (nI q)] (σ) P
  refine er_istore_n d_Mo_rowOf_27 (by decide) ?_
  show jl_E l G m_Mo_rowOf (0, 0) 28 [some (.ref 22), some (.int (nI 21)), some (.int (nI 3)), some (.int (nI q)), none, none] [] (σ) P
  refine er_iload_n d_Mo_rowOf_28 rfl ?_
  refine er_bipush ((nI (22))) d_Mo_rowOf_29 (by decide) ?_
  refine er_icmp_ne 38 d_Mo_rowOf_31 (by decide) (fun _ => ?_) (fun z => absurd z (by decide))
  refine er_aload_n d_Mo_rowOf_38 rfl ?_
  refine er_iload_n d_Mo_rowOf_39 rfl ?_
  refine er_iconst ((nI (1))) d_Mo_rowOf_40 (by decide) ?_
  refine er_isubN d_Mo_rowOf_41 (by omega) ?_
  rw [show (3) - (1) = 2 by omega]
  show jl_E l G m_Mo_rowOf (0, 0) 42 [some (.ref 22), some (.int (nI 21)), some (.int (nI 3)), some (.int (nI q)), none, none] [.int (nI 2), .ref 22] (σ) P
  refine er_callV (As := [.int (nI 2)]) d_Mo_rowOf_42 k_Mo_rowOf_245 hO rfl rfl rfl (Nat.le_of_ble_eq_true rfl) (by decide) (by decide) (mo_topE (h := b + 3) (n := 2) (v := (V (8 + b))) hl hO f3 f6 ht hfh (by omega) (by omega) (by omega) (by rw [show 5 * t + (b + 3) - 2 = 5 * t + (b + 1) by omega]; exact hS1)) ?_
  show jl_E l G m_Mo_rowOf (0, 0) 45 [some (.ref 22), some (.int (nI 21)), some (.int (nI 3)), some (.int (nI q)), none, none] [.int (V (8 + b))] (σ) P
  refine er_istore d_Mo_rowOf_45 (by decide) ?_
  show jl_E l G m_Mo_rowOf (0, 0) 47 [some (.ref 22), some (.int (nI 21)), some (.int (nI 3)), some (.int (nI q)), some (.int (V (8 + b))), none] [] (σ) P
  refine er_iload_n d_Mo_rowOf_47 rfl ?_
  refine er_if_ge 57 d_Mo_rowOf_48 (by decide) (fun _ => ?_) (fun z => absurd (Int32.not_lt.mp (nI_pos (by omega))) z)
  refine er_iload_n d_Mo_rowOf_57 rfl ?_
  refine er_bipush ((nI (22))) d_Mo_rowOf_58 (by decide) ?_
  refine er_icmp_eq 84 d_Mo_rowOf_60 (by decide) (fun z => absurd z (by decide)) (fun _ => ?_)
  refine er_aload_n d_Mo_rowOf_63 rfl ?_
  refine er_iload d_Mo_rowOf_64 rfl ?_
  refine er_aload_n d_Mo_rowOf_66 rfl ?_
  refine er_getf d_Mo_rowOf_67 f_Mo_rowOf_102 hO rfl ?_
  refine er_iload_n d_Mo_rowOf_70 rfl ?_
  refine er_ialdQ (v := (nI (H.sz q))) d_Mo_rowOf_71 k2 (by omega) (by omega) (congrArg nI (hB q hq).2.1) ?_
  refine er_callV (As := [.int (V (8 + b)), .int (nI (H.sz q))]) d_Mo_rowOf_72 k_Mo_rowOf_114 hO rfl rfl rfl (Nat.le_of_ble_eq_true rfl) (by decide) (by decide) (mo_out1 (v := V (8 + b)) (n := nI (H.sz q)) hl hO hw hout) ?_
  show jl_E l G m_Mo_rowOf (0, 0) 75 [some (.ref 22), some (.int (nI 21)), some (.int (nI 3)), some (.int (nI q)), some (.int (V (8 + b))), none] [.int (nI 1)] (σ) P
  refine er_if_eq 84 d_Mo_rowOf_75 (by decide) (fun z => absurd z (by decide)) (fun _ => ?_)
  refine er_aload_n d_Mo_rowOf_78 rfl ?_
  refine er_iconst ((nI (3))) d_Mo_rowOf_79 (by decide) ?_
  refine er_callVE (As := [.int (nI 3)]) d_Mo_rowOf_80 k_Mo_rowOf_248 hO rfl rfl rfl (Nat.le_of_ble_eq_true rfl) (by decide) (by decide) (mo_sn_3 hl (hn.le (Nat.zero_le _)) hw0 hu0 hcf ht htl hof (fun f1 fs1 σ e1 h1 => ⟨_, rfl, ?_⟩) (fun e1 σ h1 => ⟨_, rfl, ?_⟩))
  · skip
    show jl_E l G m_Mo_rowOf (0, 0) 83 [some (.ref 22), some (.int (nI 21)), some (.int (nI 3)), some (.int (nI q)), some (.int (V (8 + b))), none] [] (σ) P
    exact er_vret d_Mo_rowOf_83 rfl (hG f1 fs1 _ e1 h1) (by decide) (by decide)
  · skip
    show jl_E l G m_Mo_rowOf (0, 0) 83 [some (.ref 22), some (.int (nI 21)), some (.int (nI 3)), some (.int (nI q)), some (.int (V (8 + b))), none] [] (σ) P
    exact er_vret d_Mo_rowOf_83 rfl (hE e1 _ h1) (by decide) (by decide)
theorem mo_ro_22n (hl : l.stackTraces = false) {P : jl_O → jl_S → Prop}  (hn : NB σ0 σ (b + 1) t m (p) (b + 1) (R) (V) (fs) (H) fa vf wh wy hg ov oh dn an) (hw0 : MoW σ0 tb pr ow ft hs) (hu0 : MoM σ0 u1 u2 ur ul uo ua uc us ut uk) (hcf : ∀ j, j < 48 → us j < 1024 ∧ ut j < 24 ∧ uk j < 7) (ht : t < 12) (htl : fs.length = t) (hof : (∀ f ∈ (⟨m, p, R, V⟩ :: fs), f.m < 24 ∧ f.p < 24 ∧ ctM (D f.m) uc us ut uk f.m ∧ uc f.m ≤ 2)) (hb : b + 1 ≤ 5) (hv : V (7 + b) = -1) (hG : ∀ f' fs' σ', rse pr D none (-1) (⟨m, p, R, V⟩ :: fs) = some (f' :: fs') → NB σ0 σ' (hgt f'.R) fs'.length f'.m f'.p (hgt f'.R) f'.R f'.V fs' H fa vf wh wy hg ov oh dn an → P (.inl none) σ') (hE : rse pr D none (-1) (⟨m, p, R, V⟩ :: fs) = none → ∀ σ', NQ σ0 σ' [] H fa vf wh wy hg (nI 2) (nI 0) dn an → P (.inl none) σ') : jl_mE l G m_Mo_rowOf [.ref 22, .int (nI 22)] σ P := by
  obtain ⟨fx, fp, fh, lw, lk, vl, vk, ks, kc, kv, lo, sk, hO, f1, f2, f3, f4, f5, f6, f7, hH, hB, hy1, hR1, hF⟩ := id hn
  obtain ⟨k1, k2, k3⟩ := id hH
  obtain ⟨⟨r1, r2⟩, hlo, hsk⟩ := id hR1
  obtain ⟨⟨hfx, hfp, hlc, hst⟩, hfh, hfs, hln⟩ := id hy1
  have hfx : fx t = m := hfx
  have hfp : fp t = p := hfp
  have hlc : ∀ k, k < 6 → lk (6 * t + k) = kdI (R k) ∧ (R k ≠ none → lw (6 * t + k) = V k) := hlc
  have hst : ∀ j, j < _ → vk (5 * t + j) = kdI (R (7 + j)) ∧ vl (5 * t + j) = V (7 + j) := hst
  have hw := hw0.fn hF
  obtain ⟨h23, h24, h25, h26, h27⟩ := id hw
  have hS0 : vl (5 * t + (b)) = V (7 + b) := by rw [show 7 + b = 7 + (b) by omega]; exact (hst _ (by omega)).2
  have hK0 : vk (5 * t + (b)) = kdI (R (7 + b)) := by rw [show 7 + b = 7 + (b) by omega]; exact (hst _ (by omega)).1
  refine jl_ofE (as := [.ref 22, .int (nI 22)]) rfl (by decide) hl (jl_cc rfl (jl_cc rfl jl_ca)) (Nat.le_of_ble_eq_true rfl) ?_
  show jl_E l G m_Mo_rowOf (0, 0) 0 [some (.ref 22), some (.int (nI 22)), none, none, none, none] [] (σ) P
  refine er_iload_n d_Mo_rowOf_0 rfl ?_
  refine er_bipush ((nI (20))) d_Mo_rowOf_1 (by decide) ?_
  refine er_icmp_ne 10 d_Mo_rowOf_3 (by decide) (fun _ => ?_) (fun z => absurd z (by decide))
  refine er_iload_n d_Mo_rowOf_10 rfl ?_
  refine er_bipush ((nI (21))) d_Mo_rowOf_11 (by decide) ?_
  refine er_icmp_ne 20 d_Mo_rowOf_13 (by decide) (fun _ => ?_) (fun z => absurd z (by decide))
  refine er_iconst ((nI (1))) d_Mo_rowOf_20 (by decide) ?_
  refine er_istore_n d_Mo_rowOf_21 (by decide) ?_
  show jl_E l G m_Mo_rowOf (0, 0) 22 [some (.ref 22), some (.int (nI 22)), some (.int (nI 1)), none, none, none] [] (σ) P
  refine er_aload_n d_Mo_rowOf_22 rfl ?_
  refine er_iload_n d_Mo_rowOf_23 rfl ?_
  refine er_callV (As := [.int (nI 1)]) d_Mo_rowOf_24 k_Mo_rowOf_245 hO rfl rfl rfl (Nat.le_of_ble_eq_true rfl) (by decide) (by decide) (mo_topE (h := b + 1) (n := 1) (v := (-1)) hl hO f3 f6 ht hfh (by omega) (by omega) (by omega) (by rw [show 5 * t + (b + 1) - 1 = 5 * t + (b) by omega]; exact hS0.trans hv)) ?_
  show jl_E l G m_Mo_rowOf (0, 0) 27 [some (.ref 22), some (.int (nI 22)), some (.int (nI 1)), none, none, none] [.int (-1)] (σ) P
  refine er_istore_n d_Mo_rowOf_27 (by decide) ?_
  show jl_E l G m_Mo_rowOf (0, 0) 28 [some (.ref 22), some (.int (nI 22)), some (.int (nI 1)), some (.int (-1)), none, none] [] (σ) P
  refine er_iload_n d_Mo_rowOf_28 rfl ?_
  refine er_bipush ((nI (22))) d_Mo_rowOf_29 (by decide) ?_
  refine er_icmp_ne 38 d_Mo_rowOf_31 (by decide) (fun z => absurd rfl z) (fun _ => ?_)
  refine er_iconst ((nI (0))) d_Mo_rowOf_34 (by decide) ?_
  refine er_goto 45 d_Mo_rowOf_35 (by decide) ?_
  refine er_istore d_Mo_rowOf_45 (by decide) ?_
  show jl_E l G m_Mo_rowOf (0, 0) 47 [some (.ref 22), some (.int (nI 22)), some (.int (nI 1)), some (.int (-1)), some (.int (nI 0)), none] [] (σ) P
  refine er_iload_n d_Mo_rowOf_47 rfl ?_
  refine er_if_ge 57 d_Mo_rowOf_48 (by decide) (fun z => absurd z (by decide)) (fun _ => ?_)
  refine er_aload_n d_Mo_rowOf_51 rfl ?_
  refine er_iconst ((nI (2))) d_Mo_rowOf_52 (by decide) ?_
  refine er_callVE (As := [.int (nI 2)]) d_Mo_rowOf_53 k_Mo_rowOf_248 hO rfl rfl rfl (Nat.le_of_ble_eq_true rfl) (by decide) (by decide) (mo_sn_2 hl (hn.le (Nat.zero_le _)) hw0 hu0 hcf ht htl hof (fun f1 fs1 σ e1 h1 => ⟨_, rfl, ?_⟩) (fun e1 σ h1 => ⟨_, rfl, ?_⟩))
  · skip
    show jl_E l G m_Mo_rowOf (0, 0) 56 [some (.ref 22), some (.int (nI 22)), some (.int (nI 1)), some (.int (-1)), some (.int (nI 0)), none] [] (σ) P
    exact er_vret d_Mo_rowOf_56 rfl (hG f1 fs1 _ e1 h1) (by decide) (by decide)
  · skip
    show jl_E l G m_Mo_rowOf (0, 0) 56 [some (.ref 22), some (.int (nI 22)), some (.int (nI 1)), some (.int (-1)), some (.int (nI 0)), none] [] (σ) P
    exact er_vret d_Mo_rowOf_56 rfl (hE e1 _ h1) (by decide) (by decide)
theorem d_Mo_fieldOf_24 : decode m_Mo_fieldOf.2.1 24 = .ok (.aload_n 0, 1) := by decide +kernel
theorem d_Mo_fieldOf_25 : decode m_Mo_fieldOf.2.1 25 = .ok (.iconst 2, 1) := by decide +kernel
theorem k_Mo_fieldOf_248 : jl_cv m_Mo_fieldOf m_Mo_signalNumber 248 1 = true := by decide +kernel
theorem d_Mo_fieldOf_26 : decode m_Mo_fieldOf.2.1 26 = .ok (.invokevirtual 248, 3) := by decide +kernel
theorem d_Mo_fieldOf_29 : decode m_Mo_fieldOf.2.1 29 = .ok (.return_, 1) := by decide +kernel
theorem mo_fi_12n (hl : l.stackTraces = false) {P : jl_O → jl_S → Prop}  (hn : NB σ0 σ (b + 1) t m (p) (b + 1) (R) (V) (fs) (H) fa vf wh wy hg ov oh dn an) (hw0 : MoW σ0 tb pr ow ft hs) (hu0 : MoM σ0 u1 u2 ur ul uo ua uc us ut uk) (hcf : ∀ j, j < 48 → us j < 1024 ∧ ut j < 24 ∧ uk j < 7) (ht : t < 12) (htl : fs.length = t) (hof : (∀ f ∈ (⟨m, p, R, V⟩ :: fs), f.m < 24 ∧ f.p < 24 ∧ ctM (D f.m) uc us ut uk f.m ∧ uc f.m ≤ 2)) (hb : b + 1 ≤ 5) (hv : V (7 + b) = -1) (hG : ∀ f' fs' σ', rse pr D none (-1) (⟨m, p, R, V⟩ :: fs) = some (f' :: fs') → NB σ0 σ' (hgt f'.R) fs'.length f'.m f'.p (hgt f'.R) f'.R f'.V fs' H fa vf wh wy hg ov oh dn an → P (.inl none) σ') (hE : rse pr D none (-1) (⟨m, p, R, V⟩ :: fs) = none → ∀ σ', NQ σ0 σ' [] H fa vf wh wy hg (nI 2) (nI 0) dn an → P (.inl none) σ') : jl_mE l G m_Mo_fieldOf [.ref 22, .int (nI 12), .int (x)] σ P := by
  obtain ⟨fx, fp, fh, lw, lk, vl, vk, ks, kc, kv, lo, sk, hO, f1, f2, f3, f4, f5, f6, f7, hH, hB, hy1, hR1, hF⟩ := id hn
  obtain ⟨k1, k2, k3⟩ := id hH
  obtain ⟨⟨r1, r2⟩, hlo, hsk⟩ := id hR1
  obtain ⟨⟨hfx, hfp, hlc, hst⟩, hfh, hfs, hln⟩ := id hy1
  have hfx : fx t = m := hfx
  have hfp : fp t = p := hfp
  have hlc : ∀ k, k < 6 → lk (6 * t + k) = kdI (R k) ∧ (R k ≠ none → lw (6 * t + k) = V k) := hlc
  have hst : ∀ j, j < _ → vk (5 * t + j) = kdI (R (7 + j)) ∧ vl (5 * t + j) = V (7 + j) := hst
  have hw := hw0.fn hF
  obtain ⟨h23, h24, h25, h26, h27⟩ := id hw
  have hS0 : vl (5 * t + (b)) = V (7 + b) := by rw [show 7 + b = 7 + (b) by omega]; exact (hst _ (by omega)).2
  have hK0 : vk (5 * t + (b)) = kdI (R (7 + b)) := by rw [show 7 + b = 7 + (b) by omega]; exact (hst _ (by omega)).1
  refine jl_ofE (as := [.ref 22, .int (nI 12), .int (x)]) rfl (by decide) hl (jl_cc rfl (jl_cc rfl (jl_cc rfl jl_ca))) (Nat.le_of_ble_eq_true rfl) ?_
  show jl_E l G m_Mo_fieldOf (0, 0) 0 [some (.ref 22), some (.int (nI 12)), some (.int (x)), none, none, none, none] [] (σ) P
  refine er_iload_n d_Mo_fieldOf_0 rfl ?_
  refine er_bipush ((nI (12))) d_Mo_fieldOf_1 (by decide) ?_
  refine er_icmp_ne 10 d_Mo_fieldOf_3 (by decide) (fun z => absurd rfl z) (fun _ => ?_)
  refine er_iconst ((nI (1))) d_Mo_fieldOf_6 (by decide) ?_
  refine er_goto 11 d_Mo_fieldOf_7 (by decide) ?_
  refine er_istore_n d_Mo_fieldOf_11 (by decide) ?_
  show jl_E l G m_Mo_fieldOf (0, 0) 12 [some (.ref 22), some (.int (nI 12)), some (.int (x)), some (.int (nI 1)), none, none, none] [] (σ) P
  refine er_aload_n d_Mo_fieldOf_12 rfl ?_
  refine er_iload_n d_Mo_fieldOf_13 rfl ?_
  refine er_callV (As := [.int (nI 1)]) d_Mo_fieldOf_14 k_Mo_fieldOf_245 hO rfl rfl rfl (Nat.le_of_ble_eq_true rfl) (by decide) (by decide) (mo_topE (h := b + 1) (n := 1) (v := (-1)) hl hO f3 f6 ht hfh (by omega) (by omega) (by omega) (by rw [show 5 * t + (b + 1) - 1 = 5 * t + (b) by omega]; exact hS0.trans hv)) ?_
  show jl_E l G m_Mo_fieldOf (0, 0) 17 [some (.ref 22), some (.int (nI 12)), some (.int (x)), some (.int (nI 1)), none, none, none] [.int (-1)] (σ) P
  refine er_istore d_Mo_fieldOf_17 (by decide) ?_
  show jl_E l G m_Mo_fieldOf (0, 0) 19 [some (.ref 22), some (.int (nI 12)), some (.int (x)), some (.int (nI 1)), some (.int (-1)), none, none] [] (σ) P
  refine er_iload d_Mo_fieldOf_19 rfl ?_
  refine er_if_ge 30 d_Mo_fieldOf_21 (by decide) (fun z => absurd z (by decide)) (fun _ => ?_)
  refine er_aload_n d_Mo_fieldOf_24 rfl ?_
  refine er_iconst ((nI (2))) d_Mo_fieldOf_25 (by decide) ?_
  refine er_callVE (As := [.int (nI 2)]) d_Mo_fieldOf_26 k_Mo_fieldOf_248 hO rfl rfl rfl (Nat.le_of_ble_eq_true rfl) (by decide) (by decide) (mo_sn_2 hl (hn.le (Nat.zero_le _)) hw0 hu0 hcf ht htl hof (fun f1 fs1 σ e1 h1 => ⟨_, rfl, ?_⟩) (fun e1 σ h1 => ⟨_, rfl, ?_⟩))
  · skip
    show jl_E l G m_Mo_fieldOf (0, 0) 29 [some (.ref 22), some (.int (nI 12)), some (.int (x)), some (.int (nI 1)), some (.int (-1)), none, none] [] (σ) P
    exact er_vret d_Mo_fieldOf_29 rfl (hG f1 fs1 _ e1 h1) (by decide) (by decide)
  · skip
    show jl_E l G m_Mo_fieldOf (0, 0) 29 [some (.ref 22), some (.int (nI 12)), some (.int (x)), some (.int (nI 1)), some (.int (-1)), none, none] [] (σ) P
    exact er_vret d_Mo_fieldOf_29 rfl (hE e1 _ h1) (by decide) (by decide)
theorem mo_fi_13n (hl : l.stackTraces = false) {P : jl_O → jl_S → Prop}  (hn : NB σ0 σ (b + 2) t m (p) (b + 2) (R) (V) (fs) (H) fa vf wh wy hg ov oh dn an) (hw0 : MoW σ0 tb pr ow ft hs) (hu0 : MoM σ0 u1 u2 ur ul uo ua uc us ut uk) (hcf : ∀ j, j < 48 → us j < 1024 ∧ ut j < 24 ∧ uk j < 7) (ht : t < 12) (htl : fs.length = t) (hof : (∀ f ∈ (⟨m, p, R, V⟩ :: fs), f.m < 24 ∧ f.p < 24 ∧ ctM (D f.m) uc us ut uk f.m ∧ uc f.m ≤ 2)) (hb : b + 2 ≤ 5) (hv : V (7 + b) = -1) (hG : ∀ f' fs' σ', rse pr D none (-1) (⟨m, p, R, V⟩ :: fs) = some (f' :: fs') → NB σ0 σ' (hgt f'.R) fs'.length f'.m f'.p (hgt f'.R) f'.R f'.V fs' H fa vf wh wy hg ov oh dn an → P (.inl none) σ') (hE : rse pr D none (-1) (⟨m, p, R, V⟩ :: fs) = none → ∀ σ', NQ σ0 σ' [] H fa vf wh wy hg (nI 2) (nI 0) dn an → P (.inl none) σ') : jl_mE l G m_Mo_fieldOf [.ref 22, .int (nI 13), .int (x)] σ P := by
  obtain ⟨fx, fp, fh, lw, lk, vl, vk, ks, kc, kv, lo, sk, hO, f1, f2, f3, f4, f5, f6, f7, hH, hB, hy1, hR1, hF⟩ := id hn
  obtain ⟨k1, k2, k3⟩ := id hH
  obtain ⟨⟨r1, r2⟩, hlo, hsk⟩ := id hR1
  obtain ⟨⟨hfx, hfp, hlc, hst⟩, hfh, hfs, hln⟩ := id hy1
  have hfx : fx t = m := hfx
  have hfp : fp t = p := hfp
  have hlc : ∀ k, k < 6 → lk (6 * t + k) = kdI (R k) ∧ (R k ≠ none → lw (6 * t + k) = V k) := hlc
  have hst : ∀ j, j < _ → vk (5 * t + j) = kdI (R (7 + j)) ∧ vl (5 * t + j) = V (7 + j) := hst
  have hw := hw0.fn hF
  obtain ⟨h23, h24, h25, h26, h27⟩ := id hw
  have hS0 : vl (5 * t + (b)) = V (7 + b) := by rw [show 7 + b = 7 + (b) by omega]; exact (hst _ (by omega)).2
  have hK0 : vk (5 * t + (b)) = kdI (R (7 + b)) := by rw [show 7 + b = 7 + (b) by omega]; exact (hst _ (by omega)).1
  have hS1 : vl (5 * t + (b + 1)) = V (8 + b) := by rw [show 8 + b = 7 + (b + 1) by omega]; exact (hst _ (by omega)).2
  have hK1 : vk (5 * t + (b + 1)) = kdI (R (8 + b)) := by rw [show 8 + b = 7 + (b + 1) by omega]; exact (hst _ (by omega)).1
  refine jl_ofE (as := [.ref 22, .int (nI 13), .int (x)]) rfl (by decide) hl (jl_cc rfl (jl_cc rfl (jl_cc rfl jl_ca))) (Nat.le_of_ble_eq_true rfl) ?_
  show jl_E l G m_Mo_fieldOf (0, 0) 0 [some (.ref 22), some (.int (nI 13)), some (.int (x)), none, none, none, none] [] (σ) P
  refine er_iload_n d_Mo_fieldOf_0 rfl ?_
  refine er_bipush ((nI (12))) d_Mo_fieldOf_1 (by decide) ?_
  refine er_icmp_ne 10 d_Mo_fieldOf_3 (by decide) (fun _ => ?_) (fun z => absurd z (by decide))
  refine er_iconst ((nI (2))) d_Mo_fieldOf_10 (by decide) ?_
  refine er_istore_n d_Mo_fieldOf_11 (by decide) ?_
  show jl_E l G m_Mo_fieldOf (0, 0) 12 [some (.ref 22), some (.int (nI 13)), some (.int (x)), some (.int (nI 2)), none, none, none] [] (σ) P
  refine er_aload_n d_Mo_fieldOf_12 rfl ?_
  refine er_iload_n d_Mo_fieldOf_13 rfl ?_
  refine er_callV (As := [.int (nI 2)]) d_Mo_fieldOf_14 k_Mo_fieldOf_245 hO rfl rfl rfl (Nat.le_of_ble_eq_true rfl) (by decide) (by decide) (mo_topE (h := b + 2) (n := 2) (v := (-1)) hl hO f3 f6 ht hfh (by omega) (by omega) (by omega) (by rw [show 5 * t + (b + 2) - 2 = 5 * t + (b) by omega]; exact hS0.trans hv)) ?_
  show jl_E l G m_Mo_fieldOf (0, 0) 17 [some (.ref 22), some (.int (nI 13)), some (.int (x)), some (.int (nI 2)), none, none, none] [.int (-1)] (σ) P
  refine er_istore d_Mo_fieldOf_17 (by decide) ?_
  show jl_E l G m_Mo_fieldOf (0, 0) 19 [some (.ref 22), some (.int (nI 13)), some (.int (x)), some (.int (nI 2)), some (.int (-1)), none, none] [] (σ) P
  refine er_iload d_Mo_fieldOf_19 rfl ?_
  refine er_if_ge 30 d_Mo_fieldOf_21 (by decide) (fun z => absurd z (by decide)) (fun _ => ?_)
  refine er_aload_n d_Mo_fieldOf_24 rfl ?_
  refine er_iconst ((nI (2))) d_Mo_fieldOf_25 (by decide) ?_
  refine er_callVE (As := [.int (nI 2)]) d_Mo_fieldOf_26 k_Mo_fieldOf_248 hO rfl rfl rfl (Nat.le_of_ble_eq_true rfl) (by decide) (by decide) (mo_sn_2 hl (hn.le (Nat.zero_le _)) hw0 hu0 hcf ht htl hof (fun f1 fs1 σ e1 h1 => ⟨_, rfl, ?_⟩) (fun e1 σ h1 => ⟨_, rfl, ?_⟩))
  · skip
    show jl_E l G m_Mo_fieldOf (0, 0) 29 [some (.ref 22), some (.int (nI 13)), some (.int (x)), some (.int (nI 2)), some (.int (-1)), none, none] [] (σ) P
    exact er_vret d_Mo_fieldOf_29 rfl (hG f1 fs1 _ e1 h1) (by decide) (by decide)
  · skip
    show jl_E l G m_Mo_fieldOf (0, 0) 29 [some (.ref 22), some (.int (nI 13)), some (.int (x)), some (.int (nI 2)), some (.int (-1)), none, none] [] (σ) P
    exact er_vret d_Mo_fieldOf_29 rfl (hE e1 _ h1) (by decide) (by decide)
theorem d_Mo_create_0 : decode m_Mo_create.2.1 0 = .ok (.iload_n 1, 1) := by decide +kernel
theorem d_Mo_create_1 : decode m_Mo_create.2.1 1 = .ok (.bipush 19, 2) := by decide +kernel
theorem d_Mo_create_3 : decode m_Mo_create.2.1 3 = .ok (.if_icmp .ne 11, 3) := by decide +kernel
theorem d_Mo_create_6 : decode m_Mo_create.2.1 6 = .ok (.aload_n 0, 1) := by decide +kernel
theorem d_Mo_create_7 : decode m_Mo_create.2.1 7 = .ok (.iconst 1, 1) := by decide +kernel
theorem k_Mo_create_245 : jl_cv m_Mo_create m_Mo_top 245 1 = true := by decide +kernel
theorem d_Mo_create_8 : decode m_Mo_create.2.1 8 = .ok (.invokevirtual 245, 3) := by decide +kernel
theorem d_Mo_create_11 : decode m_Mo_create.2.1 11 = .ok (.goto 4, 3) := by decide +kernel
theorem d_Mo_create_15 : decode m_Mo_create.2.1 15 = .ok (.istore_n 3, 1) := by decide +kernel
theorem d_Mo_create_16 : decode m_Mo_create.2.1 16 = .ok (.iload_n 1, 1) := by decide +kernel
theorem d_Mo_create_17 : decode m_Mo_create.2.1 17 = .ok (.bipush 19, 2) := by decide +kernel
theorem d_Mo_create_19 : decode m_Mo_create.2.1 19 = .ok (.if_icmp .ne 19, 3) := by decide +kernel
theorem d_Mo_create_22 : decode m_Mo_create.2.1 22 = .ok (.aload_n 0, 1) := by decide +kernel
theorem d_Mo_create_23 : decode m_Mo_create.2.1 23 = .ok (.iload_n 3, 1) := by decide +kernel
theorem d_Mo_create_24 : decode m_Mo_create.2.1 24 = .ok (.bipush 9, 2) := by decide +kernel
theorem k_Mo_create_114 : jl_cv m_Mo_create m_Mo_out 114 2 = true := by decide +kernel
theorem d_Mo_create_26 : decode m_Mo_create.2.1 26 = .ok (.invokevirtual 114, 3) := by decide +kernel
theorem d_Mo_create_29 : decode m_Mo_create.2.1 29 = .ok (.ifCond .eq 9, 3) := by decide +kernel
theorem d_Mo_create_32 : decode m_Mo_create.2.1 32 = .ok (.aload_n 0, 1) := by decide +kernel
theorem d_Mo_create_33 : decode m_Mo_create.2.1 33 = .ok (.iconst 3, 1) := by decide +kernel
theorem k_Mo_create_248 : jl_cv m_Mo_create m_Mo_signalNumber 248 1 = true := by decide +kernel
theorem d_Mo_create_34 : decode m_Mo_create.2.1 34 = .ok (.invokevirtual 248, 3) := by decide +kernel
theorem d_Mo_create_37 : decode m_Mo_create.2.1 37 = .ok (.return_, 1) := by decide +kernel
theorem mo_cr_19b (hl : l.stackTraces = false) {P : jl_O → jl_S → Prop}  (hn : NB σ0 σ (b + 1) t m (p) (b + 1) (R) (V) (fs) (H) fa vf wh wy hg ov oh dn an) (hw0 : MoW σ0 tb pr ow ft hs) (hu0 : MoM σ0 u1 u2 ur ul uo ua uc us ut uk) (hcf : ∀ j, j < 48 → us j < 1024 ∧ ut j < 24 ∧ uk j < 7) (ht : t < 12) (htl : fs.length = t) (hof : (∀ f ∈ (⟨m, p, R, V⟩ :: fs), f.m < 24 ∧ f.p < 24 ∧ ctM (D f.m) uc us ut uk f.m ∧ uc f.m ≤ 2)) (hb : b + 1 ≤ 5) (hout : outB (V (7 + b)) (nI 9) = true) (hG : ∀ f' fs' σ', rse pr D none (-1) (⟨m, p, R, V⟩ :: fs) = some (f' :: fs') → NB σ0 σ' (hgt f'.R) fs'.length f'.m f'.p (hgt f'.R) f'.R f'.V fs' H fa vf wh wy hg ov oh dn an → P (.inl none) σ') (hE : rse pr D none (-1) (⟨m, p, R, V⟩ :: fs) = none → ∀ σ', NQ σ0 σ' [] H fa vf wh wy hg (nI 3) (nI 0) dn an → P (.inl none) σ') : jl_mE l G m_Mo_create [.ref 22, .int (nI 19), .int (x)] σ P := by
  obtain ⟨fx, fp, fh, lw, lk, vl, vk, ks, kc, kv, lo, sk, hO, f1, f2, f3, f4, f5, f6, f7, hH, hB, hy1, hR1, hF⟩ := id hn
  obtain ⟨k1, k2, k3⟩ := id hH
  obtain ⟨⟨r1, r2⟩, hlo, hsk⟩ := id hR1
  obtain ⟨⟨hfx, hfp, hlc, hst⟩, hfh, hfs, hln⟩ := id hy1
  have hfx : fx t = m := hfx
  have hfp : fp t = p := hfp
  have hlc : ∀ k, k < 6 → lk (6 * t + k) = kdI (R k) ∧ (R k ≠ none → lw (6 * t + k) = V k) := hlc
  have hst : ∀ j, j < _ → vk (5 * t + j) = kdI (R (7 + j)) ∧ vl (5 * t + j) = V (7 + j) := hst
  have hw := hw0.fn hF
  obtain ⟨h23, h24, h25, h26, h27⟩ := id hw
  have hS0 : vl (5 * t + (b)) = V (7 + b) := by rw [show 7 + b = 7 + (b) by omega]; exact (hst _ (by omega)).2
  have hK0 : vk (5 * t + (b)) = kdI (R (7 + b)) := by rw [show 7 + b = 7 + (b) by omega]; exact (hst _ (by omega)).1
  refine jl_ofE (as := [.ref 22, .int (nI 19), .int (x)]) rfl (by decide) hl (jl_cc rfl (jl_cc rfl (jl_cc rfl jl_ca))) (Nat.le_of_ble_eq_true rfl) ?_
  show jl_E l G m_Mo_create (0, 0) 0 [some (.ref 22), some (.int (nI 19)), some (.int (x)), none, none] [] (σ) P
  refine er_iload_n d_Mo_create_0 rfl ?_
  refine er_bipush ((nI (19))) d_Mo_create_1 (by decide) ?_
  refine er_icmp_ne 14 d_Mo_create_3 (by decide) (fun z => absurd rfl z) (fun _ => ?_)
  refine er_aload_n d_Mo_create_6 rfl ?_
  refine er_iconst ((nI (1))) d_Mo_create_7 (by decide) ?_
  refine er_callV (As := [.int (nI 1)]) d_Mo_create_8 k_Mo_create_245 hO rfl rfl rfl (Nat.le_of_ble_eq_true rfl) (by decide) (by decide) (mo_topE (h := b + 1) (n := 1) (v := (V (7 + b))) hl hO f3 f6 ht hfh (by omega) (by omega) (by omega) (by rw [show 5 * t + (b + 1) - 1 = 5 * t + (b) by omega]; exact hS0)) ?_
  show jl_E l G m_Mo_create (0, 0) 11 [some (.ref 22), some (.int (nI 19)), some (.int (x)), none, none] [.int (V (7 + b))] (σ) P
  refine er_goto 15 d_Mo_create_11 (by decide) ?_
  refine er_istore_n d_Mo_create_15 (by decide) ?_
  show jl_E l G m_Mo_create (0, 0) 16 [some (.ref 22), some (.int (nI 19)), some (.int (x)), some (.int (V (7 + b))), none] [] (σ) P
  refine er_iload_n d_Mo_create_16 rfl ?_
  refine er_bipush ((nI (19))) d_Mo_create_17 (by decide) ?_
  refine er_icmp_ne 38 d_Mo_create_19 (by decide) (fun z => absurd rfl z) (fun _ => ?_)
  refine er_aload_n d_Mo_create_22 rfl ?_
  refine er_iload_n d_Mo_create_23 rfl ?_
  refine er_bipush ((nI (9))) d_Mo_create_24 (by decide) ?_
  refine er_callV (As := [.int (V (7 + b)), .int (nI 9)]) d_Mo_create_26 k_Mo_create_114 hO rfl rfl rfl (Nat.le_of_ble_eq_true rfl) (by decide) (by decide) (mo_out1 (v := V (7 + b)) (n := nI 9) hl hO hw hout) ?_
  show jl_E l G m_Mo_create (0, 0) 29 [some (.ref 22), some (.int (nI 19)), some (.int (x)), some (.int (V (7 + b))), none] [.int (nI 1)] (σ) P
  refine er_if_eq 38 d_Mo_create_29 (by decide) (fun z => absurd z (by decide)) (fun _ => ?_)
  refine er_aload_n d_Mo_create_32 rfl ?_
  refine er_iconst ((nI (3))) d_Mo_create_33 (by decide) ?_
  refine er_callVE (As := [.int (nI 3)]) d_Mo_create_34 k_Mo_create_248 hO rfl rfl rfl (Nat.le_of_ble_eq_true rfl) (by decide) (by decide) (mo_sn_3 hl (hn.le (Nat.zero_le _)) hw0 hu0 hcf ht htl hof (fun f1 fs1 σ e1 h1 => ⟨_, rfl, ?_⟩) (fun e1 σ h1 => ⟨_, rfl, ?_⟩))
  · skip
    show jl_E l G m_Mo_create (0, 0) 37 [some (.ref 22), some (.int (nI 19)), some (.int (x)), some (.int (V (7 + b))), none] [] (σ) P
    exact er_vret d_Mo_create_37 rfl (hG f1 fs1 _ e1 h1) (by decide) (by decide)
  · skip
    show jl_E l G m_Mo_create (0, 0) 37 [some (.ref 22), some (.int (nI 19)), some (.int (x)), some (.int (V (7 + b))), none] [] (σ) P
    exact er_vret d_Mo_create_37 rfl (hE e1 _ h1) (by decide) (by decide)
theorem d_Mo_raise_0 : decode m_Mo_raise.2.1 0 = .ok (.aload_n 0, 1) := by decide +kernel
theorem d_Mo_raise_1 : decode m_Mo_raise.2.1 1 = .ok (.iconst 1, 1) := by decide +kernel
theorem k_Mo_raise_245 : jl_cv m_Mo_raise m_Mo_top 245 1 = true := by decide +kernel
theorem d_Mo_raise_2 : decode m_Mo_raise.2.1 2 = .ok (.invokevirtual 245, 3) := by decide +kernel
theorem d_Mo_raise_5 : decode m_Mo_raise.2.1 5 = .ok (.istore_n 1, 1) := by decide +kernel
theorem d_Mo_raise_6 : decode m_Mo_raise.2.1 6 = .ok (.iload_n 1, 1) := by decide +kernel
theorem d_Mo_raise_7 : decode m_Mo_raise.2.1 7 = .ok (.ifCond .ge 11, 3) := by decide +kernel
theorem d_Mo_raise_10 : decode m_Mo_raise.2.1 10 = .ok (.aload_n 0, 1) := by decide +kernel
theorem d_Mo_raise_11 : decode m_Mo_raise.2.1 11 = .ok (.iconst 2, 1) := by decide +kernel
theorem k_Mo_raise_248 : jl_cv m_Mo_raise m_Mo_signalNumber 248 1 = true := by decide +kernel
theorem d_Mo_raise_12 : decode m_Mo_raise.2.1 12 = .ok (.invokevirtual 248, 3) := by decide +kernel
theorem d_Mo_raise_15 : decode m_Mo_raise.2.1 15 = .ok (.goto 8, 3) := by decide +kernel
theorem d_Mo_raise_23 : decode m_Mo_raise.2.1 23 = .ok (.return_, 1) := by decide +kernel
theorem mo_ra_n (hl : l.stackTraces = false) {P : jl_O → jl_S → Prop}  (hn : NB σ0 σ (b + 1) t m (p) (b + 1) (R) (V) (fs) (H) fa vf wh wy hg ov oh dn an) (hw0 : MoW σ0 tb pr ow ft hs) (hu0 : MoM σ0 u1 u2 ur ul uo ua uc us ut uk) (hcf : ∀ j, j < 48 → us j < 1024 ∧ ut j < 24 ∧ uk j < 7) (ht : t < 12) (htl : fs.length = t) (hof : (∀ f ∈ (⟨m, p, R, V⟩ :: fs), f.m < 24 ∧ f.p < 24 ∧ ctM (D f.m) uc us ut uk f.m ∧ uc f.m ≤ 2)) (hb : b + 1 ≤ 5) (hv : V (7 + b) = -1) (hG : ∀ f' fs' σ', rse pr D none (-1) (⟨m, p, R, V⟩ :: fs) = some (f' :: fs') → NB σ0 σ' (hgt f'.R) fs'.length f'.m f'.p (hgt f'.R) f'.R f'.V fs' H fa vf wh wy hg ov oh dn an → P (.inl none) σ') (hE : rse pr D none (-1) (⟨m, p, R, V⟩ :: fs) = none → ∀ σ', NQ σ0 σ' [] H fa vf wh wy hg (nI 2) (nI 0) dn an → P (.inl none) σ') : jl_mE l G m_Mo_raise [.ref 22] σ P := by
  obtain ⟨fx, fp, fh, lw, lk, vl, vk, ks, kc, kv, lo, sk, hO, f1, f2, f3, f4, f5, f6, f7, hH, hB, hy1, hR1, hF⟩ := id hn
  obtain ⟨k1, k2, k3⟩ := id hH
  obtain ⟨⟨r1, r2⟩, hlo, hsk⟩ := id hR1
  obtain ⟨⟨hfx, hfp, hlc, hst⟩, hfh, hfs, hln⟩ := id hy1
  have hfx : fx t = m := hfx
  have hfp : fp t = p := hfp
  have hlc : ∀ k, k < 6 → lk (6 * t + k) = kdI (R k) ∧ (R k ≠ none → lw (6 * t + k) = V k) := hlc
  have hst : ∀ j, j < _ → vk (5 * t + j) = kdI (R (7 + j)) ∧ vl (5 * t + j) = V (7 + j) := hst
  have hw := hw0.fn hF
  obtain ⟨h23, h24, h25, h26, h27⟩ := id hw
  have hS0 : vl (5 * t + (b)) = V (7 + b) := by rw [show 7 + b = 7 + (b) by omega]; exact (hst _ (by omega)).2
  have hK0 : vk (5 * t + (b)) = kdI (R (7 + b)) := by rw [show 7 + b = 7 + (b) by omega]; exact (hst _ (by omega)).1
  refine jl_ofE (as := [.ref 22]) rfl (by decide) hl (jl_cc rfl jl_ca) (Nat.le_of_ble_eq_true rfl) ?_
  show jl_E l G m_Mo_raise (0, 0) 0 [some (.ref 22), none] [] (σ) P
  refine er_aload_n d_Mo_raise_0 rfl ?_
  refine er_iconst ((nI (1))) d_Mo_raise_1 (by decide) ?_
  refine er_callV (As := [.int (nI 1)]) d_Mo_raise_2 k_Mo_raise_245 hO rfl rfl rfl (Nat.le_of_ble_eq_true rfl) (by decide) (by decide) (mo_topE (h := b + 1) (n := 1) (v := (-1)) hl hO f3 f6 ht hfh (by omega) (by omega) (by omega) (by rw [show 5 * t + (b + 1) - 1 = 5 * t + (b) by omega]; exact hS0.trans hv)) ?_
  show jl_E l G m_Mo_raise (0, 0) 5 [some (.ref 22), none] [.int (-1)] (σ) P
  refine er_istore_n d_Mo_raise_5 (by decide) ?_
  show jl_E l G m_Mo_raise (0, 0) 6 [some (.ref 22), some (.int (-1))] [] (σ) P
  refine er_iload_n d_Mo_raise_6 rfl ?_
  refine er_if_ge 18 d_Mo_raise_7 (by decide) (fun z => absurd z (by decide)) (fun _ => ?_)
  refine er_aload_n d_Mo_raise_10 rfl ?_
  refine er_iconst ((nI (2))) d_Mo_raise_11 (by decide) ?_
  refine er_callVE (As := [.int (nI 2)]) d_Mo_raise_12 k_Mo_raise_248 hO rfl rfl rfl (Nat.le_of_ble_eq_true rfl) (by decide) (by decide) (mo_sn_2 hl (hn.le (Nat.zero_le _)) hw0 hu0 hcf ht htl hof (fun f1 fs1 σ e1 h1 => ⟨_, rfl, ?_⟩) (fun e1 σ h1 => ⟨_, rfl, ?_⟩))
  · skip
    show jl_E l G m_Mo_raise (0, 0) 15 [some (.ref 22), some (.int (-1))] [] (σ) P
    refine er_goto 23 d_Mo_raise_15 (by decide) ?_
    exact er_vret d_Mo_raise_23 rfl (hG f1 fs1 _ e1 h1) (by decide) (by decide)
  · skip
    show jl_E l G m_Mo_raise (0, 0) 15 [some (.ref 22), some (.int (-1))] [] (σ) P
    refine er_goto 23 d_Mo_raise_15 (by decide) ?_
    exact er_vret d_Mo_raise_23 rfl (hE e1 _ h1) (by decide) (by decide)
theorem d_Mo_raise_18 : decode m_Mo_raise.2.1 18 = .ok (.aload_n 0, 1) := by decide +kernel
theorem d_Mo_raise_19 : decode m_Mo_raise.2.1 19 = .ok (.iload_n 1, 1) := by decide +kernel
theorem k_Mo_raise_239 : jl_cv m_Mo_raise m_Mo_signal 239 1 = true := by decide +kernel
theorem d_Mo_raise_20 : decode m_Mo_raise.2.1 20 = .ok (.invokevirtual 239, 3) := by decide +kernel
theorem mo_ra_o (hl : l.stackTraces = false) {P : jl_O → jl_S → Prop} {q k : Nat} (hn : NB σ0 σ (b + 1) t m (p) (b + 1) (R) (V) (fs) (H) fa vf wh wy hg ov oh dn an) (hw0 : MoW σ0 tb pr ow ft hs) (hu0 : MoM σ0 u1 u2 ur ul uo ua uc us ut uk) (hcf : ∀ j, j < 48 → us j < 1024 ∧ ut j < 24 ∧ uk j < 7) (ht : t < 12) (htl : fs.length = t) (hof : (∀ f ∈ (⟨m, p, R, V⟩ :: fs), f.m < 24 ∧ f.p < 24 ∧ ctM (D f.m) uc us ut uk f.m ∧ uc f.m ≤ 2)) (hb : b + 1 ≤ 5) (hq : q < H.n) (hn40 : H.n ≤ 40) (hv : V (7 + b) = nI q) (hso : H.so q = some k) (hk6 : k < 6) (hd : dsc pr) (hG : ∀ f' fs' σ', rse pr D (some (10 + k)) (nI q) (⟨m, p, R, V⟩ :: fs) = some (f' :: fs') → NB σ0 σ' (hgt f'.R) fs'.length f'.m f'.p (hgt f'.R) f'.R f'.V fs' H fa vf wh wy hg ov oh dn an → P (.inl none) σ') (hE : rse pr D (some (10 + k)) (nI q) (⟨m, p, R, V⟩ :: fs) = none → ∀ σ', NQ σ0 σ' [] H fa vf wh wy hg (nI 7) (nI k) dn an → P (.inl none) σ') : jl_mE l G m_Mo_raise [.ref 22] σ P := by
  obtain ⟨fx, fp, fh, lw, lk, vl, vk, ks, kc, kv, lo, sk, hO, f1, f2, f3, f4, f5, f6, f7, hH, hB, hy1, hR1, hF⟩ := id hn
  obtain ⟨k1, k2, k3⟩ := id hH
  obtain ⟨⟨r1, r2⟩, hlo, hsk⟩ := id hR1
  obtain ⟨⟨hfx, hfp, hlc, hst⟩, hfh, hfs, hln⟩ := id hy1
  have hfx : fx t = m := hfx
  have hfp : fp t = p := hfp
  have hlc : ∀ k, k < 6 → lk (6 * t + k) = kdI (R k) ∧ (R k ≠ none → lw (6 * t + k) = V k) := hlc
  have hst : ∀ j, j < _ → vk (5 * t + j) = kdI (R (7 + j)) ∧ vl (5 * t + j) = V (7 + j) := hst
  have hw := hw0.fn hF
  obtain ⟨h23, h24, h25, h26, h27⟩ := id hw
  have hS0 : vl (5 * t + (b)) = V (7 + b) := by rw [show 7 + b = 7 + (b) by omega]; exact (hst _ (by omega)).2
  have hK0 : vk (5 * t + (b)) = kdI (R (7 + b)) := by rw [show 7 + b = 7 + (b) by omega]; exact (hst _ (by omega)).1
  refine jl_ofE (as := [.ref 22]) rfl (by decide) hl (jl_cc rfl jl_ca) (Nat.le_of_ble_eq_true rfl) ?_
  show jl_E l G m_Mo_raise (0, 0) 0 [some (.ref 22), none] [] (σ) P
  refine er_aload_n d_Mo_raise_0 rfl ?_
  refine er_iconst ((nI (1))) d_Mo_raise_1 (by decide) ?_
  refine er_callV (As := [.int (nI 1)]) d_Mo_raise_2 k_Mo_raise_245 hO rfl rfl rfl (Nat.le_of_ble_eq_true rfl) (by decide) (by decide) (mo_topE (h := b + 1) (n := 1) (v := (nI (q))) hl hO f3 f6 ht hfh (by omega) (by omega) (by omega) (by rw [show 5 * t + (b + 1) - 1 = 5 * t + (b) by omega]; exact hS0.trans hv)) ?_
  show jl_E l G m_Mo_raise (0, 0) 5 [some (.ref 22), none] [.int (nI q)] (σ) P
  refine er_istore_n d_Mo_raise_5 (by decide) ?_
  show jl_E l G m_Mo_raise (0, 0) 6 [some (.ref 22), some (.int (nI q))] [] (σ) P
  refine er_iload_n d_Mo_raise_6 rfl ?_
  refine er_if_ge 18 d_Mo_raise_7 (by decide) (fun _ => ?_) (fun z => absurd (Int32.not_lt.mp (nI_pos (by omega))) z)
  refine er_aload_n d_Mo_raise_18 rfl ?_
  refine er_iload_n d_Mo_raise_19 rfl ?_
  refine er_callVE (As := [.int (nI q)]) d_Mo_raise_20 k_Mo_raise_239 hO rfl rfl rfl (Nat.le_of_ble_eq_true rfl) (by decide) (by decide) (mo_signal_t hl (hn.le (Nat.zero_le _)) hw0 hu0 hcf ht htl hof hq hn40 hso hk6 hd (fun f1 fs1 σ e1 h1 => ⟨_, rfl, ?_⟩) (fun e1 σ h1 => ⟨_, rfl, ?_⟩))
  · skip
    show jl_E l G m_Mo_raise (0, 0) 23 [some (.ref 22), some (.int (nI q))] [] (σ) P
    exact er_vret d_Mo_raise_23 rfl (hG f1 fs1 _ e1 h1) (by decide) (by decide)
  · skip
    show jl_E l G m_Mo_raise (0, 0) 23 [some (.ref 22), some (.int (nI q))] [] (σ) P
    exact er_vret d_Mo_raise_23 rfl (hE e1 _ h1) (by decide) (by decide)
end JNxh
