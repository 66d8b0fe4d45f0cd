/-! the model's machine: signal (wip/gen/p97xg.py) -/
section JNxg
variable {l : Launch} {G : jl_G} {σ : jl_S}
variable {tb : Nat → Bool} {pr : Nat → Option Nat} {ow fi ft : Nat → Nat} {hs : Nat → Bool} {fa vf wh wy hg dp md ov oh dn an : Int32}
variable {u1 u2 : Nat → Option Nat} {ur ul uo : Nat → Nat} {ua : Nat → Int32} {uc us ut uk : Nat → Nat}
variable {σ0 : jl_S} {N t m p h b n : Nat} {R : Rw} {V : Nat → Int32} {fs : List Fm} {H : Hp} {fa vf wh wy hg ov oh dn an x a v : Int32} {y : Option Nat}
variable {D : Nat → MDt} {q k i : Nat} {wt : Int32} {F : List Fm}
theorem d_Mo_signal_158 : decode m_Mo_signal.2.1 158 = .ok (.iload_n 1, 1) := by decide +kernel
theorem d_Mo_signal_159 : decode m_Mo_signal.2.1 159 = .ok (.ifCond .ge 15, 3) := by decide +kernel
theorem d_Mo_signal_162 : decode m_Mo_signal.2.1 162 = .ok (.aload_n 0, 1) := by decide +kernel
theorem d_Mo_signal_163 : decode m_Mo_signal.2.1 163 = .ok (.iload_n 1, 1) := by decide +kernel
theorem d_Mo_signal_164 : decode m_Mo_signal.2.1 164 = .ok (.ineg, 1) := by decide +kernel
theorem d_Mo_signal_165 : decode m_Mo_signal.2.1 165 = .ok (.iconst 1, 1) := by decide +kernel
theorem d_Mo_signal_166 : decode m_Mo_signal.2.1 166 = .ok (.isub, 1) := by decide +kernel
theorem d_Mo_signal_167 : decode m_Mo_signal.2.1 167 = .ok (.iconst 0, 1) := by decide +kernel
theorem k_Mo_signal_230 : jl_cv m_Mo_signal m_Mo_end 230 2 = true := by decide +kernel
theorem d_Mo_signal_168 : decode m_Mo_signal.2.1 168 = .ok (.invokevirtual 230, 3) := by decide +kernel
theorem d_Mo_signal_171 : decode m_Mo_signal.2.1 171 = .ok (.goto 15, 3) := by decide +kernel
theorem d_Mo_signal_186 : decode m_Mo_signal.2.1 186 = .ok (.return_, 1) := by decide +kernel
theorem mo_sig_es (hl : l.stackTraces = false) {P : jl_O → jl_S → Prop}  (hn : NQ σ0 σ [] H fa vf wh wy hg ov oh dn an) (hwt : wt < 0) (hwn : -(wt) - (nI (1)) = nI n) (hE : ∀ σ', NQ σ0 σ' [] H fa vf wh wy hg (nI n) (nI 0) dn an → P (.inl none) σ') : jl_E l G m_Mo_signal (0, 0) 0 [some (.ref 22), some (.int (wt)), none, none, none, none] [] σ P := by
  obtain ⟨fx, fp, fh, lw, lk, vl, vk, ks, kc, kv, lo, sk, hO, f1, f2, f3, f4, f5, f6, f7, hH, hB, hy1, hR1, hF⟩ := id hn
  obtain ⟨k1, k2, k3⟩ := id hH
  obtain ⟨⟨r1, r2⟩, hlo, hsk⟩ := id hR1
  refine er_aload_n d_Mo_signal_0 rfl ?_
  refine er_getf d_Mo_signal_1 f_Mo_signal_224 hO rfl ?_
  refine er_if_le 158 d_Mo_signal_4 (by decide) (fun _ => ?_) (fun z => absurd (by decide) z)
  refine er_iload_n d_Mo_signal_158 rfl ?_
  refine er_if_ge 174 d_Mo_signal_159 (by decide) (fun z => absurd z (Int32.not_le.mpr hwt)) (fun _ => ?_)
  refine er_aload_n d_Mo_signal_162 rfl ?_
  refine er_iload_n d_Mo_signal_163 rfl ?_
  refine er_ineg d_Mo_signal_164 ?_
  refine er_iconst ((nI (1))) d_Mo_signal_165 (by decide) ?_
  refine er_isub d_Mo_signal_166 ?_
  rw [show (-(wt)) - (nI (1)) = nI n from hwn]
  show jl_E l G m_Mo_signal (0, 0) 167 [some (.ref 22), some (.int (wt)), none, none, none, none] [.int (nI n), .ref 22] (σ) P
  refine er_iconst ((nI (0))) d_Mo_signal_167 (by decide) ?_
  refine er_callV (As := [.int (nI n), .int (nI 0)]) d_Mo_signal_168 k_Mo_signal_230 hO rfl rfl rfl (Nat.le_of_ble_eq_true rfl) (by decide) (by decide) (mo_mend hl hO) ?_
  show jl_E l G m_Mo_signal (0, 0) 171 [some (.ref 22), some (.int (wt)), none, none, none, none] [] (σ.set (22) (.inr (7, [.int (fa), .ref 23, .ref 24, .ref 25, .ref 26, .ref 27, .ref 28, .ref 29, .ref 30, .ref 31, .ref 32, .ref 33, .ref 34, .ref 35, .ref 36, .ref 37, .int (vf), .int (wh), .int (wy), .ref 38, .ref 39, .ref 40, .ref 41, .int (hg), .ref 42, .ref 43, .ref 44, .ref 45, .ref 46, .ref 47, .ref 48, .ref 49, .int (nI 0), .ref 50, .ref 51, .ref 52, .int (nI (H.n)), .int (nI n), .int (nI 0), .int (dn), .int (an)]))) P
  refine er_goto 186 d_Mo_signal_171 (by decide) ?_
  exact er_vret d_Mo_signal_186 rfl (hE _ ⟨_, _, _, _, _, _, _, _, _, _, _, _, (jl_ss hO), (jl_sn (by decide) f1), (jl_sn (by decide) f2), (jl_sn (by decide) f3), (jl_sn (by decide) f4), (jl_sn (by decide) f5), (jl_sn (by decide) f6), (jl_sn (by decide) f7), ⟨(jl_sn (by decide) k1), (jl_sn (by decide) k2), (jl_sn (by decide) k3)⟩, hB, trivial, ⟨⟨(jl_sn (by decide) r1), (jl_sn (by decide) r2)⟩, hlo, hsk⟩, hF.set (by omega)⟩) (by decide) (by decide)
theorem d_Mo_signal_174 : decode m_Mo_signal.2.1 174 = .ok (.aload_n 0, 1) := by decide +kernel
theorem d_Mo_signal_175 : decode m_Mo_signal.2.1 175 = .ok (.bipush 7, 2) := by decide +kernel
theorem d_Mo_signal_177 : decode m_Mo_signal.2.1 177 = .ok (.aload_n 0, 1) := by decide +kernel
theorem d_Mo_signal_178 : decode m_Mo_signal.2.1 178 = .ok (.getfield 99, 3) := by decide +kernel
theorem d_Mo_signal_181 : decode m_Mo_signal.2.1 181 = .ok (.iload_n 1, 1) := by decide +kernel
theorem d_Mo_signal_182 : decode m_Mo_signal.2.1 182 = .ok (.iaload, 1) := by decide +kernel
theorem d_Mo_signal_183 : decode m_Mo_signal.2.1 183 = .ok (.invokevirtual 230, 3) := by decide +kernel
theorem mo_sig_et (hl : l.stackTraces = false) {P : jl_O → jl_S → Prop}  (hn : NQ σ0 σ [] H fa vf wh wy hg ov oh dn an) (hq : q < H.n) (hn40 : H.n ≤ 40) (hso : H.so q = some k) (hE : ∀ σ', NQ σ0 σ' [] H fa vf wh wy hg (nI 7) (nI k) dn an → P (.inl none) σ') : jl_E l G m_Mo_signal (0, 0) 0 [some (.ref 22), some (.int (nI q)), none, none, none, none] [] σ P := by
  obtain ⟨fx, fp, fh, lw, lk, vl, vk, ks, kc, kv, lo, sk, hO, f1, f2, f3, f4, f5, f6, f7, hH, hB, hy1, hR1, hF⟩ := id hn
  obtain ⟨k1, k2, k3⟩ := id hH
  obtain ⟨⟨r1, r2⟩, hlo, hsk⟩ := id hR1
  refine er_aload_n d_Mo_signal_0 rfl ?_
  refine er_getf d_Mo_signal_1 f_Mo_signal_224 hO rfl ?_
  refine er_if_le 158 d_Mo_signal_4 (by decide) (fun _ => ?_) (fun z => absurd (by decide) z)
  refine er_iload_n d_Mo_signal_158 rfl ?_
  refine er_if_ge 174 d_Mo_signal_159 (by decide) (fun _ => ?_) (fun z => absurd (Int32.not_lt.mp (nI_pos (by omega))) z)
  refine er_aload_n d_Mo_signal_174 rfl ?_
  refine er_bipush ((nI (7))) d_Mo_signal_175 (by decide) ?_
  refine er_aload_n d_Mo_signal_177 rfl ?_
  refine er_getf d_Mo_signal_178 f_Mo_signal_99 hO rfl ?_
  refine er_iload_n d_Mo_signal_181 rfl ?_
  refine er_ialdQ (v := (nI (k))) d_Mo_signal_182 k1 (by omega) (by omega) ((hB q hq).1.trans (congrArg soI hso)) ?_
  refine er_callV (As := [.int (nI 7), .int (nI k)]) d_Mo_signal_183 k_Mo_signal_230 hO rfl rfl rfl (Nat.le_of_ble_eq_true rfl) (by decide) (by decide) (mo_mend hl hO) ?_
  show jl_E l G m_Mo_signal (0, 0) 186 [some (.ref 22), some (.int (nI q)), none, none, none, none] [] (σ.set (22) (.inr (7, [.int (fa), .ref 23, .ref 24, .ref 25, .ref 26, .ref 27, .ref 28, .ref 29, .ref 30, .ref 31, .ref 32, .ref 33, .ref 34, .ref 35, .ref 36, .ref 37, .int (vf), .int (wh), .int (wy), .ref 38, .ref 39, .ref 40, .ref 41, .int (hg), .ref 42, .ref 43, .ref 44, .ref 45, .ref 46, .ref 47, .ref 48, .ref 49, .int (nI 0), .ref 50, .ref 51, .ref 52, .int (nI (H.n)), .int (nI 7), .int (nI k), .int (dn), .int (an)]))) P
  exact er_vret d_Mo_signal_186 rfl (hE _ ⟨_, _, _, _, _, _, _, _, _, _, _, _, (jl_ss hO), (jl_sn (by decide) f1), (jl_sn (by decide) f2), (jl_sn (by decide) f3), (jl_sn (by decide) f4), (jl_sn (by decide) f5), (jl_sn (by decide) f6), (jl_sn (by decide) f7), ⟨(jl_sn (by decide) k1), (jl_sn (by decide) k2), (jl_sn (by decide) k3)⟩, hB, trivial, ⟨⟨(jl_sn (by decide) r1), (jl_sn (by decide) r2)⟩, hlo, hsk⟩, hF.set (by omega)⟩) (by decide) (by decide)
theorem mo_sigT_s (hl : l.stackTraces = false) {P : jl_O → jl_S → Prop} (hw0 : MoW σ0 tb pr ow ft hs) (hu0 : MoM σ0 u1 u2 ur ul uo ua uc us ut uk) (hcf : ∀ j, j < 48 → us j < 1024 ∧ ut j < 24 ∧ uk j < 7) (hwt : wt < 0) (hwn : -(wt) - (nI (1)) = nI n) {g : Fm} {gs : List Fm} (hn : NB σ0 σ 0 gs.length g.m g.p h g.R g.V gs H fa vf wh wy hg ov oh dn an) (h12 : gs.length < 12) (ho : g.m < 24 ∧ g.p < 24 ∧ ctM (D g.m) uc us ut uk g.m ∧ uc g.m ≤ 2) (hdn : cti pr (D g.m) g.p none (uc g.m - 0) 0 = none → ∀ σ', NQ σ0 σ' gs H fa vf wh wy hg ov oh dn an → jl_E l G m_Mo_signal (0, 0) 0 [some (.ref 22), some (.int wt), none, none, none, none] [] σ' P) (hG : (∀ f' fs' σ', rse pr D none (-1) (g :: gs) = some (f' :: fs') → NB σ0 σ' (hgt f'.R) fs'.length f'.m f'.p (hgt f'.R) f'.R f'.V fs' H fa vf wh wy hg ov oh dn an → P (.inl none) σ')) : jl_E l G m_Mo_signal (0, 0) 0 [some (.ref 22), some (.int wt), none, none, none, none] [] σ P := by
  have hF : FrN σ0 σ := by obtain ⟨_, _, _, _, _, _, _, _, _, _, _, _, _, _, _, _, _, _, _, _, _, _, _, _, hF⟩ := hn; exact hF
  refine mo_sig_bs (m := g.m) (p := g.p) (R := g.R) (V := g.V) hl hn (hw0.fn hF) (hu0.fn hF) h12 ho.1 ho.2.1 ho.2.2.1 ho.2.2.2 (fun i hi => hcf _ (by omega)) hwt hdn (fun k' σ' z h6 hb => ?_) (fun k' σ' z h6 hb => ?_)
  · have e : cgt (D g.m) g k' none (-1) = ⟨g.m, dtg (D g.m) k', va_up g.R 6 (some 0), g.V⟩ := by unfold cgt; rw [if_pos h6]
    have z2 : cti pr (D g.m) g.p none (dnc (D g.m)) 0 = some k' := by rw [ho.2.2.1.1]; exact z
    refine hG (cgt (D g.m) g k' none (-1)) gs σ' (by rw [rse, z2]) ?_
    rw [e]
    show NB σ0 σ' (hgt (va_up g.R 6 (some 0))) gs.length g.m (dtg (D g.m) k') (hgt (va_up g.R 6 (some 0))) (va_up g.R 6 (some 0)) g.V gs H fa vf wh wy hg ov oh dn an
    rw [hgt_six2]
    exact hb
  · have e : cgt (D g.m) g k' none (-1) = ⟨g.m, dtg (D g.m) k', psh g.R 0 none, va_up g.V 7 (-1)⟩ := by unfold cgt; rw [if_neg h6]
    have z2 : cti pr (D g.m) g.p none (dnc (D g.m)) 0 = some k' := by rw [ho.2.2.1.1]; exact z
    refine hG (cgt (D g.m) g k' none (-1)) gs σ' (by rw [rse, z2]) ?_
    rw [e]
    exact hb
theorem mo_sigL_s (hl : l.stackTraces = false) {P : jl_O → jl_S → Prop} (hw0 : MoW σ0 tb pr ow ft hs) (hu0 : MoM σ0 u1 u2 ur ul uo ua uc us ut uk) (hcf : ∀ j, j < 48 → us j < 1024 ∧ ut j < 24 ∧ uk j < 7) (hwt : wt < 0) (hwn : -(wt) - (nI (1)) = nI n) : ∀ (F : List Fm) (σ : jl_S), NQ σ0 σ F H fa vf wh wy hg ov oh dn an → F.length ≤ 12 → (∀ f ∈ F, f.m < 24 ∧ f.p < 24 ∧ ctM (D f.m) uc us ut uk f.m ∧ uc f.m ≤ 2) → (∀ f' fs' σ', rse pr D none (-1) F = some (f' :: fs') → NB σ0 σ' (hgt f'.R) fs'.length f'.m f'.p (hgt f'.R) f'.R f'.V fs' H fa vf wh wy hg ov oh dn an → P (.inl none) σ') → (rse pr D none (-1) F = none → ∀ σ', NQ σ0 σ' [] H fa vf wh wy hg (nI n) (nI 0) dn an → P (.inl none) σ') → jl_E l G m_Mo_signal (0, 0) 0 [some (.ref 22), some (.int wt), none, none, none, none] [] σ P := by
  intro F
  induction F with
  | nil => intro σ hn _ _ _ hE; exact mo_sig_es hl hn hwt hwn (hE rfl)
  | cons g gs ih =>
    intro σ hn h12 ho hG hE
    rw [List.length_cons] at h12
    have hog := ho g List.mem_cons_self
    exact mo_sigT_s hl hw0 hu0 hcf hwt hwn (hn.top.le (Nat.zero_le _)) (by omega) hog (fun z σ' hq' => by
      have hr : rse pr D none (-1) (g :: gs) = rse pr D none (-1) gs := by
        have z2 : cti pr (D g.m) g.p none (dnc (D g.m)) 0 = none := by rw [hog.2.2.1.1]; exact z
        rw [rse, z2]
      exact ih σ' hq' (by omega) (fun f hf => ho f (List.mem_cons_of_mem _ hf)) (fun f' fs' σ2 q => hG f' fs' σ2 (hr.trans q)) (fun q => hE (hr.trans q))) hG
theorem mo_sigT_t (hl : l.stackTraces = false) {P : jl_O → jl_S → Prop} (hw0 : MoW σ0 tb pr ow ft hs) (hu0 : MoM σ0 u1 u2 ur ul uo ua uc us ut uk) (hcf : ∀ j, j < 48 → us j < 1024 ∧ ut j < 24 ∧ uk j < 7) (hq : q < H.n) (hn40 : H.n ≤ 40) (hso : H.so q = some k) (hk6 : k < 6) (hd : dsc pr) {g : Fm} {gs : List Fm} (hn : NB σ0 σ 0 gs.length g.m g.p h g.R g.V gs H fa vf wh wy hg ov oh dn an) (h12 : gs.length < 12) (ho : g.m < 24 ∧ g.p < 24 ∧ ctM (D g.m) uc us ut uk g.m ∧ uc g.m ≤ 2) (hdn : cti pr (D g.m) g.p (some (10 + k)) (uc g.m - 0) 0 = none → ∀ σ', NQ σ0 σ' gs H fa vf wh wy hg ov oh dn an → jl_E l G m_Mo_signal (0, 0) 0 [some (.ref 22), some (.int (nI q)), none, none, none, none] [] σ' P) (hG : (∀ f' fs' σ', rse pr D (some (10 + k)) (nI q) (g :: gs) = some (f' :: fs') → NB σ0 σ' (hgt f'.R) fs'.length f'.m f'.p (hgt f'.R) f'.R f'.V fs' H fa vf wh wy hg ov oh dn an → P (.inl none) σ')) : jl_E l G m_Mo_signal (0, 0) 0 [some (.ref 22), some (.int (nI q)), none, none, none, none] [] σ P := by
  have hF : FrN σ0 σ := by obtain ⟨_, _, _, _, _, _, _, _, _, _, _, _, _, _, _, _, _, _, _, _, _, _, _, _, hF⟩ := hn; exact hF
  refine mo_sig_bt (m := g.m) (p := g.p) (R := g.R) (V := g.V) hl hn (hw0.fn hF) (hu0.fn hF) h12 ho.1 ho.2.1 ho.2.2.1 ho.2.2.2 (fun i hi => hcf _ (by omega)) hq hn40 hso hk6 hd hdn (fun k' σ' z h6 hb => ?_) (fun k' σ' z h6 hb => ?_)
  · have e : cgt (D g.m) g k' (some (10 + k)) (nI q) = ⟨g.m, dtg (D g.m) k', va_up g.R 6 (some 0), g.V⟩ := by unfold cgt; rw [if_pos h6]
    have z2 : cti pr (D g.m) g.p (some (10 + k)) (dnc (D g.m)) 0 = some k' := by rw [ho.2.2.1.1]; exact z
    refine hG (cgt (D g.m) g k' (some (10 + k)) (nI q)) gs σ' (by rw [rse, z2]) ?_
    rw [e]
    show NB σ0 σ' (hgt (va_up g.R 6 (some 0))) gs.length g.m (dtg (D g.m) k') (hgt (va_up g.R 6 (some 0))) (va_up g.R 6 (some 0)) g.V gs H fa vf wh wy hg ov oh dn an
    rw [hgt_six2]
    exact hb
  · have e : cgt (D g.m) g k' (some (10 + k)) (nI q) = ⟨g.m, dtg (D g.m) k', psh g.R 0 (some (10 + k)), va_up g.V 7 (nI q)⟩ := by unfold cgt; rw [if_neg h6]
    have z2 : cti pr (D g.m) g.p (some (10 + k)) (dnc (D g.m)) 0 = some k' := by rw [ho.2.2.1.1]; exact z
    refine hG (cgt (D g.m) g k' (some (10 + k)) (nI q)) gs σ' (by rw [rse, z2]) ?_
    rw [e]
    exact hb
theorem mo_sigL_t (hl : l.stackTraces = false) {P : jl_O → jl_S → Prop} (hw0 : MoW σ0 tb pr ow ft hs) (hu0 : MoM σ0 u1 u2 ur ul uo ua uc us ut uk) (hcf : ∀ j, j < 48 → us j < 1024 ∧ ut j < 24 ∧ uk j < 7) (hq : q < H.n) (hn40 : H.n ≤ 40) (hso : H.so q = some k) (hk6 : k < 6) (hd : dsc pr) : ∀ (F : List Fm) (σ : jl_S), NQ σ0 σ F H fa vf wh wy hg ov oh dn an → F.length ≤ 12 → (∀ f ∈ F, f.m < 24 ∧ f.p < 24 ∧ ctM (D f.m) uc us ut uk f.m ∧ uc f.m ≤ 2) → (∀ f' fs' σ', rse pr D (some (10 + k)) (nI q) F = some (f' :: fs') → NB σ0 σ' (hgt f'.R) fs'.length f'.m f'.p (hgt f'.R) f'.R f'.V fs' H fa vf wh wy hg ov oh dn an → P (.inl none) σ') → (rse pr D (some (10 + k)) (nI q) F = none → ∀ σ', NQ σ0 σ' [] H fa vf wh wy hg (nI 7) (nI k) dn an → P (.inl none) σ') → jl_E l G m_Mo_signal (0, 0) 0 [some (.ref 22), some (.int (nI q)), none, none, none, none] [] σ P := by
  intro F
  induction F with
  | nil => intro σ hn _ _ _ hE; exact mo_sig_et hl hn hq hn40 hso (hE rfl)
  | cons g gs ih =>
    intro σ hn h12 ho hG hE
    rw [List.length_cons] at h12
    have hog := ho g List.mem_cons_self
    exact mo_sigT_t hl hw0 hu0 hcf hq hn40 hso hk6 hd (hn.top.le (Nat.zero_le _)) (by omega) hog (fun z σ' hq' => by
      have hr : rse pr D (some (10 + k)) (nI q) (g :: gs) = rse pr D (some (10 + k)) (nI q) gs := by
        have z2 : cti pr (D g.m) g.p (some (10 + k)) (dnc (D g.m)) 0 = none := by rw [hog.2.2.1.1]; exact z
        rw [rse, z2]
      exact ih σ' hq' (by omega) (fun f hf => ho f (List.mem_cons_of_mem _ hf)) (fun f' fs' σ2 q => hG f' fs' σ2 (hr.trans q)) (fun q => hE (hr.trans q))) hG
end JNxg
