/-! the same rows over natural numbers; ends by equations -/
section JN
variable {l : Launch} {G : jl_G} {M : jl_M} {u : Nat × Nat} {pc : Nat} {ls : List (Option Value)} {st : List Value} {σ : jl_S} {o : jl_O} {σ' : jl_S}
theorem jl_ca : ∀ v ∈ ([] : List Value), v.category = 1 := fun _ h => by cases h
theorem jl_cc {v : Value} {vs : List Value} (h : v.category = 1) (hs : ∀ w ∈ vs, w.category = 1) : ∀ w ∈ v :: vs, w.category = 1 := fun w hw => (List.mem_cons.mp hw).elim (fun e => e ▸ h) (hs w)
theorem jl_sn {a b : Nat} {c : jl_C} {x : Option jl_C} (h : a ≠ b) (hx : σ[b]? = x) : (σ.set a c)[b]? = x := by rw [List.getElem?_set_ne h]; exact hx
theorem jl_ss {a : Nat} {c d : jl_C} (h : σ[a]? = some d) : (σ.set a c)[a]? = some c := List.getElem?_set_self (List.getElem?_eq_some_iff.mp h).1
theorem jl_inc (n : Nat) : nI n + Int32.ofInt 1 = nI (n + 1) := nI_1 n
theorem jl_oeq {o1 : jl_O} (h : o = o1) (k : jl_W l G M u pc ls st σ o1 σ') : jl_W l G M u pc ls st σ o σ' := h ▸ k
theorem jl_fit_b {x : Int32} (h : x = 0 ∨ x = 1) : jl_fit .boolean (.int x) := by
  rcases h with rfl | rfl
  · exact jl_fit_b0
  · exact jl_fit_b1
theorem jr_iretE {v : Int32} (hd : decode M.2.1 pc = .ok (.ireturn, 1)) (hr : M.2.2.2.1 = some .int) (ho : o = .inl (some (.int v))) (hσ : σ' = σ) (h1 : u.1 ≤ M.2.2.2.2.1.cells) (h2 : u.2 ≤ M.2.2.2.2.1.slots) : jl_W l G M u pc ls [.int v] σ o σ' := by
  rw [ho, hσ]; exact jr_iret hd hr h1 h2
theorem jr_zretE {v : Int32} (hd : decode M.2.1 pc = .ok (.ireturn, 1)) (hr : M.2.2.2.1 = some .boolean) (hv : v = 0 ∨ v = 1) (ho : o = .inl (some (.int v))) (hσ : σ' = σ) (h1 : u.1 ≤ M.2.2.2.2.1.cells) (h2 : u.2 ≤ M.2.2.2.2.1.slots) : jl_W l G M u pc ls [.int v] σ o σ' := by
  rw [ho, hσ]; exact jr_zret hd hr hv h1 h2
theorem jr_vretE (hd : decode M.2.1 pc = .ok (.return_, 1)) (hr : M.2.2.2.1 = none) (ho : o = .inl none) (hσ : σ' = σ) (h1 : u.1 ≤ M.2.2.2.2.1.cells) (h2 : u.2 ≤ M.2.2.2.2.1.slots) : jl_W l G M u pc ls [] σ o σ' := by
  rw [ho, hσ]; exact jr_vret hd hr h1 h2
theorem jr_aretE {r : Option Nat} {C : String} (hd : decode M.2.1 pc = .ok (.areturn, 1)) (hr : M.2.2.2.1 = some (.object C)) (ho : o = .inl (some (va_rf r))) (hσ : σ' = σ) (h1 : u.1 ≤ M.2.2.2.2.1.cells) (h2 : u.2 ≤ M.2.2.2.2.1.slots) : jl_W l G M u pc ls [va_rf r] σ o σ' := by
  rw [ho, hσ]; exact jr_aret hd hr h1 h2
theorem jr_throwE {ik ic : Nat} {E : String} (d0 : decode M.2.1 pc = .ok (.new ik, 3)) (d3 : decode M.2.1 (pc + 3) = .ok (.dup, 1)) (d4 : decode M.2.1 (pc + 4) = .ok (.invokespecial ic, 3)) (d7 : decode M.2.1 (pc + 7) = .ok (.athrow, 1)) (hw : jl_tw M ik ic E = true) (ho : o = .inr E) (hσ : σ' = σ) (h1 : u.1 + 1 ≤ M.2.2.2.2.1.cells) (h2 : u.2 + 6 ≤ M.2.2.2.2.1.slots) : jl_W l G M u pc ls [] σ o σ' := by
  rw [ho, hσ]; exact jr_throw d0 d3 d4 d7 hw h1 h2
theorem jr_iaddN {x y : Nat} (hd : decode M.2.1 pc = .ok (.iadd, 1)) (k : jl_W l G M u (pc + 1) ls (.int (nI (x + y)) :: st) σ o σ') : jl_W l G M u pc ls (.int (nI y) :: .int (nI x) :: st) σ o σ' := jr_iadd hd (by rw [nI_add]; exact k)
theorem jr_imulN {x y : Nat} (hd : decode M.2.1 pc = .ok (.imul, 1)) (k : jl_W l G M u (pc + 1) ls (.int (nI (x * y)) :: st) σ o σ') : jl_W l G M u pc ls (.int (nI y) :: .int (nI x) :: st) σ o σ' := jr_imul hd (by rw [pk_mul]; exact k)
theorem jr_isubN {x y : Nat} (hd : decode M.2.1 pc = .ok (.isub, 1)) (h : y ≤ x) (k : jl_W l G M u (pc + 1) ls (.int (nI (x - y)) :: st) σ o σ') : jl_W l G M u pc ls (.int (nI y) :: .int (nI x) :: st) σ o σ' := jr_isub hd (by rw [pk_sub h]; exact k)
theorem jr_idivN {x y : Nat} (hd : decode M.2.1 pc = .ok (.idiv, 1)) (hx : x < 2 ^ 31) (h0 : 0 < y) (hy : y < 2 ^ 31) (k : jl_W l G M u (pc + 1) ls (.int (nI (x / y)) :: st) σ o σ') : jl_W l G M u pc ls (.int (nI y) :: .int (nI x) :: st) σ o σ' := jr_idiv hd (nI_ne0 h0 hy) (by rw [pk_div hx h0 hy]; exact k)
theorem jr_iremN {x y : Nat} (hd : decode M.2.1 pc = .ok (.irem, 1)) (hx : x < 2 ^ 31) (h0 : 0 < y) (hy : y < 2 ^ 31) (k : jl_W l G M u (pc + 1) ls (.int (nI (x % y)) :: st) σ o σ') : jl_W l G M u pc ls (.int (nI y) :: .int (nI x) :: st) σ o σ' := jr_irem hd (nI_ne0 h0 hy) (by rw [pk_rem hx h0 hy]; exact k)
theorem jr_ialdN {a n i : Nat} {f : Nat → Int32} (hd : decode M.2.1 pc = .ok (.iaload, 1)) (ha : σ[a]? = some (.inl (0, n, .inl f))) (hi : i < n) (hn : n < 2 ^ 31) (k : jl_W l G M u (pc + 1) ls (.int (f i) :: st) σ o σ') : jl_W l G M u pc ls (.int (nI i) :: .ref a :: st) σ o σ' := jr_iald hd ha (vp_in_nI hi hn) (by rw [nI_clamp (Nat.lt_trans hi hn)]; exact k)
theorem jr_baldN {a n i : Nat} {f : Nat → Int32} (hd : decode M.2.1 pc = .ok (.baload, 1)) (ha : σ[a]? = some (.inl (1, n, .inl f))) (hi : i < n) (hn : n < 2 ^ 31) (k : jl_W l G M u (pc + 1) ls (.int (f i) :: st) σ o σ') : jl_W l G M u pc ls (.int (nI i) :: .ref a :: st) σ o σ' := jr_bald hd ha (vp_in_nI hi hn) (by rw [nI_clamp (Nat.lt_trans hi hn)]; exact k)
theorem jr_aaldN {a n i : Nat} {f : Nat → Option Nat} (hd : decode M.2.1 pc = .ok (.aaload, 1)) (ha : σ[a]? = some (.inl (3, n, .inr (.inr (.inr (.inr f)))))) (hi : i < n) (hn : n < 2 ^ 31) (k : jl_W l G M u (pc + 1) ls (va_rf (f i) :: st) σ o σ') : jl_W l G M u pc ls (.int (nI i) :: .ref a :: st) σ o σ' := jr_aald hd ha (vp_in_nI hi hn) (by rw [nI_clamp (Nat.lt_trans hi hn)]; exact k)
theorem jr_iastN {a n i : Nat} {f : Nat → Int32} {x : Int32} (hd : decode M.2.1 pc = .ok (.iastore, 1)) (ha : σ[a]? = some (.inl (0, n, .inl f))) (hi : i < n) (hn : n < 2 ^ 31) (k : jl_W l G M u (pc + 1) ls st (σ.set a (.inl (0, n, .inl (upd f i x)))) o σ') : jl_W l G M u pc ls (.int x :: .int (nI i) :: .ref a :: st) σ o σ' := jr_iast hd ha (vp_in_nI hi hn) (by rw [nI_clamp (Nat.lt_trans hi hn)]; exact k)
theorem jl_narb {x : Int32} (h : x = 0 ∨ x = 1) : vp_nar .boolean x = x := by rcases h with rfl | rfl <;> decide
theorem jr_bastN {a n i : Nat} {f : Nat → Int32} {x : Int32} (hd : decode M.2.1 pc = .ok (.bastore, 1)) (ha : σ[a]? = some (.inl (1, n, .inl f))) (hi : i < n) (hn : n < 2 ^ 31) (hx : x = 0 ∨ x = 1) (k : jl_W l G M u (pc + 1) ls st (σ.set a (.inl (1, n, .inl (upd f i x)))) o σ') : jl_W l G M u pc ls (.int x :: .int (nI i) :: .ref a :: st) σ o σ' := jr_bast hd ha (vp_in_nI hi hn) (by rw [nI_clamp (Nat.lt_trans hi hn), jl_narb hx]; exact k)
theorem jr_aastN {a n b i : Nat} {f : Nat → Option Nat} {fs : List Value} (hd : decode M.2.1 pc = .ok (.aastore, 1)) (ha : σ[a]? = some (.inl (3, n, .inr (.inr (.inr (.inr f)))))) (hb : σ[b]? = some (.inr (2, fs))) (hi : i < n) (hn : n < 2 ^ 31) (k : jl_W l G M u (pc + 1) ls st (σ.set a (.inl (3, n, .inr (.inr (.inr (.inr (va_up f i (some b)))))))) o σ') : jl_W l G M u pc ls (.ref b :: .int (nI i) :: .ref a :: st) σ o σ' := jr_aast hd ha hb (vp_in_nI hi hn) (by rw [nI_clamp (Nat.lt_trans hi hn)]; exact k)
theorem jr_icmp_eqN {x y : Nat} {off : Int} (tgt : Nat) (hd : decode M.2.1 pc = .ok (.if_icmp .eq off, 3)) (ht : (pc : Int) + off = (tgt : Int)) (hx : x < 2 ^ 31) (hy : y < 2 ^ 31) (kt : x = y → jl_W l G M u tgt ls st σ o σ') (kf : x ≠ y → jl_W l G M u (pc + 3) ls st σ o σ') : jl_W l G M u pc ls (.int (nI y) :: .int (nI x) :: st) σ o σ' := jr_icmp_eq tgt hd ht (fun z => kt (by have q := (nI_eq hx hy).mp z; omega)) (fun z => kf (by have q := mt (nI_eq hx hy).mpr z; omega))
theorem jr_if_eqN {x : Nat} {off : Int} (tgt : Nat) (hd : decode M.2.1 pc = .ok (.ifCond .eq off, 3)) (ht : (pc : Int) + off = (tgt : Int)) (hx : x < 2 ^ 31) (kt : x = 0 → jl_W l G M u tgt ls st σ o σ') (kf : x ≠ 0 → jl_W l G M u (pc + 3) ls st σ o σ') : jl_W l G M u pc ls (.int (nI x) :: st) σ o σ' := by
  have hx0 : nI x = 0 ↔ x = 0 := by rw [← nI_0]; exact nI_eq hx (by decide)
  have hx1 : nI x < 0 ↔ x < 0 := by rw [← nI_0]; exact nI_ltI hx (by decide)
  have hx2 : 0 < nI x ↔ 0 < x := by rw [← nI_0]; exact nI_ltI (by decide) hx
  have hx3 : nI x ≤ 0 ↔ x ≤ 0 := by rw [← nI_0]; exact nI_leI hx (by decide)
  have hx4 : 0 ≤ nI x ↔ 0 ≤ x := by rw [← nI_0]; exact nI_leI (by decide) hx
  exact jr_if_eq tgt hd ht (fun z => kt (by have q := hx0.mp z; omega)) (fun z => kf (by have q := mt hx0.mpr z; omega))
theorem jr_icmp_neN {x y : Nat} {off : Int} (tgt : Nat) (hd : decode M.2.1 pc = .ok (.if_icmp .ne off, 3)) (ht : (pc : Int) + off = (tgt : Int)) (hx : x < 2 ^ 31) (hy : y < 2 ^ 31) (kt : x ≠ y → jl_W l G M u tgt ls st σ o σ') (kf : x = y → jl_W l G M u (pc + 3) ls st σ o σ') : jl_W l G M u pc ls (.int (nI y) :: .int (nI x) :: st) σ o σ' := jr_icmp_ne tgt hd ht (fun z => kt (by have q := mt (nI_eq hx hy).mpr z; omega)) (fun z => kf (by have q := (nI_eq hx hy).mp z; omega))
theorem jr_if_neN {x : Nat} {off : Int} (tgt : Nat) (hd : decode M.2.1 pc = .ok (.ifCond .ne off, 3)) (ht : (pc : Int) + off = (tgt : Int)) (hx : x < 2 ^ 31) (kt : x ≠ 0 → jl_W l G M u tgt ls st σ o σ') (kf : x = 0 → jl_W l G M u (pc + 3) ls st σ o σ') : jl_W l G M u pc ls (.int (nI x) :: st) σ o σ' := by
  have hx0 : nI x = 0 ↔ x = 0 := by rw [← nI_0]; exact nI_eq hx (by decide)
  have hx1 : nI x < 0 ↔ x < 0 := by rw [← nI_0]; exact nI_ltI hx (by decide)
  have hx2 : 0 < nI x ↔ 0 < x := by rw [← nI_0]; exact nI_ltI (by decide) hx
  have hx3 : nI x ≤ 0 ↔ x ≤ 0 := by rw [← nI_0]; exact nI_leI hx (by decide)
  have hx4 : 0 ≤ nI x ↔ 0 ≤ x := by rw [← nI_0]; exact nI_leI (by decide) hx
  exact jr_if_ne tgt hd ht (fun z => kt (by have q := mt hx0.mpr z; omega)) (fun z => kf (by have q := hx0.mp z; omega))
theorem jr_icmp_ltN {x y : Nat} {off : Int} (tgt : Nat) (hd : decode M.2.1 pc = .ok (.if_icmp .lt off, 3)) (ht : (pc : Int) + off = (tgt : Int)) (hx : x < 2 ^ 31) (hy : y < 2 ^ 31) (kt : x < y → jl_W l G M u tgt ls st σ o σ') (kf : y ≤ x → jl_W l G M u (pc + 3) ls st σ o σ') : jl_W l G M u pc ls (.int (nI y) :: .int (nI x) :: st) σ o σ' := jr_icmp_lt tgt hd ht (fun z => kt (by have q := (nI_ltI hx hy).mp z; omega)) (fun z => kf (by have q := mt (nI_ltI hx hy).mpr z; omega))
theorem jr_if_ltN {x : Nat} {off : Int} (tgt : Nat) (hd : decode M.2.1 pc = .ok (.ifCond .lt off, 3)) (ht : (pc : Int) + off = (tgt : Int)) (hx : x < 2 ^ 31) (kt : x < 0 → jl_W l G M u tgt ls st σ o σ') (kf : 0 ≤ x → jl_W l G M u (pc + 3) ls st σ o σ') : jl_W l G M u pc ls (.int (nI x) :: st) σ o σ' := by
  have hx0 : nI x = 0 ↔ x = 0 := by rw [← nI_0]; exact nI_eq hx (by decide)
  have hx1 : nI x < 0 ↔ x < 0 := by rw [← nI_0]; exact nI_ltI hx (by decide)
  have hx2 : 0 < nI x ↔ 0 < x := by rw [← nI_0]; exact nI_ltI (by decide) hx
  have hx3 : nI x ≤ 0 ↔ x ≤ 0 := by rw [← nI_0]; exact nI_leI hx (by decide)
  have hx4 : 0 ≤ nI x ↔ 0 ≤ x := by rw [← nI_0]; exact nI_leI (by decide) hx
  exact jr_if_lt tgt hd ht (fun z => kt (by have q := hx1.mp z; omega)) (fun z => kf (by have q := mt hx1.mpr z; omega))
theorem jr_icmp_geN {x y : Nat} {off : Int} (tgt : Nat) (hd : decode M.2.1 pc = .ok (.if_icmp .ge off, 3)) (ht : (pc : Int) + off = (tgt : Int)) (hx : x < 2 ^ 31) (hy : y < 2 ^ 31) (kt : y ≤ x → jl_W l G M u tgt ls st σ o σ') (kf : x < y → jl_W l G M u (pc + 3) ls st σ o σ') : jl_W l G M u pc ls (.int (nI y) :: .int (nI x) :: st) σ o σ' := jr_icmp_ge tgt hd ht (fun z => kt (by have q := (nI_leI hy hx).mp z; omega)) (fun z => kf (by have q := mt (nI_leI hy hx).mpr z; omega))
theorem jr_if_geN {x : Nat} {off : Int} (tgt : Nat) (hd : decode M.2.1 pc = .ok (.ifCond .ge off, 3)) (ht : (pc : Int) + off = (tgt : Int)) (hx : x < 2 ^ 31) (kt : 0 ≤ x → jl_W l G M u tgt ls st σ o σ') (kf : x < 0 → jl_W l G M u (pc + 3) ls st σ o σ') : jl_W l G M u pc ls (.int (nI x) :: st) σ o σ' := by
  have hx0 : nI x = 0 ↔ x = 0 := by rw [← nI_0]; exact nI_eq hx (by decide)
  have hx1 : nI x < 0 ↔ x < 0 := by rw [← nI_0]; exact nI_ltI hx (by decide)
  have hx2 : 0 < nI x ↔ 0 < x := by rw [← nI_0]; exact nI_ltI (by decide) hx
  have hx3 : nI x ≤ 0 ↔ x ≤ 0 := by rw [← nI_0]; exact nI_leI hx (by decide)
  have hx4 : 0 ≤ nI x ↔ 0 ≤ x := by rw [← nI_0]; exact nI_leI (by decide) hx
  exact jr_if_ge tgt hd ht (fun z => kt (by have q := hx4.mp z; omega)) (fun z => kf (by have q := mt hx4.mpr z; omega))
theorem jr_icmp_gtN {x y : Nat} {off : Int} (tgt : Nat) (hd : decode M.2.1 pc = .ok (.if_icmp .gt off, 3)) (ht : (pc : Int) + off = (tgt : Int)) (hx : x < 2 ^ 31) (hy : y < 2 ^ 31) (kt : y < x → jl_W l G M u tgt ls st σ o σ') (kf : x ≤ y → jl_W l G M u (pc + 3) ls st σ o σ') : jl_W l G M u pc ls (.int (nI y) :: .int (nI x) :: st) σ o σ' := jr_icmp_gt tgt hd ht (fun z => kt (by have q := (nI_ltI hy hx).mp z; omega)) (fun z => kf (by have q := mt (nI_ltI hy hx).mpr z; omega))
theorem jr_if_gtN {x : Nat} {off : Int} (tgt : Nat) (hd : decode M.2.1 pc = .ok (.ifCond .gt off, 3)) (ht : (pc : Int) + off = (tgt : Int)) (hx : x < 2 ^ 31) (kt : 0 < x → jl_W l G M u tgt ls st σ o σ') (kf : x ≤ 0 → jl_W l G M u (pc + 3) ls st σ o σ') : jl_W l G M u pc ls (.int (nI x) :: st) σ o σ' := by
  have hx0 : nI x = 0 ↔ x = 0 := by rw [← nI_0]; exact nI_eq hx (by decide)
  have hx1 : nI x < 0 ↔ x < 0 := by rw [← nI_0]; exact nI_ltI hx (by decide)
  have hx2 : 0 < nI x ↔ 0 < x := by rw [← nI_0]; exact nI_ltI (by decide) hx
  have hx3 : nI x ≤ 0 ↔ x ≤ 0 := by rw [← nI_0]; exact nI_leI hx (by decide)
  have hx4 : 0 ≤ nI x ↔ 0 ≤ x := by rw [← nI_0]; exact nI_leI (by decide) hx
  exact jr_if_gt tgt hd ht (fun z => kt (by have q := hx2.mp z; omega)) (fun z => kf (by have q := mt hx2.mpr z; omega))
theorem jr_icmp_leN {x y : Nat} {off : Int} (tgt : Nat) (hd : decode M.2.1 pc = .ok (.if_icmp .le off, 3)) (ht : (pc : Int) + off = (tgt : Int)) (hx : x < 2 ^ 31) (hy : y < 2 ^ 31) (kt : x ≤ y → jl_W l G M u tgt ls st σ o σ') (kf : y < x → jl_W l G M u (pc + 3) ls st σ o σ') : jl_W l G M u pc ls (.int (nI y) :: .int (nI x) :: st) σ o σ' := jr_icmp_le tgt hd ht (fun z => kt (by have q := (nI_leI hx hy).mp z; omega)) (fun z => kf (by have q := mt (nI_leI hx hy).mpr z; omega))
theorem jr_if_leN {x : Nat} {off : Int} (tgt : Nat) (hd : decode M.2.1 pc = .ok (.ifCond .le off, 3)) (ht : (pc : Int) + off = (tgt : Int)) (hx : x < 2 ^ 31) (kt : x ≤ 0 → jl_W l G M u tgt ls st σ o σ') (kf : 0 < x → jl_W l G M u (pc + 3) ls st σ o σ') : jl_W l G M u pc ls (.int (nI x) :: st) σ o σ' := by
  have hx0 : nI x = 0 ↔ x = 0 := by rw [← nI_0]; exact nI_eq hx (by decide)
  have hx1 : nI x < 0 ↔ x < 0 := by rw [← nI_0]; exact nI_ltI hx (by decide)
  have hx2 : 0 < nI x ↔ 0 < x := by rw [← nI_0]; exact nI_ltI (by decide) hx
  have hx3 : nI x ≤ 0 ↔ x ≤ 0 := by rw [← nI_0]; exact nI_leI hx (by decide)
  have hx4 : 0 ≤ nI x ↔ 0 ≤ x := by rw [← nI_0]; exact nI_leI (by decide) hx
  exact jr_if_le tgt hd ht (fun z => kt (by have q := hx3.mp z; omega)) (fun z => kf (by have q := mt hx3.mpr z; omega))
end JN
