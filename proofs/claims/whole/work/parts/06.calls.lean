/-! rows of jl_W that make cells, end, throw and call; a method's contract out of its walk -/
section JC
variable {l : Launch} {G : jl_G} {M : jl_M} {u : Nat × Nat} {pc : Nat} {ls : List (Option Value)} {st : List Value} {σ : jl_S} {o : jl_O} {σ' : jl_S}
variable {p : Program} {s : State} {m : MethodId} {args : Array Value} {meth : Method} {c : Code} {H : Heap} {locs : List Loc} {la : Array Slot} {n0 : Nat} {ad0 ad : Nat → Nat}
/-- a new cell at q: the numbers of the others stay -/
theorem jl_ok_push {d : jl_C} (h : jl_ok σ) (hd : jl_okc (σ.length + 1) d) : jl_ok (σ ++ [d]) := by
  intro i x hx
  rw [List.length_append]
  by_cases hi : i < σ.length
  · rw [List.getElem?_append_left hi] at hx
    have h1 := h i x hx
    rcases x with ⟨t, a⟩ | ⟨k, fs⟩
    · exact fun f hf j q hq => Nat.lt_succ_of_lt (h1 f hf j q hq)
    · exact fun v hv q hq => Nat.lt_succ_of_lt (h1 v hv q hq)
  · rw [List.getElem?_append_right (Nat.not_lt.mp hi)] at hx
    have hz : i - σ.length < 1 := (List.getElem?_eq_some_iff.mp hx).1
    rw [show i - σ.length = 0 by omega] at hx
    cases hx
    exact hd
theorem jl_At.new {d : jl_C} {q : Nat} {H1 : Heap} (h : jl_At l G M p s m args meth c H locs la n0 ad0 ad ls st σ) (hd : jl_okc (σ.length + 1) d) (hP : va_P G.1 jl_cl (jl_ws G.2.1 ad σ ++ [(q, jl_e G.2.1 (va_up ad σ.length q) d)]) H1) (hD : va_D (jl_A G) (jl_ws G.2.1 ad σ ++ [(q, jl_e G.2.1 (va_up ad σ.length q) d)])) (hS : va_S (jl_A G) s.heap H1 locs) : jl_At l G M p s m args meth c H1 locs la n0 ad0 (va_up ad σ.length q) ls (.ref σ.length :: st) (σ ++ [d]) := by
  rw [← jl_ws_push h.2.2.1.2.2] at hP hD
  refine ⟨h.1, hS, ⟨hP, hD, jl_ok_push h.2.2.1.2.2 hd⟩, ⟨h.2.2.2.1.1, h.2.2.2.1.2.1, fun i v hv => ?_⟩, fun i v hv j hj => ?_, ?_, ?_, fun i hi => ?_⟩
  · rw [jl_v_up (h.wls i v hv)]
    exact h.2.2.2.1.2.2 i v hv
  · rw [List.length_append]
    exact Nat.lt_succ_of_lt (h.wls i v hv j hj)
  · rw [List.length_append]
    exact jl_cs (jl_ir (Nat.lt_succ_self _)) (fun v hv j hj => Nat.lt_succ_of_lt (h.wst v hv j hj))
  · rw [List.length_append]
    exact Nat.le_succ_of_le h.2.2.2.2.2.2.1
  · rw [va_up_ne _ _ (Nat.ne_of_lt (Nat.lt_of_lt_of_le hi h.2.2.2.2.2.2.1))]
    exact h.2.2.2.2.2.2.2 i hi
theorem jl_map_up {q : Nat} (h : ∀ v ∈ st, jl_in σ.length v) : (Value.ref σ.length :: st).map (jl_v (va_up ad σ.length q)) = .ref q :: st.map (jl_v ad) := by
  rw [List.map_cons, List.map_congr_left fun v hv => jl_v_up (h v hv)]
  simp [jl_v, va_up]
theorem jl_hA (h : jl_At l G M p s m args meth c H locs la n0 ad0 ad ls st σ) : ∀ q : Nat, s.heap.size ≤ q → jl_A G q := fun q hq => Nat.le_trans h.1.2.2.2.2.2.2.2.2.2.1 hq
def jl_df (ci n : Nat) : List Value := (List.range n).map (fun k => defaultValue (jl_ty ci k))
def jl_nw (M : jl_M) (idx ci n : Nat) : Bool := match jl_cl[ci]? with
  | some r => decide (r.2.2 = n) && decide (Cond.classLink M.1.cls idx r.1 ∈ jl_gw) && decide (Cond.instantiable r.1 n ∈ jl_gw) && decide (Cond.initialized r.1 ∈ jl_gw)
  | none => false
theorem jl_dv (t : FieldType) (i : Nat) : defaultValue t ≠ .ref i := by cases t <;> simp [defaultValue]
theorem jr_new {idx ci n : Nat} (hd : decode M.2.1 pc = .ok (.new idx, 3)) (hn : jl_nw M idx ci n = true) (h1 : u.1 + 1 ≤ M.2.2.2.2.1.cells) (h2 : u.2 + n ≤ M.2.2.2.2.1.slots) (k : jl_W l G M (u.1 + 1, u.2 + n) (pc + 3) ls (.ref σ.length :: st) (σ ++ [.inr (ci, jl_df ci n)]) o σ') : jl_W l G M u pc ls st σ o σ' := by
  intro p e s m args below meth c H locs la n0 ad0 ad h
  unfold jl_nw at hn
  split at hn
  · next r hr =>
    simp only [Bool.and_eq_true, decide_eq_true_eq] at hn
    obtain ⟨⟨⟨rfl, hl⟩, hi⟩, hini⟩ := hn
    have hdf : ∀ j, j < r.2.2 → defaultValue (jl_ty ci j) = vp_V (jl_df ci r.2.2) j := fun j hj => by simp [vp_V, jl_df, hj]
    have hmap : ∀ z : Nat → Nat, (jl_df ci r.2.2).map (jl_v z) = jl_df ci r.2.2 := fun z => by
      unfold jl_df
      rw [List.map_map]
      apply List.map_congr_left
      intro j _
      simp only [Function.comp]
      cases jl_ty ci j <;> rfl
    refine va_new (C := r.1) (T := r.2.1) (N := r.2.2) (fs := jl_df ci r.2.2) h.1.1 h.1.2.1 h.ts (jl_lays r (List.mem_of_getElem? hr)) (jl_ty ci) (fun k hk => (jl_tyok hr k hk).1) h.own (h.ts _ hl) (h.ts _ hi) (h.ts _ hini) h.K.1 h.2.2.1.1 h.2.2.1.2.1 h.2.1 (jl_hA h) hr hdf h1 h2 hd (fun q H1 hP hD hS => ?_)
    have hok : jl_okc (σ.length + 1) (.inr (ci, jl_df ci r.2.2)) := by
      intro v hv i hi
      unfold jl_df at hv
      obtain ⟨j, -, hj⟩ := List.mem_map.mp hv
      exact absurd (hj.trans hi) (jl_dv _ _)
    have e1 : jl_e G.2.1 (va_up ad σ.length q) (.inr (ci, jl_df ci r.2.2)) = .inr (ci, jl_df ci r.2.2) := by simp only [jl_e, hmap]
    have k2 := k p e s m args below meth c H1 locs la n0 ad0 (va_up ad σ.length q) (h.new (d := .inr (ci, jl_df ci r.2.2)) (q := q) hok (by rw [e1]; exact hP) (by rw [e1]; exact hD) hS)
    rw [jl_map_up h.wst] at k2
    exact k2
  · cases hn
theorem jl_acI : Cond.arrayClass (newarray.typeOf .int) ∈ jl_gw := by decide +kernel
theorem jl_acZ : Cond.arrayClass (newarray.typeOf .boolean) ∈ jl_gw := by decide +kernel
theorem jl_acJ : Cond.arrayClass (newarray.typeOf .long) ∈ jl_gw := by decide +kernel
theorem jl_RA {ty : FieldType} {t : Nat} {cA : ClassId} {tys : List (ClassId × FieldType)} (hK : jl_K G s) (ht : (jl_tys G.2.1)[t]? = some (G.2.1 t, ty)) (hp : refKind ty = false) (hK2 : va_K G.1 jl_cl (jl_tys G.2.1 ++ [(cA, ty)]) s) : cA = G.2.1 t := by
  have h1 := (hK.1.2 t _ ht).2
  have h2 := (hK2.2 4 (cA, ty) rfl).2
  cases ty <;> first | exact Option.some.inj (h2.symm.trans h1) | (simp [refKind] at hp)
theorem jr_newI {N : Nat} {n : Int32} (hd : decode M.2.1 pc = .ok (.newarray .int, 2)) (hn : n = nI N) (hN : N ≤ 100000) (h1 : u.1 + 1 ≤ M.2.2.2.2.1.cells) (h2 : u.2 + N ≤ M.2.2.2.2.1.slots) (k : jl_W l G M (u.1 + 1, u.2 + N) (pc + 2) ls (.ref σ.length :: st) (σ ++ [.inl (0, N, .inl fun _ => 0)]) o σ') : jl_W l G M u pc ls (.int n :: st) σ o σ' := by
  intro p e s m args below meth c H locs la n0 ad0 ad h
  have hb : N < 2 ^ 31 := by omega
  subst hn
  refine va_newa (ty := .int) (a0 := (N, .inl fun _ => 0)) h.1.1 h.1.2.1 (h.ts _ jl_acI) rfl h.K.1 h.2.2.1.1 h.2.2.1.2.1 h.2.1 (jl_hA h) (fun cA => rfl) (nI_pos hb) (nI_clamp hb) (by show N * 4 ≤ 536870912; omega) h1 h2 hd (fun q cA H1 hK2 hP hD hS => ?_)
  have e0 := jl_RA (t := 0) (ty := .int) (tys := []) h.K rfl rfl hK2
  subst e0
  have k2 := k p e s m args below meth c H1 locs la n0 ad0 (va_up ad σ.length q) ((h.re (jl_tl h.wst)).new (d := .inl (0, N, .inl fun _ => 0)) (q := q) (fun f hf => by cases hf) hP hD hS)
  rw [jl_map_up (jl_tl h.wst)] at k2
  exact k2
theorem jr_newZ {N : Nat} {n : Int32} (hd : decode M.2.1 pc = .ok (.newarray .boolean, 2)) (hn : n = nI N) (hN : N ≤ 100000) (h1 : u.1 + 1 ≤ M.2.2.2.2.1.cells) (h2 : u.2 + N ≤ M.2.2.2.2.1.slots) (k : jl_W l G M (u.1 + 1, u.2 + N) (pc + 2) ls (.ref σ.length :: st) (σ ++ [.inl (1, N, .inl fun _ => 0)]) o σ') : jl_W l G M u pc ls (.int n :: st) σ o σ' := by
  intro p e s m args below meth c H locs la n0 ad0 ad h
  have hb : N < 2 ^ 31 := by omega
  subst hn
  refine va_newa (ty := .boolean) (a0 := (N, .inl fun _ => 0)) h.1.1 h.1.2.1 (h.ts _ jl_acZ) rfl h.K.1 h.2.2.1.1 h.2.2.1.2.1 h.2.1 (jl_hA h) (fun cA => rfl) (nI_pos hb) (nI_clamp hb) (by show N * 1 ≤ 536870912; omega) h1 h2 hd (fun q cA H1 hK2 hP hD hS => ?_)
  have e0 := jl_RA (t := 1) (ty := .boolean) (tys := []) h.K rfl rfl hK2
  subst e0
  have k2 := k p e s m args below meth c H1 locs la n0 ad0 (va_up ad σ.length q) ((h.re (jl_tl h.wst)).new (d := .inl (1, N, .inl fun _ => 0)) (q := q) (fun f hf => by cases hf) hP hD hS)
  rw [jl_map_up (jl_tl h.wst)] at k2
  exact k2
theorem jr_newA {N idx : Nat} {n : Int32} (hd : decode M.2.1 pc = .ok (.anewarray idx, 3)) (hc : Cond.classLink M.1.cls idx "JavaChain$Method" ∈ jl_gw) (hn : n = nI N) (hN : N ≤ 100000) (h1 : u.1 + 1 ≤ M.2.2.2.2.1.cells) (h2 : u.2 + N ≤ M.2.2.2.2.1.slots) (k : jl_W l G M (u.1 + 1, u.2 + N) (pc + 3) ls (.ref σ.length :: st) (σ ++ [.inl (3, N, .inr (.inr (.inr (.inr fun _ => none))))]) o σ') : jl_W l G M u pc ls (.int n :: st) σ o σ' := by
  intro p e s m args below meth c H locs la n0 ad0 ad h
  have hb : N < 2 ^ 31 := by omega
  subst hn
  refine va_newq h.1.1 h.1.2.1 h.own (h.ts _ hc) h.K.2.2.2.2.2.2.2.1 h.K.1 h.2.2.1.1 h.2.2.1.2.1 h.2.1 (jl_hA h) (nI_pos hb) (nI_clamp hb) (by omega) h1 h2 hd (fun q cA H1 hK2 hP hD hS => ?_)
  have e0 : cA = G.2.1 3 := by
    obtain ⟨-, -, -, -, -, a4⟩ := (h.K.1.2 3 _ rfl).2
    obtain ⟨-, -, -, -, -, b4⟩ := (hK2.2 4 (cA, .object "JavaChain$Method") rfl).2
    exact Option.some.inj (b4.symm.trans a4)
  subst e0
  have k2 := k p e s m args below meth c H1 locs la n0 ad0 (va_up ad σ.length q) ((h.re (jl_tl h.wst)).new (d := .inl (3, N, .inr (.inr (.inr (.inr fun _ => none))))) (q := q) (fun f hf => by cases hf; intro j i hj; cases hj) hP hD hS)
  rw [jl_map_up (jl_tl h.wst)] at k2
  exact k2
end JC
