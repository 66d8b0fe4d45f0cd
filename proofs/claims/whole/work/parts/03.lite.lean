/-! a small machine over the kit: a heap of numbered cells, frames as lists; method contracts as one judgement -/
theorem jl_good {w : Cond} (h : w ∈ jl_gw) : goodWord w = true := (List.mem_filter.mp h).2
theorem jl_lays : ∀ r ∈ jl_cl, ∀ w ∈ u_ws r.1 r.2.1 r.2.2, w ∈ jl_gw := by decide +kernel
theorem jl_tychk : ((List.range 8).all fun c => match jl_cl[c]? with | some r => (List.range r.2.2).all fun k => decide (parseFieldDescriptor (r.2.1 k).2.2.1 = some (jl_ty c k)) && decide ((r.2.1 k).1 = r.1) | none => true) = true := by decide +kernel
theorem jl_nmchk : ((List.range 8).all fun c => match jl_cl[c]? with | some r => (List.range r.2.2).all fun a => (List.range r.2.2).all fun b => decide (a = b) || decide ((r.2.1 a).2.1 ≠ (r.2.1 b).2.1) | none => true) = true := by decide +kernel
theorem jl_cl8 {c : Nat} {r : vw_C} (h : jl_cl[c]? = some r) : c < 8 := (List.getElem?_eq_some_iff.mp h).1
theorem jl_tyok {c : Nat} {r : vw_C} (h : jl_cl[c]? = some r) : ∀ k, k < r.2.2 → parseFieldDescriptor (r.2.1 k).2.2.1 = some (jl_ty c k) ∧ (r.2.1 k).1 = r.1 := by
  intro k hk
  have h1 := List.all_eq_true.mp jl_tychk c (List.mem_range.mpr (jl_cl8 h))
  simp only [h] at h1
  have h2 := List.all_eq_true.mp h1 k (List.mem_range.mpr hk)
  simpa using h2
theorem jl_nmok {c : Nat} {r : vw_C} (h : jl_cl[c]? = some r) : ∀ a, a < r.2.2 → ∀ b, b < r.2.2 → a ≠ b → (r.2.1 a).2.1 ≠ (r.2.1 b).2.1 := by
  intro a ha b hb hne
  have h1 := List.all_eq_true.mp jl_nmchk c (List.mem_range.mpr (jl_cl8 h))
  simp only [h] at h1
  have h2 := List.all_eq_true.mp (List.all_eq_true.mp h1 a (List.mem_range.mpr ha)) b (List.mem_range.mpr hb)
  simpa [hne] using h2
abbrev jl_C : Type := (Nat × vp_A) ⊕ (Nat × List Value)
abbrev jl_S : Type := List jl_C
abbrev jl_O : Type := Option Value ⊕ String
/-- classes and slots, array classes, the base, where TAKES and PUTS lie, the script (its cell, length, ints) -/
abbrev jl_G : Type := va_G × (Nat → ClassId) × Nat × Nat × Nat × Nat × Nat × (Nat → Int32)
/-- a value of ours as the machine has it: a reference is a cell's number; a 'retAddr' stands for an address outside our cells -/
def jl_v (ad : Nat → Nat) (v : Value) : Value := match v with
  | .ref i => .ref (ad i)
  | .int x => .int x
  | .long x => .long x
  | .float x => .float x
  | .double x => .double x
  | .null => .null
  | .retAddr x => .ref x
def jl_a (ad : Nat → Nat) (a : vp_A) : vp_A := (a.1, match a.2 with
  | .inr (.inr (.inr (.inr f))) => .inr (.inr (.inr (.inr fun j => (f j).map ad)))
  | .inr (.inr (.inr (.inl f))) => .inr (.inr (.inr (.inl f)))
  | .inr (.inr (.inl f)) => .inr (.inr (.inl f))
  | .inr (.inl f) => .inr (.inl f)
  | .inl f => .inl f)
def jl_e (aC : Nat → ClassId) (ad : Nat → Nat) (c : jl_C) : va_E := match c with
  | .inl (t, a) => .inl (aC t, jl_a ad a)
  | .inr (k, fs) => .inr (k, fs.map (jl_v ad))
def jl_ws (aC : Nat → ClassId) (ad : Nat → Nat) (σ : jl_S) : va_W := σ.mapIdx (fun i c => (ad i, jl_e aC ad c))
theorem jl_ws_at {aC : Nat → ClassId} {ad : Nat → Nat} {σ : jl_S} {i : Nat} {c : jl_C} (h : σ[i]? = some c) : (jl_ws aC ad σ)[i]? = some (ad i, jl_e aC ad c) := by
  simp [jl_ws, List.getElem?_mapIdx, h]
theorem jl_ws_of {aC : Nat → ClassId} {ad : Nat → Nat} {σ : jl_S} {i : Nat} {q : Nat × va_E} (h : (jl_ws aC ad σ)[i]? = some q) : ∃ c, σ[i]? = some c ∧ q = (ad i, jl_e aC ad c) := by
  simp only [jl_ws, List.getElem?_mapIdx] at h
  cases hc : σ[i]? with
  | none => simp [hc] at h
  | some c => simp [hc] at h; exact ⟨c, rfl, h.symm⟩
theorem jl_ws_set {aC : Nat → ClassId} {ad : Nat → Nat} {σ : jl_S} {i : Nat} {c : jl_C} : (jl_ws aC ad σ).set i (ad i, jl_e aC ad c) = jl_ws aC ad (σ.set i c) := by
  apply List.ext_getElem?
  intro j
  simp only [jl_ws, List.getElem?_set, List.getElem?_mapIdx, List.length_mapIdx]
  by_cases h : i = j
  · subst h
    by_cases hl : i < σ.length <;> simp [hl]
  · simp [h]
/-- a reference below n -/
def jl_in (n : Nat) (v : Value) : Prop := ∀ i, v = .ref i → i < n
def jl_okc (n : Nat) (c : jl_C) : Prop := match c with
  | .inl (_, a) => ∀ f, a.2 = .inr (.inr (.inr (.inr f))) → ∀ j i, f j = some i → i < n
  | .inr (_, fs) => ∀ v ∈ fs, jl_in n v
def jl_ok (σ : jl_S) : Prop := ∀ (i : Nat) (c : jl_C), σ[i]? = some c → jl_okc σ.length c
theorem jl_v_up {ad : Nat → Nat} {n q : Nat} {v : Value} (h : jl_in n v) : jl_v (va_up ad n q) v = jl_v ad v := by
  cases v with
  | ref i => have := h i rfl; simp [jl_v, va_up, Nat.ne_of_lt this]
  | _ => rfl
theorem jl_e_up {aC : Nat → ClassId} {ad : Nat → Nat} {n q : Nat} {c : jl_C} (h : jl_okc n c) : jl_e aC (va_up ad n q) c = jl_e aC ad c := by
  rcases c with ⟨t, m, a⟩ | ⟨k, fs⟩
  · rcases a with f | f | f | f | f <;> simp only [jl_e, jl_a]
    have e : (fun j => (f j).map (va_up ad n q)) = (fun j => (f j).map ad) := by
      funext j
      cases hj : f j with
      | none => simp
      | some i => have := h f rfl j i hj; simp [va_up, Nat.ne_of_lt this]
    rw [e]
  · simp only [jl_e]
    congr 2
    exact List.map_congr_left fun v hv => jl_v_up (h v hv)
theorem jl_ws_push {aC : Nat → ClassId} {ad : Nat → Nat} {σ : jl_S} {q : Nat} {c : jl_C} (h : jl_ok σ) : jl_ws aC (va_up ad σ.length q) (σ ++ [c]) = jl_ws aC ad σ ++ [(q, jl_e aC (va_up ad σ.length q) c)] := by
  apply List.ext_getElem?
  intro j
  by_cases hj : j < σ.length
  · rw [List.getElem?_append_left (by simpa [jl_ws] using hj)]
    simp only [jl_ws, List.getElem?_mapIdx]
    rw [List.getElem?_append_left hj]
    cases hc : σ[j]? with
    | none => rfl
    | some d =>
      simp only [Option.map_some]
      rw [jl_e_up (h j d hc), va_up_ne _ _ (Nat.ne_of_lt hj)]
  · rw [List.getElem?_append_right (by simpa [jl_ws] using hj)]
    simp only [jl_ws, List.getElem?_mapIdx, List.length_mapIdx]
    rw [List.getElem?_append_right (Nat.not_lt.mp hj)]
    by_cases hz : j = σ.length
    · subst hz
      simp [va_up]
    · obtain ⟨k, hk⟩ : ∃ k, j - σ.length = k + 1 := ⟨j - σ.length - 1, by omega⟩
      rw [hk]
      simp

/-- the places that we may write: all that are made behind the base -/
def jl_A (G : jl_G) : Nat → Prop := fun q => G.2.2.1 ≤ q
def jl_R (G : jl_G) (ad : Nat → Nat) (σ : jl_S) (H : Heap) : Prop := va_P G.1 jl_cl (jl_ws G.2.1 ad σ) H ∧ va_D (jl_A G) (jl_ws G.2.1 ad σ) ∧ jl_ok σ
abbrev jl_tys (aC : Nat → ClassId) : List (ClassId × FieldType) := [(aC 0, .int), (aC 1, .boolean), (aC 2, .long), (aC 3, .object "JavaChain$Method")]
def jl_xs : List String := ["java/lang/IllegalArgumentException", "java/lang/IllegalStateException", "java/util/NoSuchElementException", "java/lang/UnsupportedOperationException", "java/lang/IndexOutOfBoundsException"]
def jl_dec : List MethodName := [⟨"java/lang/RuntimeException", "<init>", "()V"⟩, ⟨"java/lang/Exception", "<init>", "()V"⟩, ⟨"java/lang/Throwable", "<init>", "()V"⟩]
def jl_tk : List Int32 := [0, 0, 1, 2, 2, 2, 2, 0, 1, 2, 0, 0, 1, 2, 1, 1, 1, 1, 1, 1, 2, 3, 1, 1, 1, 2]
def jl_pt : List Int32 := [1, 1, 0, 1, 1, 1, 1, 0, 0, 0, 1, 1, 1, 0, 1, 1, 0, 0, 0, 1, 1, 0, 1, 0, 2, 1]
/-- what the tables and the statics say, in any state of the run -/
def jl_K (G : jl_G) (U : State) : Prop :=
  va_K G.1 jl_cl (jl_tys G.2.1) U ∧ (∀ E ∈ jl_xs, va_Nw (.castable E E) U) ∧ (∀ y ∈ jl_dec, va_Nw (.declares y) U) ∧
  va_Nw (.fieldLinkNest "JavaChain$Checker" 39 "JavaChain" "TAKES" "[I" "JavaChain") U ∧ va_Nw (.fieldLinkNest "JavaChain$Checker" 86 "JavaChain" "PUTS" "[I" "JavaChain") U ∧ va_Nw (.fieldLinkNest "JavaChain$Verifier" 163 "JavaChain" "PUTS" "[I" "JavaChain") U ∧
  va_Nw (.methodLinkNest "JavaChain$Machine" 11 ⟨"JavaChain$Store", "<init>", "()V"⟩ "JavaChain") U ∧ va_AO "JavaChain$Method" U ∧ (∀ a ∈ jl_xs, ∀ b ∈ jl_xs, a ≠ b → va_Nc a b U)
/-- .. and of the statics' cells in the heap H -/
def jl_Z (G : jl_G) (U : State) (H : Heap) : Prop :=
  va_Z "JavaChain" "TAKES" "[I" (.ref G.2.2.2.1) (jl_A G) U H ∧ va_T .int G.2.2.2.1 26 (fun j => .int (jl_tk.getD j 0)) (jl_A G) U H ∧
  va_Z "JavaChain" "PUTS" "[I" (.ref G.2.2.2.2.1) (jl_A G) U H ∧ va_T .int G.2.2.2.2.1 26 (fun j => .int (jl_pt.getD j 0)) (jl_A G) U H ∧
  vx_Zq Bundle.tN "UNASSIGNED_STACK" Bundle.steD (jl_A G) U H ∧ vx_Zq Bundle.tN "SUPPRESSED_SENTINEL" Bundle.listD (jl_A G) U H ∧ va_X G.2.2.2.2.2.1 G.2.2.2.2.2.2.1 G.2.2.2.2.2.2.2 U H ∧ ¬ jl_A G G.2.2.2.2.2.1
theorem jl_K.warm {G : jl_G} {s U : State} (hW : s.WarmedH U.vm) (h : jl_K G s) : jl_K G U := by
  obtain ⟨h1, h2, h3, h4, h5, h6, h7, h8, h9⟩ := h
  exact ⟨va_K.moved hW.alike h1, fun E hE => va_Nw.warmC hW (h2 E hE), fun y hy => va_Nw.warmD hW (h3 y hy), va_Nw.warmF hW h4, va_Nw.warmF hW h5, va_Nw.warmF hW h6, va_Nw.warmM hW h7, va_AO.moved hW.alike h8, fun a ha b hb hn => va_Nc.moved hW.alike (h9 a ha b hb hn)⟩
theorem jl_Z.moved {G : jl_G} {u U : State} {H : Heap} (hvm : u.vm.Alike U.vm) (h : jl_Z G u H) : jl_Z G U H := by
  obtain ⟨h1, h2, h3, h4, h5, h6, h7, h8⟩ := h
  exact ⟨va_Z.moved hvm h1, va_T.moved hvm h2, va_Z.moved hvm h3, va_T.moved hvm h4, vx_Zq.moved hvm h5, vx_Zq.moved hvm h6, va_X.moved hvm h7, h8⟩
theorem jl_Z.kept {G : jl_G} {U : State} {H H1 : Heap} (h : jl_Z G U H) (hq : ∀ a : Nat, a < H.size → ¬ jl_A G a → H1[a]? = H[a]?) : jl_Z G U H1 := by
  obtain ⟨h1, h2, h3, h4, h5, h6, h7, h8⟩ := h
  have hb : G.2.2.2.2.2.1 < H.size := by
    obtain ⟨scr, hs, -⟩ := h7
    exact (Array.getElem?_eq_some_iff.mp hs).1
  exact ⟨va_Z.kept h1 hq, va_T.kept h2 hq, va_Z.kept h3 hq, va_T.kept h4 hq, vx_Zq.kept h5 hq, vx_Zq.kept h6 hq, va_X.kept h7 (hq _ hb h8), h8⟩
/-- a method's ends: a value (or nothing), or an exception of that name; the cells behind it -/
def jl_Q (G : jl_G) (n0 : Nat) (ad0 : Nat → Nat) (o : jl_O) (σ' : jl_S) : Array Value → State → Outcome → State → Prop := fun _ st oc t =>
  (∃ (ad : Nat → Nat) (v : Option Value), o = .inl v ∧ oc = .returned (v.map (jl_v ad)) ∧ n0 ≤ σ'.length ∧ (∀ i, i < n0 → ad i = ad0 i) ∧ jl_R G ad σ' t.heap ∧ ∀ w, v = some w → jl_in σ'.length w) ∧ va_F (jl_A G) st t
def jl_QX (G : jl_G) (n0 : Nat) (ad0 : Nat → Nat) (o : jl_O) (σ' : jl_S) : String → State → State → Prop := fun E st t =>
  (∃ ad : Nat → Nat, o = .inr E ∧ n0 ≤ σ'.length ∧ (∀ i, i < n0 → ad i = ad0 i) ∧ jl_R G ad σ' t.heap) ∧ va_F (jl_A G) st t
def jl_Pc (G : jl_G) (ad : Nat → Nat) (as : List Value) (σ : jl_S) : Array Value → State → Prop := fun v U =>
  v = (as.map (jl_v ad)).toArray ∧ G.2.2.1 ≤ U.heap.size ∧ jl_K G U ∧ jl_Z G U U.heap ∧ jl_R G ad σ U.heap ∧ ∀ w ∈ as, jl_in σ.length w
/-- THE CONTRACT: method M on the arguments as, with the cells σ, ends with o and the cells σ' -/
def jl_m (l : Launch) (G : jl_G) (M : jl_M) (as : List Value) (σ : jl_S) (o : jl_O) (σ' : jl_S) : Prop :=
  ∀ ad : Nat → Nat, vx_Met l M.1 (M.2.2.2.2.2 :: jl_gw) M.2.2.2.2.1 (jl_Pc G ad as σ) (jl_Q G σ.length ad o σ') (jl_QX G σ.length ad o σ') M.2.2.2.2.1.cells M.2.2.2.2.1.slots (jl_A G)
/-- what stands still while a method's body runs: its table of exceptions; the rest -/
def jl_tbl (M : jl_M) : List ExceptionTableEntry := match M.2.2.2.2.2 with
  | .codeWith _ _ _ _ hh => tableOf hh
  | _ => []
def jl_X (l : Launch) (G : jl_G) (M : jl_M) (p : Program) (s : State) (m : MethodId) (args : Array Value) (meth : Method) (c : Code) : Prop :=
  p.tables.exec = Jvm.exec ∧ c.code = M.2.1 ∧ c.maxLocals = M.2.2.1 ∧ s.vm.findClass M.1.cls = some m.cls ∧ (∀ w ∈ jl_gw, w.before args s = true) ∧ meth.sig.returnType = M.2.2.2.1 ∧ meth.locks = false ∧ meth.name = M.1.name ∧ l.stackTraces = false ∧ G.2.2.1 ≤ s.heap.size ∧ jl_K G s ∧ jl_Z G s s.heap ∧ c.exceptionTable.toList = jl_tbl M
def jl_L (la : Array Slot) (n : Nat) (ad : Nat → Nat) (ls : List (Option Value)) : Prop := la.size = n ∧ lv_wf la ∧ ∀ (i : Nat) (v : Value), ls[i]? = some (some v) → la[i]? = some (.val (jl_v ad v)) ∧ v.category = 1
def jl_At (l : Launch) (G : jl_G) (M : jl_M) (p : Program) (s : State) (m : MethodId) (args : Array Value) (meth : Method) (c : Code) (H : Heap) (locs : List Loc) (la : Array Slot) (n0 : Nat) (ad0 ad : Nat → Nat) (ls : List (Option Value)) (st : List Value) (σ : jl_S) : Prop :=
  jl_X l G M p s m args meth c ∧ va_S (jl_A G) s.heap H locs ∧ jl_R G ad σ H ∧ jl_L la M.2.2.1 ad ls ∧ (∀ (i : Nat) (v : Value), ls[i]? = some (some v) → jl_in σ.length v) ∧ (∀ v ∈ st, jl_in σ.length v) ∧ n0 ≤ σ.length ∧ ∀ i, i < n0 → ad i = ad0 i
/-- THE WALK: the body of M, now at pc with locals ls, operands st and cells σ (u: cells and slots made so far), ends with o and σ' -/
def jl_W (l : Launch) (G : jl_G) (M : jl_M) (u : Nat × Nat) (pc : Nat) (ls : List (Option Value)) (st : List Value) (σ : jl_S) (o : jl_O) (σ' : jl_S) : Prop :=
  ∀ (p : Program) (e : Env) (s : State) (m : MethodId) (args : Array Value) (below : List Frame) (meth : Method) (c : Code) (H : Heap) (locs : List Loc) (la : Array Slot) (n0 : Nat) (ad0 ad : Nat → Nat),
    jl_At l G M p s m args meth c H locs la n0 ad0 ad ls st σ →
    W p l e M.2.2.2.2.1 s m args below meth c H locs u.1 u.2 (vx_MQ below (jl_Q G n0 ad0 o σ') (jl_QX G n0 ad0 o σ') args s M.2.2.2.2.1.cells M.2.2.2.2.1.slots (jl_A G)) (F0 m pc la (st.map (jl_v ad)))
