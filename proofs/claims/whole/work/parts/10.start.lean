/-! the law's entry: the world at the start; the claim's walk out of the law's -/
def R_law : String := "JavaChainLaw"
def lw_P (b : Addr) (xs : List Int32) (args : Array Value) (s : State) : Prop := args = #[.ref b] ∧ s.IntsAt b xs ∧ xs.length ≤ 3072 ∧ (Jvm.Cond.and given_1 narrow_1).before args s = true
def lw_Q (_ : Array Value) (s : State) (o : Outcome) (t : State) : Prop := o = .returned (some (.int 1)) ∧ Framed s o t [] 601024 7293034
def lw_Z (below : List Frame) (a : Array Value) (s : State) : State → Prop := fun t => ∃ o, t.status = .running ∧ Ended t below o ∧ lw_Q a s o t
def lw_At (p : Program) (s : State) (m : MethodId) (meth : Method) (c : Code) (b L : Nat) (xs : Nat → Int32) : Prop :=
  p.tables.exec = Jvm.exec ∧ c.code = code ∧ meth.sig.returnType = ret ∧ c.maxLocals = 7 ∧ s.vm.findClass R_law = some m.cls ∧ (∀ w ∈ lw_tbl, w.before #[Value.ref b] s = true) ∧ va_X b L xs s s.heap ∧ b < s.heap.size ∧ meth.locks = false ∧ (Jvm.Cond.and given_1 narrow_1).before #[Value.ref b] s = true
def m_La_law : jl_M := (⟨"JavaChainLaw", "law", "([I)Z"⟩, code, 7, some .boolean, room_1, .code ⟨"JavaChainLaw", "law", "([I)Z"⟩ code 7 (some .boolean))
theorem ls_ret : ret = some .boolean := rfl
theorem ls_gw : ∀ w ∈ jl_gw, w ∈ lw_tbl := fun w h => (List.mem_filter.mp h).1
theorem ls_inst : ∀ r ∈ jl_cl, Cond.instantiable r.1 r.2.2 ∈ lw_tbl := by decide +kernel
theorem ls_cast : ∀ E ∈ jl_xs, Cond.castable E E ∈ lw_tbl := by decide +kernel
theorem ls_decl : ∀ y ∈ jl_dec, Cond.declares y ∈ lw_tbl := by decide +kernel
theorem ls_n1 : Cond.fieldLinkNest "JavaChain$Checker" 39 "JavaChain" "TAKES" "[I" "JavaChain" ∈ lw_tbl := by decide +kernel
theorem ls_n2 : Cond.fieldLinkNest "JavaChain$Checker" 86 "JavaChain" "PUTS" "[I" "JavaChain" ∈ lw_tbl := by decide +kernel
theorem ls_n3 : Cond.fieldLinkNest "JavaChain$Verifier" 163 "JavaChain" "PUTS" "[I" "JavaChain" ∈ lw_tbl := by decide +kernel
theorem ls_n4 : Cond.methodLinkNest "JavaChain$Machine" 11 ⟨"JavaChain$Store", "<init>", "()V"⟩ "JavaChain" ∈ lw_tbl := by decide +kernel
theorem ls_ao : Cond.arrayOver (.object "JavaChain$Method") ∈ lw_tbl := by decide +kernel
theorem ls_nc : ∀ a ∈ jl_xs, ∀ b ∈ jl_xs, a ≠ b → Cond.not (.castable a b) ∈ flatC (Jvm.Cond.and given_1 narrow_1) := by decide +kernel
theorem ls_tk : ∀ j, j < 26 → Cond.eq (.elem (.static "JavaChain" "TAKES" "[I") (.int (Int32.ofNat j))) (.int (jl_tk.getD j 0)) ∈ flatC (Jvm.Cond.and given_1 narrow_1) := by decide +kernel
theorem ls_pt : ∀ j, j < 26 → Cond.eq (.elem (.static "JavaChain" "PUTS" "[I") (.int (Int32.ofNat j))) (.int (jl_pt.getD j 0)) ∈ flatC (Jvm.Cond.and given_1 narrow_1) := by decide +kernel
theorem ls_tl : Cond.eq (.length (.static "JavaChain" "TAKES" "[I")) (.int (Int32.ofNat 26)) ∈ flatC (Jvm.Cond.and given_1 narrow_1) := by decide +kernel
theorem ls_pl : Cond.eq (.length (.static "JavaChain" "PUTS" "[I")) (.int (Int32.ofNat 26)) ∈ flatC (Jvm.Cond.and given_1 narrow_1) := by decide +kernel
theorem ls_ta : Cond.arrayOf (.static "JavaChain" "TAKES" "[I") .int ∈ flatC (Jvm.Cond.and given_1 narrow_1) := by decide +kernel
theorem ls_pa : Cond.arrayOf (.static "JavaChain" "PUTS" "[I") .int ∈ flatC (Jvm.Cond.and given_1 narrow_1) := by decide +kernel
theorem ls_us : Cond.isRef (.static Bundle.tN "UNASSIGNED_STACK" Bundle.steD) ∈ flatC (Jvm.Cond.and given_1 narrow_1) := by decide +kernel
theorem ls_ss : Cond.isRef (.static Bundle.tN "SUPPRESSED_SENTINEL" Bundle.listD) ∈ flatC (Jvm.Cond.and given_1 narrow_1) := by decide +kernel
theorem ls_l1 : Cond.laysStatic "JavaChain" "TAKES" "[I" ∈ lw_tbl := by decide +kernel
theorem ls_l2 : Cond.laysStatic "JavaChain" "PUTS" "[I" ∈ lw_tbl := by decide +kernel
theorem ls_l3 : Cond.laysStatic Bundle.tN "UNASSIGNED_STACK" Bundle.steD ∈ lw_tbl := by decide +kernel
theorem ls_l4 : Cond.laysStatic Bundle.tN "SUPPRESSED_SENTINEL" Bundle.listD ∈ lw_tbl := by decide +kernel
theorem ls_i1 : Cond.initialized "JavaChain" ∈ lw_tbl := by decide +kernel
theorem ls_i2 : Cond.initialized Bundle.tN ∈ lw_tbl := by decide +kernel
theorem ls_a0 : Cond.arrayClass .int ∈ lw_tbl := by decide +kernel
theorem ls_a1 : Cond.arrayClass .boolean ∈ lw_tbl := by decide +kernel
theorem ls_a2 : Cond.arrayClass .long ∈ lw_tbl := by decide +kernel
theorem ls_arr {args : Array Value} {s : State} {ty : FieldType} (h : (Cond.arrayClass ty).before args s = true) : ∃ cA, s.vm.findClass ("[" ++ ty.toString) = some cA ∧ ArrOfT s cA ty := by
  obtain ⟨c, k, comp, h1, h2, h3⟩ := Cond.arrayClass_spec h
  exact ⟨c, h1, fun n z => ⟨fun k h => (by cases h), k, h2, comp, h3⟩⟩
/-- the world at the start -/
theorem ls_world {p : Program} {s : State} {m : MethodId} {meth : Method} {c : Code} {b L : Nat} {xs : Nat → Int32} (l : Launch) (hl : l.stackTraces = false) (C0 : lw_At p s m meth c b L xs) (hT : c.exceptionTable.toList = []) (hN : meth.name = "law") :
    ∃ G : jl_G, G.2.2.1 = s.heap.size ∧ G.2.2.2.2.2 = (b, L, xs) ∧ jl_X l G m_La_law p s m #[Value.ref b] meth c := by
  obtain ⟨hx, hb, hr, hml, hown, hts, hX, hbl, hlocks, hgv⟩ := id C0
  have hs := flat_of_before _ hgv
  have hcl : ∀ ci : Nat, ∃ q : ClassId × (Nat → Nat), ∀ r, jl_cl[ci]? = some r → u_Kn s r.1 r.2.1 r.2.2 q.1 q.2 := by
    intro ci
    cases h : jl_cl[ci]? with
    | none => exact ⟨(0, fun _ => 0), fun r hr => by cases hr⟩
    | some r =>
      have hm := List.mem_of_getElem? h
      obtain ⟨c0, iS, hk⟩ := u_known (C := r.1) (T := r.2.1) (N := r.2.2) (n := r.2.2) hts (fun w hw => ls_gw w (jl_lays r hm w hw)) (hts _ (ls_inst r hm))
      exact ⟨(c0, iS), fun r' hr' => by cases hr'; exact hk⟩
  obtain ⟨D, hD⟩ := Classical.axiomOfChoice hcl
  obtain ⟨a0, h0, h0'⟩ := ls_arr (hts _ ls_a0)
  obtain ⟨a1, h1, h1'⟩ := ls_arr (hts _ ls_a1)
  obtain ⟨a2, h2, h2'⟩ := ls_arr (hts _ ls_a2)
  obtain ⟨comp, a3, k3, q1, q2, q3, q4, q5⟩ := Cond.arrayOver_spec (hts _ ls_ao)
  have h3' : ArrOfT s a3 (.object "JavaChain$Method") := fun n z => ⟨fun k h => (by cases h), k3, q3, comp, q4⟩
  have hA : ∀ a : Nat, a < s.heap.size → ¬ (fun q : Nat => s.heap.size ≤ q) a := fun a ha => Nat.not_le.mpr ha
  obtain ⟨tT, eT, vT⟩ := va_Tof (tm := .static "JavaChain" "TAKES" "[I") (N := 26) (f := fun j => .int (jl_tk.getD j 0)) (by decide) (hs _ ls_ta) (va_eqt (hs _ ls_tl)) (fun j hj => va_eqt (hs _ (ls_tk j hj))) hA
  obtain ⟨tP, eP, vP⟩ := va_Tof (tm := .static "JavaChain" "PUTS" "[I") (N := 26) (f := fun j => .int (jl_pt.getD j 0)) (by decide) (hs _ ls_pa) (va_eqt (hs _ ls_pl)) (fun j hj => va_eqt (hs _ (ls_pt j hj))) hA
  refine ⟨((fun ci => (D ci).1, fun ci => (D ci).2), (fun t => match t with | 0 => a0 | 1 => a1 | 2 => a2 | _ => a3), s.heap.size, tT, tP, b, L, xs), rfl, rfl, hx, hb, hml, hown, fun w hw => hts w (ls_gw w hw), by rw [hr]; exact ls_ret, hlocks, hN, hl, Nat.le_refl _, ?_, ?_, hT⟩
  · refine ⟨⟨fun ci r hr => hD ci r hr, fun k q hq => ?_⟩, fun E hE => va_Nw.of rfl (hts _ (ls_cast E hE)), fun y hy => va_Nw.of rfl (hts _ (ls_decl y hy)), va_Nw.of rfl (hts _ ls_n1), va_Nw.of rfl (hts _ ls_n2), va_Nw.of rfl (hts _ ls_n3), va_Nw.of rfl (hts _ ls_n4), va_AO.of (hts _ ls_ao), fun a ha b hb hn => va_Nc.of (hs _ (ls_nc a ha b hb hn))⟩
    match k, hq with
    | 0, hq => cases hq; exact ⟨h0', h0⟩
    | 1, hq => cases hq; exact ⟨h1', h1⟩
    | 2, hq => cases hq; exact ⟨h2', h2⟩
    | 3, hq => cases hq; exact ⟨h3', k3, comp, q3, q4, q1, q5⟩
    | k + 4, hq => simp at hq
  · exact ⟨va_Zref (hts _ ls_l1) (hts _ ls_i1) eT hA, vT, va_Zref (hts _ ls_l2) (hts _ ls_i1) eP hA, vP, vx_Zqof (hts _ ls_l3) (hts _ ls_i2) (hs _ ls_us) hA, vx_Zqof (hts _ ls_l4) (hts _ ls_i2) (hs _ ls_ss) hA, hX, Nat.not_le.mpr hbl⟩
/-- the law's walk as the claim wants it -/
theorem ls_walk {p : Program} {e : Env} {s : State} {m : MethodId} {below : List Frame} {meth : Method} {c : Code} (l : Launch) (hl : l.stackTraces = false) {b L : Nat} {xs : Nat → Int32} (C0 : lw_At p s m meth c b L xs) (hT : c.exceptionTable.toList = []) (hN : meth.name = "law")
    (hw : ∀ G : jl_G, G.2.2.2.2.2 = (b, L, xs) → ∃ σ', jl_W l G m_La_law (0, 0) 0 [some (.retAddr b), none, none, none, none, none, none] [] [] (.inl (some (.int 1))) σ') :
    W p l e room_1 s m #[Value.ref b] below meth c s.heap [] 0 0 (lw_Z below #[Value.ref b] s) (entryFrame m ([Value.ref b] : List Value).toArray 7) := by
  obtain ⟨G, g1, g2, hX⟩ := ls_world l hl C0 hT hN
  obtain ⟨σ', k⟩ := hw G g2
  have hR : jl_R G (fun _ => 0) [] s.heap := ⟨fun k q h => by simp [jl_ws] at h, ⟨fun i j p q h => by simp [jl_ws] at h, fun k q h => by simp [jl_ws] at h⟩, fun i d h => by simp at h⟩
  have hE := jl_entry (ad := fun _ => 0) (as := [Value.retAddr b]) (n := 7) (fun v hv => by rw [List.mem_singleton.mp hv]; rfl) (show 1 ≤ 7 by decide)
  rw [lg_entry_eq]
  intro T hT X
  obtain ⟨t, st, o, r1, r2, r3⟩ := k p e s m #[Value.ref b] below meth c s.heap [] _ 0 (fun _ => 0) (fun _ => 0) ⟨hX, va_S.rf, hR, hE, fun i v hv => by
    have hmem := List.mem_of_getElem? hv
    simp at hmem
    subst hmem
    exact jl_iq, fun v hv => (by cases hv), Nat.le_refl _, fun _ _ => rfl⟩ T hT X
  refine ⟨t, st, o, r1, r2, ?_⟩
  rcases r3 with ⟨⟨⟨ad1, v, ho, hoc, -⟩, -⟩, L1, hF, hL⟩ | ⟨q, ho, E, ce, L1, ⟨⟨ad1, ho2, -⟩, -⟩, -⟩
  · cases ho
    refine ⟨hoc, hF.1, hF.2.1, hF.2.2.weaken (fun y hy hlt => ?_) (Nat.le_refl _) (Nat.le_refl _)⟩
    have h1 : G.2.2.1 ≤ y.base := hL y hy
    rw [g1] at h1
    exact absurd hlt (Nat.not_lt.mpr h1)
  · cases ho2
