/-! a contract out of its walk; calls -/
section JI
variable {l : Launch} {G : jl_G} {M : jl_M} {u : Nat × Nat} {pc : Nat} {ls : List (Option Value)} {st : List Value} {σ : jl_S} {o : jl_O} {σ' : jl_S}
variable {p : Program} {e : Env} {s : State} {m : MethodId} {args : Array Value} {below : List Frame} {meth : Method} {c : Code} {H : Heap} {locs : List Loc} {la : Array Slot} {n0 : Nat} {ad0 ad : Nat → Nat}
theorem jl_slen : ∀ (vs : List Value), (∀ v ∈ vs, v.category = 1) → (lg_sl vs).length = vs.length := by
  intro vs
  induction vs with
  | nil => intro _; rfl
  | cons v t ih =>
    intro h
    have h1 := h v List.mem_cons_self
    have h2 := ih (fun w hw => h w (List.mem_cons_of_mem _ hw))
    simp only [lg_sl, List.flatMap_cons, List.length_append] at h2 ⊢
    rw [h2]
    simp [h1]
    omega
theorem jl_argm : ∀ (vs : List Value), (∀ v ∈ vs, v.category = 1) → ∀ (k i : Nat) (v : Value), vs[i]? = some v → (k + i, v) ∈ lv_args k vs := by
  intro vs
  induction vs with
  | nil => intro _ k i v h; simp at h
  | cons w t ih =>
    intro h k i v hv
    have h1 := h w List.mem_cons_self
    have hne : ¬ w.category = 2 := by omega
    simp only [lv_args, hne, if_false]
    cases i with
    | zero => simp at hv; subst hv; exact List.mem_cons_self
    | succ j =>
      have h2 := ih (fun w hw => h w (List.mem_cons_of_mem _ hw)) (k + 1) j v (by simpa using hv)
      rw [show k + 1 + j = k + (j + 1) by omega] at h2
      exact List.mem_cons_of_mem _ h2
theorem jl_entry {as : List Value} {n : Nat} (hc : ∀ v ∈ as, v.category = 1) (hn : as.length ≤ n) : jl_L ((lg_sl (as.map (jl_v ad)) ++ List.replicate (n - (lg_sl (as.map (jl_v ad))).length) Slot.unset).toArray) n ad (as.map some ++ List.replicate (n - as.length) none) := by
  have hc2 : ∀ v ∈ as.map (jl_v ad), v.category = 1 := fun v hv => by
    obtain ⟨w, hw, rfl⟩ := List.mem_map.mp hv
    rw [jl_cat]
    exact hc w hw
  have he := lv_entry (as.map (jl_v ad)) (n := n) (by rw [jl_slen _ hc2, List.length_map]; exact hn)
  refine ⟨he.1, he.2.1, fun i v hv => ?_⟩
  by_cases hi : i < as.length
  · rw [List.getElem?_append_left (by simpa using hi), List.getElem?_map] at hv
    cases ha : as[i]? with
    | none => simp [ha] at hv
    | some w =>
      simp [ha] at hv
      subst hv
      have h1 := jl_argm _ hc2 0 i (jl_v ad w) (by simp [ha])
      rw [Nat.zero_add] at h1
      exact ⟨he.2.2 _ h1, hc w (List.mem_of_getElem? ha)⟩
  · rw [List.getElem?_append_right (by simpa using Nat.not_lt.mp hi)] at hv
    rw [List.getElem?_replicate] at hv
    split at hv <;> simp at hv
theorem jl_ein {as : List Value} {n k : Nat} (h : ∀ v ∈ as, jl_in k v) : ∀ (i : Nat) (v : Value), (as.map some ++ List.replicate n none)[i]? = some (some v) → jl_in k v := by
  intro i v hv
  rcases List.mem_append.mp (List.mem_of_getElem? hv) with h1 | h1
  · obtain ⟨w, hw, e⟩ := List.mem_map.mp h1
    exact Option.some.inj e ▸ h w hw
  · have := List.eq_of_mem_replicate h1
    cases this
/-- THE CONTRACT OUT OF THE WALK -/
theorem jl_of {as : List Value} (hh : M.2.2.2.2.2 = .code M.1 M.2.1 M.2.2.1 M.2.2.2.1) (hpl : plainName M.1.cls = true) (hl : l.stackTraces = false) (hc : ∀ v ∈ as, v.category = 1) (hn : as.length ≤ M.2.2.1) (k : jl_W l G M (0, 0) 0 (as.map some ++ List.replicate (M.2.2.1 - as.length) none) [] σ o σ') : jl_m l G M as σ o σ' := by
  intro ad
  refine vx_ofW (cc := M.2.1) (maxL := M.2.2.1) (ret := M.2.2.2.1) (ws' := jl_gw) hpl (by rw [hh]) ?_
  intro p e s m args below meth c s₁ B hml hex hv
  obtain ⟨rfl, hB, hK, hZ, hR, hin⟩ := hv
  have hts := atoms_spec (ws := M.2.2.2.2.2 :: jl_gw) B.pre
  have htb : c.exceptionTable.toList = jl_tbl M := by
    have e1 : jl_tbl M = [] := by unfold jl_tbl; rw [hh]
    rw [e1]
    exact List.eq_nil_iff_forall_not_mem.mpr fun x hx => hex x hx
  have hX : jl_X l G M p s m (as.map (jl_v ad)).toArray meth c := ⟨B.exec, B.bytes, hml, findClass_of_methodNamed B.named, fun w hw => hts w (List.mem_cons_of_mem _ hw), B.returns, B.notSynchronized, (name_of_methodNamed B.named B.method).1, hl, hB, hK, hZ, htb⟩
  rw [lg_entry_eq]
  exact k p e s m _ below meth c s.heap [] _ σ.length ad ad ⟨hX, va_S.rf, hR, jl_entry hc hn, jl_ein hin, (fun v hv => by cases hv), Nat.le_refl _, fun _ _ => rfl⟩
theorem jl_ofH {as : List Value} {hh : List (Nat × Nat × Nat × Nat)} (he : M.2.2.2.2.2 = .codeWith M.1 M.2.1 M.2.2.1 M.2.2.2.1 hh) (hpl : plainName M.1.cls = true) (hl : l.stackTraces = false) (hc : ∀ v ∈ as, v.category = 1) (hn : as.length ≤ M.2.2.1) (k : jl_W l G M (0, 0) 0 (as.map some ++ List.replicate (M.2.2.1 - as.length) none) [] σ o σ') : jl_m l G M as σ o σ' := by
  intro ad
  refine vx_ofWH (cc := M.2.1) (maxL := M.2.2.1) (ret := M.2.2.2.1) (hh := hh) (ws' := jl_gw) hpl (by rw [he]) ?_
  intro p e s m args below meth c s₁ B hml hv
  obtain ⟨rfl, hB, hK, hZ, hR, hin⟩ := hv
  have hts := atoms_spec (ws := M.2.2.2.2.2 :: jl_gw) B.pre
  have htb : c.exceptionTable.toList = jl_tbl M := by
    have e1 : jl_tbl M = tableOf hh := by unfold jl_tbl; rw [he]
    rw [e1]
    exact vx_table (x := M.1) B (he ▸ hts _ List.mem_cons_self)
  have hX : jl_X l G M p s m (as.map (jl_v ad)).toArray meth c := ⟨B.exec, B.bytes, hml, findClass_of_methodNamed B.named, fun w hw => hts w (List.mem_cons_of_mem _ hw), B.returns, B.notSynchronized, (name_of_methodNamed B.named B.method).1, hl, hB, hK, hZ, htb⟩
  rw [lg_entry_eq]
  exact k p e s m _ below meth c s.heap [] _ σ.length ad ad ⟨hX, va_S.rf, hR, jl_entry hc hn, jl_ein hin, (fun v hv => by cases hv), Nat.le_refl _, fun _ _ => rfl⟩
/-! calls -/
def jl_cb (M M' : jl_M) (idx n : Nat) : Bool :=
  decide (Cond.methodLink M.1.cls idx M'.1 ∈ jl_gw) && decide (Cond.initialized M'.1.cls ∈ jl_gw) && decide (M'.2.2.2.2.2 ∈ jl_gw) && decide (M'.2.2.2.2.2 = .code M'.1 M'.2.1 M'.2.2.1 M'.2.2.2.1) && decide (M'.1.cls ≠ "java/lang/invoke/MethodHandle") && decide (M'.1.cls ≠ "java/lang/invoke/VarHandle") &&
  decide ((parseMethodDescriptor M'.1.desc).map (fun d => d.parameters.length) = some n) && decide (M'.2.2.2.2.1.frames + 1 ≤ M.2.2.2.2.1.frames) && decide (8 + (M'.2.2.1 + 11) + M'.2.2.2.2.1.locals ≤ M.2.2.2.2.1.locals)
def jl_cv (M M' : jl_M) (idx n : Nat) : Bool := jl_cb M M' idx n && decide (Cond.instanceMethod M'.1 ∈ jl_gw) && decide (Cond.selects M'.1.cls M'.1 M'.1 ∈ jl_gw)
def jl_cz (M M' : jl_M) (idx n : Nat) : Bool := jl_cb M M' idx n && decide (Cond.static M'.1 ∈ jl_gw)
def jl_ci (M M' : jl_M) (idx n : Nat) : Bool := jl_cb M M' idx n && decide (M'.1.name = "<init>") && decide (Cond.instanceMethod M'.1 ∈ jl_gw) && decide (M'.2.2.2.1 = none)
theorem jl_gws (hts : ∀ w ∈ jl_gw, w.before args s = true) {M' : jl_M} (h0 : M'.2.2.2.2.2 ∈ jl_gw) : ∀ w ∈ M'.2.2.2.2.2 :: jl_gw, ∀ (a' : Array Value) (U : State), s.WarmedH U.vm → w.before a' U = true := by
  intro w hw a' U hW
  have h1 : w ∈ jl_gw := by
    rcases List.mem_cons.mp hw with rfl | h
    · exact h0
    · exact h
  exact word_at hW (good_of_word (jl_good h1)) (hts w h1)
theorem jl_CB {M' : jl_M} {idx n : Nat} (h : jl_cb M M' idx n = true) (hts : ∀ w ∈ jl_gw, w.before args s = true) : CallB M.2.2.2.2.1 s args M.1.cls idx M'.1 M'.2.1 M'.2.2.1 M'.2.2.2.1 (M'.2.2.2.2.2 :: jl_gw) M'.2.2.2.2.1 M'.2.2.2.2.1.cells M'.2.2.2.2.1.slots n := by
  simp only [jl_cb, Bool.and_eq_true, decide_eq_true_eq] at h
  obtain ⟨⟨⟨⟨⟨⟨⟨⟨w0, w1⟩, w2⟩, w3⟩, w4⟩, w5⟩, w6⟩, w7⟩, w8⟩ := h
  refine ⟨rfl, rfl, w7, w8, jl_gws hts w2, by rw [w3]; exact List.mem_cons_self, by rw [← w3]; exact hts _ w2, hts _ w1, ⟨w4, w5⟩, fun sig hs => ?_, hts _ w0⟩
  rw [hs] at w6
  exact (Option.some.inj w6).symm
theorem jl_blind {as : List Value} : FrameBlind (jl_Pc G ad as σ) := by
  intro a U g mk h
  obtain ⟨h1, h2, h3, h4, h5, h6⟩ := h
  exact ⟨h1, h2, jl_K.warm (U := U.calling g mk a) (State.WarmedH.refl U) h3, jl_Z.moved (U := U.calling g mk a) (Vm.Alike.refl U.vm) h4, h5, h6⟩
theorem jl_pre {as : List Value} (h : jl_At l G M p s m args meth c H locs la n0 ad0 ad ls st σ) (hin : ∀ v ∈ as, jl_in σ.length v) : ∀ U : State, U.heap = H → s.WarmedH U.vm → jl_Pc G ad as σ (as.map (jl_v ad)).toArray U := by
  intro U hU hW
  refine ⟨rfl, ?_, jl_K.warm hW h.K, ?_, by rw [hU]; exact h.2.2.1, hin⟩
  · rw [hU]
    exact Nat.le_trans h.1.2.2.2.2.2.2.2.2.2.1 h.2.1.1
  · rw [hU]
    exact jl_Z.moved hW.alike (h.Z.kept fun a ha hA => h.2.1.2.1 a ha hA)
theorem jl_vag {ad1 : Nat → Nat} {n : Nat} {v : Value} (h : ∀ i, i < n → ad1 i = ad i) (hv : jl_in n v) : jl_v ad1 v = jl_v ad v := by
  cases v with
  | ref i => simp only [jl_v]; rw [h i (hv i rfl)]
  | _ => rfl
/-- behind a call that came back -/
theorem jl_At.back {ad1 : Nat → Nat} {σ1 : jl_S} {st₀ t T' : State} {L : List Loc} {v : Option Value} (h : jl_At l G M p s m args meth c H locs la n0 ad0 ad ls st σ) (h0 : st₀.heap = H) (e1 : T'.heap = t.heap) (hL : ∀ q ∈ L, jl_A G q.base) (hF : va_F (jl_A G) st₀ t) (hn : σ.length ≤ σ1.length) (ha : ∀ i, i < σ.length → ad1 i = ad i) (hR : jl_R G ad1 σ1 t.heap) (hv : ∀ w, v = some w → jl_in σ1.length w) (st2 : List Value) (hs : ∀ w ∈ st2, jl_in σ.length w) :
    jl_At l G M p s m args meth c T'.heap (locs ++ L) la n0 ad0 ad1 ls (v.toList ++ st2) σ1 := by
  have hk := vx_keep (A1 := jl_A G) h0 e1 h.2.1 (fun _ _ z => z) (fun _ z => z) hL hF
  refine ⟨h.1, hk.2.2, by rw [e1]; exact hR, ⟨h.2.2.2.1.1, h.2.2.2.1.2.1, fun i w hw => ?_⟩, fun i w hw j hj => Nat.lt_of_lt_of_le (h.wls i w hw j hj) hn, fun w hw => ?_, Nat.le_trans h.2.2.2.2.2.2.1 hn, fun i hi => (ha i (Nat.lt_of_lt_of_le hi h.2.2.2.2.2.2.1)).trans (h.2.2.2.2.2.2.2 i hi)⟩
  · rw [jl_vag ha (h.wls i w hw)]
    exact h.2.2.2.1.2.2 i w hw
  · rcases List.mem_append.mp hw with h1 | h1
    · exact hv w (by simpa using h1)
    · exact fun j hj => Nat.lt_of_lt_of_le (hs w h1 j hj) hn
theorem jl_stk {ad1 : Nat → Nat} {v : Option Value} {st2 : List Value} (ha : ∀ i, i < σ.length → ad1 i = ad i) (hs : ∀ w ∈ st2, jl_in σ.length w) : (v.toList ++ st2).map (jl_v ad1) = (v.map (jl_v ad1)).toList ++ st2.map (jl_v ad) := by
  rw [List.map_append, List.map_congr_left fun w hw => jl_vag ha (hs w hw)]
  cases v <;> rfl
/-- a callee's run, going on behind it -/
theorem jl_go {M' : jl_M} {v : Option Value} {σ1 : jl_S} {aa : Array Value} {st0 : List Value} {st2 : List Value} (h : jl_At l G M p s m args meth c H locs la n0 ad0 ad ls st σ) (hs : ∀ w ∈ st2, jl_in σ.length w)
    (hr : vx_Run p l e M.2.2.2.2.1 s m args below meth c H locs u.1 u.2 M'.2.2.2.2.1.cells M'.2.2.2.2.1.slots (F0 m pc la st0) (st2.map (jl_v ad)) (jl_Q G σ.length ad (.inl v) σ1 aa) (jl_QX G σ.length ad (.inl v) σ1) (jl_A G))
    (k : jl_W l G M (u.1 + M'.2.2.2.2.1.cells, u.2 + M'.2.2.2.2.1.slots) (pc + 3) ls (v.toList ++ st2) σ1 o σ') :
    W p l e M.2.2.2.2.1 s m args below meth c H locs u.1 u.2 (vx_MQ below (jl_Q G n0 ad0 o σ') (jl_QX G n0 ad0 o σ') args s M.2.2.2.2.1.cells M.2.2.2.2.1.slots (jl_A G)) (F0 m pc la st0) := by
  intro T hT X
  rcases hr T hT X with ⟨v', st₀, t, T', L, h0, X', hL, e1, e2, ⟨⟨ad1, v1, ho, hoc, hn1, hag, hR1, hvw⟩, hF⟩, hgo⟩ | ⟨q, st₀, t, T', L, E, ce, h0, X', hL, e1, e2, ⟨⟨ad1, ho, -⟩, -⟩, -⟩
  · cases ho
    have hv' : v' = v.map (jl_v ad1) := by
      injection hoc
    subst hv'
    have hA := h.back (v := v) h0 e1 hL hF hn1 hag hR1 hvw st2 hs
    obtain ⟨t2, a1, b1⟩ := k p e s m args below meth c T'.heap (locs ++ L) la n0 ad0 ad1 hA T' rfl X'
    rw [jl_stk hag hs] at a1
    exact ⟨t2, hgo t2 a1, b1⟩
  · cases ho
/-- a callee's run that throws, not caught here -/
theorem jl_goX {M' : jl_M} {E : String} {σ1 : jl_S} {aa : Array Value} {st0 : List Value} {st2 : List Value} (h : jl_At l G M p s m args meth c H locs la n0 ad0 ad ls st σ) (ht : jl_tbl M = [])
    (hr : vx_Run p l e M.2.2.2.2.1 s m args below meth c H locs u.1 u.2 M'.2.2.2.2.1.cells M'.2.2.2.2.1.slots (F0 m pc la st0) (st2.map (jl_v ad)) (jl_Q G σ.length ad (.inr E) σ1 aa) (jl_QX G σ.length ad (.inr E) σ1) (jl_A G))
    (h1 : u.1 + M'.2.2.2.2.1.cells ≤ M.2.2.2.2.1.cells) (h2 : u.2 + M'.2.2.2.2.1.slots ≤ M.2.2.2.2.1.slots) :
    W p l e M.2.2.2.2.1 s m args below meth c H locs u.1 u.2 (vx_MQ below (jl_Q G n0 ad0 (.inr E) σ1) (jl_QX G n0 ad0 (.inr E) σ1) args s M.2.2.2.2.1.cells M.2.2.2.2.1.slots (jl_A G)) (F0 m pc la st0) := by
  intro T hT X
  rcases hr T hT X with ⟨v', st₀, t, T', L, h0, X', hL, e1, e2, ⟨⟨ad1, v1, ho, -⟩, -⟩, -⟩ | ⟨q, st₀, t, T', L, E1, ce, h0, X', hL, e1, e2, ⟨⟨ad1, ho, hn1, hag, hR1⟩, hF⟩, hce, hcv, hcl, hst⟩
  · cases ho
  · cases ho
    have hA := h.back (v := none) h0 e1 hL hF hn1 hag hR1 (fun w hw => by cases hw) [] (fun w hw => by cases hw)
    have hW : vx_W p l e M.2.2.2.2.1 s m args below meth c T'.heap (locs ++ L) (u.1 + M'.2.2.2.2.1.cells) (u.2 + M'.2.2.2.2.1.slots) (vx_MQ below (jl_Q G n0 ad0 (.inr E) σ1) (jl_QX G n0 ad0 (.inr E) σ1) args s M.2.2.2.2.1.cells M.2.2.2.2.1.slots (jl_A G)) (F0 m pc la (st2.map (jl_v ad))) q := by
      refine vx_out (fun x hx => by rw [hA.1.2.2.2.2.2.2.2.2.2.2.2.2, ht] at hx; cases hx) hA.1.2.2.2.2.2.2.1 (by rw [e1]; exact hce) hcv hcl (fun t9 ht9 hvm9 => ?_) hA.2.1.2.2 h1 h2
      exact ⟨⟨ad1, rfl, hA.2.2.2.2.2.2.1, hA.2.2.2.2.2.2.2, by rw [ht9]; exact hA.2.2.1⟩, hA.2.1.F ht9⟩
    obtain ⟨t2, a1, b1⟩ := hW T' rfl X'
    exact ⟨t2, hst.trans a1, b1⟩
theorem jl_cat8 {st2 : List Value} (h : (st2.map fun v => v.category).sum ≤ 8) : ((st2.map (jl_v ad)).map fun v => v.category).sum ≤ 8 := by
  rw [List.map_map]
  have e1 : ((fun v : Value => v.category) ∘ jl_v ad) = fun v : Value => v.category := funext fun v => jl_cat ad v
  rw [e1]
  exact h
theorem jl_runV {idx n b ci : Nat} {fs As : List Value} {r : vw_C} {M' : jl_M} {o1 : jl_O} {σ1 : jl_S} (h : jl_At l G M p s m args meth c H locs la n0 ad0 ad ls (As.reverse ++ .ref b :: st) σ) (hd : decode M.2.1 pc = .ok (.invokevirtual idx, 3)) (hc : jl_cv M M' idx n = true) (hb : σ[b]? = some (.inr (ci, fs))) (hr : jl_cl[ci]? = some r) (hC : r.1 = M'.1.cls) (hn : As.length = n) (hst : (st.map fun v => v.category).sum ≤ 8)
    (h1 : u.1 + M'.2.2.2.2.1.cells ≤ M.2.2.2.2.1.cells) (h2 : u.2 + M'.2.2.2.2.1.slots ≤ M.2.2.2.2.1.slots) (hm : jl_m l G M' (.ref b :: As) σ o1 σ1) :
    vx_Run p l e M.2.2.2.2.1 s m args below meth c H locs u.1 u.2 M'.2.2.2.2.1.cells M'.2.2.2.2.1.slots (F0 m pc la ((As.reverse ++ .ref b :: st).map (jl_v ad))) (st.map (jl_v ad)) (jl_Q G σ.length ad o1 σ1 (Value.ref (ad b) :: As.map (jl_v ad)).toArray) (jl_QX G σ.length ad o1 σ1) (jl_A G) := by
  simp only [jl_cv, Bool.and_eq_true, decide_eq_true_eq] at hc
  obtain ⟨⟨hc, w1⟩, w2⟩ := hc
  have hin : ∀ v ∈ Value.ref b :: As, jl_in σ.length v := by
    intro v hv
    rcases List.mem_cons.mp hv with rfl | hv
    · exact h.wst _ (List.mem_append_right _ List.mem_cons_self)
    · exact h.wst _ (List.mem_append_left _ (List.mem_reverse.mpr hv))
  have hpr := jl_pre h hin
  refine vx_runV (Ts := jl_gw) (nL := M.2.2.1) (C := M'.1.cls) (b := ad b) (As := As.map (jl_v ad)) (rest := st.map (jl_v ad)) (g := F0 m pc la ((As.reverse ++ .ref b :: st).map (jl_v ad))) ⟨h.1.1, h.1.2.1, h.1.2.2.1, h.own, h.ts⟩ (hm ad) ⟨jl_CB hc h.ts, h.ts _ w1, h.ts _ w2⟩ ⟨jl_blind, ?_, hpr⟩ rfl (by rw [List.length_map]; exact hn) h.2.2.2.1.1 (by simp [jl_v]) (lv_room (jl_cat8 hst)) hd ⟨h1, h2⟩
  obtain ⟨cell, q1, q2, q3⟩ := va_recv h.K.1 h.2.2.1.1 hr (jl_ws_at hb)
  exact ⟨cell, q1, q2, by rw [← hC]; exact q3⟩
theorem jl_runS {idx n : Nat} {As : List Value} {M' : jl_M} {o1 : jl_O} {σ1 : jl_S} (h : jl_At l G M p s m args meth c H locs la n0 ad0 ad ls (As.reverse ++ st) σ) (hd : decode M.2.1 pc = .ok (.invokestatic idx, 3)) (hc : jl_cz M M' idx n = true) (hn : As.length = n) (hst : (st.map fun v => v.category).sum ≤ 8)
    (h1 : u.1 + M'.2.2.2.2.1.cells ≤ M.2.2.2.2.1.cells) (h2 : u.2 + M'.2.2.2.2.1.slots ≤ M.2.2.2.2.1.slots) (hm : jl_m l G M' As σ o1 σ1) :
    vx_Run p l e M.2.2.2.2.1 s m args below meth c H locs u.1 u.2 M'.2.2.2.2.1.cells M'.2.2.2.2.1.slots (F0 m pc la ((As.reverse ++ st).map (jl_v ad))) (st.map (jl_v ad)) (jl_Q G σ.length ad o1 σ1 (As.map (jl_v ad)).toArray) (jl_QX G σ.length ad o1 σ1) (jl_A G) := by
  simp only [jl_cz, Bool.and_eq_true, decide_eq_true_eq] at hc
  obtain ⟨hc, w1⟩ := hc
  have hin : ∀ v ∈ As, jl_in σ.length v := fun v hv => h.wst _ (List.mem_append_left _ (List.mem_reverse.mpr hv))
  exact vx_runS (Ts := jl_gw) (nL := M.2.2.1) (As := As.map (jl_v ad)) (rest := st.map (jl_v ad)) (g := F0 m pc la ((As.reverse ++ st).map (jl_v ad))) ⟨h.1.1, h.1.2.1, h.1.2.2.1, h.own, h.ts⟩ (hm ad) ⟨jl_CB hc h.ts, h.ts _ w1⟩ ⟨jl_blind, jl_pre h hin⟩ rfl (by rw [List.length_map]; exact hn) h.2.2.2.1.1 (by simp) (lv_room (jl_cat8 hst)) hd ⟨h1, h2⟩
theorem jl_met {M' : jl_M} {as : List Value} {v : Option Value} {σ1 : jl_S} (hm : jl_m l G M' as σ (.inl v) σ1) (ad : Nat → Nat) : Met l M'.1 (M'.2.2.2.2.2 :: jl_gw) M'.2.2.2.2.1 (jl_Pc G ad as σ) (jl_Q G σ.length ad (.inl v) σ1) M'.2.2.2.2.1.cells M'.2.2.2.2.1.slots (jl_A G) := by
  refine MetFree.mono (hm ad) (fun _ _ h => h) (fun _ _ _ _ _ h => h) (fun a s oc t _ hq => ?_)
  rcases hq with h | ⟨q, -, E, ce, L, ⟨⟨ad1, ho, -⟩, -⟩, -⟩
  · exact h
  · cases ho
theorem jl_runI {idx n b : Nat} {As : List Value} {M' : jl_M} {σ1 : jl_S} (h : jl_At l G M p s m args meth c H locs la n0 ad0 ad ls (As.reverse ++ .ref b :: st) σ) (hd : decode M.2.1 pc = .ok (.invokespecial idx, 3)) (hc : jl_ci M M' idx n = true) (hn : As.length = n) (hst : (st.map fun v => v.category).sum ≤ 8)
    (h1 : u.1 + M'.2.2.2.2.1.cells ≤ M.2.2.2.2.1.cells) (h2 : u.2 + M'.2.2.2.2.1.slots ≤ M.2.2.2.2.1.slots) (hm : jl_m l G M' (.ref b :: As) σ (.inl none) σ1) :
    vx_Run p l e M.2.2.2.2.1 s m args below meth c H locs u.1 u.2 M'.2.2.2.2.1.cells M'.2.2.2.2.1.slots (F0 m pc la ((As.reverse ++ .ref b :: st).map (jl_v ad))) (st.map (jl_v ad)) (jl_Q G σ.length ad (.inl none) σ1 (Value.ref (ad b) :: As.map (jl_v ad)).toArray) (jl_QX G σ.length ad (.inl none) σ1) (jl_A G) := by
  simp only [jl_ci, Bool.and_eq_true, decide_eq_true_eq] at hc
  obtain ⟨⟨⟨hc, w1⟩, w2⟩, w3⟩ := hc
  have hin : ∀ v ∈ Value.ref b :: As, jl_in σ.length v := by
    intro v hv
    rcases List.mem_cons.mp hv with rfl | hv
    · exact h.wst _ (List.mem_append_right _ List.mem_cons_self)
    · exact h.wst _ (List.mem_append_left _ (List.mem_reverse.mpr hv))
  have hcb := jl_CB hc h.ts
  rw [w3] at hcb
  intro T hT X
  exact Or.inl (va_runI (Ts := jl_gw) (nL := M.2.2.1) (b := ad b) (As := As.map (jl_v ad)) (rest := st.map (jl_v ad)) (g := F0 m pc la ((As.reverse ++ .ref b :: st).map (jl_v ad))) ⟨h.1.1, h.1.2.1, h.1.2.2.1, h.own, h.ts⟩ (jl_met hm ad) ⟨hcb, w1, h.ts _ w2⟩ ⟨jl_blind, jl_pre h hin⟩ rfl (by rw [List.length_map]; exact hn) h.2.2.2.1.1 (by simp [jl_v]) (lv_room (jl_cat8 hst)) hd ⟨h1, h2⟩ T hT X)
theorem jr_callV {idx n b ci : Nat} {fs As : List Value} {r : vw_C} {M' : jl_M} {v : Option Value} {σ1 : jl_S} (hd : decode M.2.1 pc = .ok (.invokevirtual idx, 3)) (hc : jl_cv M M' idx n = true) (hb : σ[b]? = some (.inr (ci, fs))) (hr : jl_cl[ci]? = some r) (hC : r.1 = M'.1.cls) (hn : As.length = n) (hst : (st.map fun v => v.category).sum ≤ 8)
    (h1 : u.1 + M'.2.2.2.2.1.cells ≤ M.2.2.2.2.1.cells) (h2 : u.2 + M'.2.2.2.2.1.slots ≤ M.2.2.2.2.1.slots) (hm : jl_m l G M' (.ref b :: As) σ (.inl v) σ1) (k : jl_W l G M (u.1 + M'.2.2.2.2.1.cells, u.2 + M'.2.2.2.2.1.slots) (pc + 3) ls (v.toList ++ st) σ1 o σ') : jl_W l G M u pc ls (As.reverse ++ .ref b :: st) σ o σ' := by
  intro p e s m args below meth c H locs la n0 ad0 ad h
  exact jl_go h (fun w hw => h.wst w (List.mem_append_right _ (List.mem_cons_of_mem _ hw))) (jl_runV h hd hc hb hr hC hn hst h1 h2 hm) k
theorem jr_callVX {idx n b ci : Nat} {fs As : List Value} {r : vw_C} {M' : jl_M} {E : String} {σ1 : jl_S} (hd : decode M.2.1 pc = .ok (.invokevirtual idx, 3)) (hc : jl_cv M M' idx n = true) (ht : jl_tbl M = []) (hb : σ[b]? = some (.inr (ci, fs))) (hr : jl_cl[ci]? = some r) (hC : r.1 = M'.1.cls) (hn : As.length = n) (hst : (st.map fun v => v.category).sum ≤ 8)
    (h1 : u.1 + M'.2.2.2.2.1.cells ≤ M.2.2.2.2.1.cells) (h2 : u.2 + M'.2.2.2.2.1.slots ≤ M.2.2.2.2.1.slots) (hm : jl_m l G M' (.ref b :: As) σ (.inr E) σ1) : jl_W l G M u pc ls (As.reverse ++ .ref b :: st) σ (.inr E) σ1 := by
  intro p e s m args below meth c H locs la n0 ad0 ad h
  exact jl_goX h ht (jl_runV h hd hc hb hr hC hn hst h1 h2 hm) h1 h2
theorem jr_callS {idx n : Nat} {As : List Value} {M' : jl_M} {v : Option Value} {σ1 : jl_S} (hd : decode M.2.1 pc = .ok (.invokestatic idx, 3)) (hc : jl_cz M M' idx n = true) (hn : As.length = n) (hst : (st.map fun v => v.category).sum ≤ 8)
    (h1 : u.1 + M'.2.2.2.2.1.cells ≤ M.2.2.2.2.1.cells) (h2 : u.2 + M'.2.2.2.2.1.slots ≤ M.2.2.2.2.1.slots) (hm : jl_m l G M' As σ (.inl v) σ1) (k : jl_W l G M (u.1 + M'.2.2.2.2.1.cells, u.2 + M'.2.2.2.2.1.slots) (pc + 3) ls (v.toList ++ st) σ1 o σ') : jl_W l G M u pc ls (As.reverse ++ st) σ o σ' := by
  intro p e s m args below meth c H locs la n0 ad0 ad h
  exact jl_go h (fun w hw => h.wst w (List.mem_append_right _ hw)) (jl_runS h hd hc hn hst h1 h2 hm) k
theorem jr_callSX {idx n : Nat} {As : List Value} {M' : jl_M} {E : String} {σ1 : jl_S} (hd : decode M.2.1 pc = .ok (.invokestatic idx, 3)) (hc : jl_cz M M' idx n = true) (ht : jl_tbl M = []) (hn : As.length = n) (hst : (st.map fun v => v.category).sum ≤ 8)
    (h1 : u.1 + M'.2.2.2.2.1.cells ≤ M.2.2.2.2.1.cells) (h2 : u.2 + M'.2.2.2.2.1.slots ≤ M.2.2.2.2.1.slots) (hm : jl_m l G M' As σ (.inr E) σ1) : jl_W l G M u pc ls (As.reverse ++ st) σ (.inr E) σ1 := by
  intro p e s m args below meth c H locs la n0 ad0 ad h
  exact jl_goX h ht (jl_runS h hd hc hn hst h1 h2 hm) h1 h2
theorem jr_callI {idx n b : Nat} {As : List Value} {M' : jl_M} {σ1 : jl_S} (hd : decode M.2.1 pc = .ok (.invokespecial idx, 3)) (hc : jl_ci M M' idx n = true) (hn : As.length = n) (hst : (st.map fun v => v.category).sum ≤ 8)
    (h1 : u.1 + M'.2.2.2.2.1.cells ≤ M.2.2.2.2.1.cells) (h2 : u.2 + M'.2.2.2.2.1.slots ≤ M.2.2.2.2.1.slots) (hm : jl_m l G M' (.ref b :: As) σ (.inl none) σ1) (k : jl_W l G M (u.1 + M'.2.2.2.2.1.cells, u.2 + M'.2.2.2.2.1.slots) (pc + 3) ls st σ1 o σ') : jl_W l G M u pc ls (As.reverse ++ .ref b :: st) σ o σ' := by
  intro p e s m args below meth c H locs la n0 ad0 ad h
  exact jl_go (v := none) h (fun w hw => h.wst w (List.mem_append_right _ (List.mem_cons_of_mem _ hw))) (jl_runI h hd hc hn hst h1 h2 hm) k
end JI
