/-! calls of static methods with a table of exceptions -/
section JSw
variable {l : Launch} {G : jl_G} {M : jl_M} {u : Nat × Nat} {pc : Nat} {ls : List (Option Value)} {st : List Value} {σ : jl_S} {o : jl_O} {σ' : jl_S}
variable {p : Program} {e : Env} {s : State} {m : MethodId} {args : Array Value} {below : List Frame} {meth : Method} {c : Code} {H : Heap} {locs : List Loc} {la : Array Slot} {n0 : Nat} {ad0 ad : Nat → Nat}
def jl_cw (M M' : jl_M) (hh : List (Nat × Nat × Nat × Nat)) (idx n : Nat) : Bool :=
  decide (Cond.methodLink M.1.cls idx M'.1 ∈ jl_gw) && decide (Cond.initialized M'.1.cls ∈ jl_gw) && decide (M'.2.2.2.2.2 ∈ jl_gw) && decide (M'.2.2.2.2.2 = .codeWith M'.1 M'.2.1 M'.2.2.1 M'.2.2.2.1 hh) && decide (M'.1.cls ≠ "java/lang/invoke/MethodHandle") && decide (M'.1.cls ≠ "java/lang/invoke/VarHandle") &&
  decide ((parseMethodDescriptor M'.1.desc).map (fun d => d.parameters.length) = some n) && decide (M'.2.2.2.2.1.frames + 1 ≤ M.2.2.2.2.1.frames) && decide (8 + (M'.2.2.1 + 11) + M'.2.2.2.2.1.locals ≤ M.2.2.2.2.1.locals) && decide (Cond.static M'.1 ∈ jl_gw)
theorem jl_CW {M' : jl_M} {hh : List (Nat × Nat × Nat × Nat)} {idx n : Nat} (h : jl_cw M M' hh idx n = true) (hts : ∀ w ∈ jl_gw, w.before args s = true) : vx_CSW M.2.2.2.2.1 s args M.1.cls idx M'.1 M'.2.1 M'.2.2.1 M'.2.2.2.1 hh (M'.2.2.2.2.2 :: jl_gw) M'.2.2.2.2.1 M'.2.2.2.2.1.cells M'.2.2.2.2.1.slots n := by
  simp only [jl_cw, Bool.and_eq_true, decide_eq_true_eq] at h
  obtain ⟨⟨⟨⟨⟨⟨⟨⟨⟨w0, w1⟩, w2⟩, w3⟩, w4⟩, w5⟩, w6⟩, w7⟩, w8⟩, w9⟩ := h
  refine ⟨⟨rfl, rfl, w7, w8, jl_gws hts w2, by rw [w3]; exact List.mem_cons_self⟩, by rw [← w3]; exact hts _ w2, hts _ w1, ⟨w4, w5⟩, fun sig hs => ?_, hts _ w0, hts _ w9⟩
  rw [hs] at w6
  exact (Option.some.inj w6).symm
theorem jl_runSW {hh : List (Nat × Nat × Nat × Nat)} {idx n : Nat} {As : List Value} {M' : jl_M} {o1 : jl_O} {σ1 : jl_S} (h : jl_At l G M p s m args meth c H locs la n0 ad0 ad ls (As.reverse ++ st) σ) (hd : decode M.2.1 pc = .ok (.invokestatic idx, 3)) (hc : jl_cw M M' hh idx n = true) (hn : As.length = n) (hst : (st.map fun v => v.category).sum ≤ 8)
    (h1 : u.1 + M'.2.2.2.2.1.cells ≤ M.2.2.2.2.1.cells) (h2 : u.2 + M'.2.2.2.2.1.slots ≤ M.2.2.2.2.1.slots) (hm : jl_m l G M' As σ o1 σ1) :
    vx_Run p l e M.2.2.2.2.1 s m args below meth c H locs u.1 u.2 M'.2.2.2.2.1.cells M'.2.2.2.2.1.slots (F0 m pc la ((As.reverse ++ st).map (jl_v ad))) (st.map (jl_v ad)) (jl_Q G σ.length ad o1 σ1 (As.map (jl_v ad)).toArray) (jl_QX G σ.length ad o1 σ1) (jl_A G) := by
  have hin : ∀ v ∈ As, jl_in σ.length v := fun v hv => h.wst _ (List.mem_append_left _ (List.mem_reverse.mpr hv))
  exact vx_runSX (hh := hh) (Ts := jl_gw) (nL := M.2.2.1) (As := As.map (jl_v ad)) (rest := st.map (jl_v ad)) (g := F0 m pc la ((As.reverse ++ st).map (jl_v ad))) ⟨h.1.1, h.1.2.1, h.1.2.2.1, h.own, h.ts⟩ (hm ad) (jl_CW hc h.ts) ⟨jl_blind, jl_pre h hin⟩ rfl (by rw [List.length_map]; exact hn) h.2.2.2.1.1 (by simp) (lv_room (jl_cat8 hst)) hd ⟨h1, h2⟩
theorem jr_callSW {hh : List (Nat × Nat × Nat × Nat)} {idx n : Nat} {As : List Value} {M' : jl_M} {v : Option Value} {σ1 : jl_S} (hd : decode M.2.1 pc = .ok (.invokestatic idx, 3)) (hc : jl_cw M M' hh idx n = true) (hn : As.length = n) (hst : (st.map fun v => v.category).sum ≤ 8)
    (h1 : u.1 + M'.2.2.2.2.1.cells ≤ M.2.2.2.2.1.cells) (h2 : u.2 + M'.2.2.2.2.1.slots ≤ M.2.2.2.2.1.slots) (hm : jl_m l G M' As σ (.inl v) σ1) (k : jl_W l G M (u.1 + M'.2.2.2.2.1.cells, u.2 + M'.2.2.2.2.1.slots) (pc + 3) ls (v.toList ++ st) σ1 o σ') : jl_W l G M u pc ls (As.reverse ++ st) σ o σ' := by
  intro p e s m args below meth c H locs la n0 ad0 ad h
  exact jl_go h (fun w hw => h.wst w (List.mem_append_right _ hw)) (jl_runSW h hd hc hn hst h1 h2 hm) k
theorem er_callSWE {P : jl_O → jl_S → Prop} {hh : List (Nat × Nat × Nat × Nat)} {idx n : Nat} {As : List Value} {M' : jl_M} (hd : decode M.2.1 pc = .ok (.invokestatic idx, 3)) (hc : jl_cw M M' hh idx n = true) (hn : As.length = n) (hst : (st.map fun v => v.category).sum ≤ 8)
    (h1 : u.1 + M'.2.2.2.2.1.cells ≤ M.2.2.2.2.1.cells) (h2 : u.2 + M'.2.2.2.2.1.slots ≤ M.2.2.2.2.1.slots) (hm : jl_mE l G M' As σ (fun o1 σ1 => ∃ v, o1 = .inl v ∧ jl_E l G M (u.1 + M'.2.2.2.2.1.cells, u.2 + M'.2.2.2.2.1.slots) (pc + 3) ls (v.toList ++ st) σ1 P)) : jl_E l G M u pc ls (As.reverse ++ st) σ P := by
  obtain ⟨o1, σ1, ⟨v, rfl, k⟩, hm⟩ := hm
  obtain ⟨o2, σ2, hp, k⟩ := k
  exact ⟨o2, σ2, hp, jr_callSW hd hc hn hst h1 h2 hm k⟩
end JSw
