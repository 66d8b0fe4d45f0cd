/-! Object's constructor, a private constructor of a nest mate, System.arraycopy, a long array, what is thrown and caught -/
section JM
variable {l : Launch} {G : jl_G} {M : jl_M} {u : Nat × Nat} {pc : Nat} {ls : List (Option Value)} {st : List Value} {σ : jl_S} {o : jl_O} {σ' : jl_S}
variable {p : Program} {e : Env} {s : State} {m : MethodId} {args : Array Value} {below : List Frame} {meth : Method} {c : Code} {H : Heap} {locs : List Loc} {la : Array Slot} {n0 : Nat} {ad0 ad : Nat → Nat}
theorem jl_oi1 : Cond.instanceMethod Lib.objectInit ∈ jl_gw := by decide +kernel
theorem jl_oi2 : Cond.code Lib.objectInit ⟨#[0xb1]⟩ 1 none ∈ jl_gw := by decide +kernel
theorem jr_obj {idx b : Nat} (hd : decode M.2.1 pc = .ok (.invokespecial idx, 3)) (hc : Cond.methodLink M.1.cls idx Lib.objectInit ∈ jl_gw) (h1 : 1 ≤ M.2.2.2.2.1.frames) (h2 : (st.map fun v => v.category).sum ≤ 8) (h3 : 20 ≤ M.2.2.2.2.1.locals) (k : jl_W l G M u (pc + 3) ls st σ o σ') : jl_W l G M u pc ls (.ref b :: st) σ o σ' := by
  intro p e s m args below meth c H locs la n0 ad0 ad h
  have h8 : (((st.map (jl_v ad)).map fun v => v.category).sum) ≤ 8 := jl_cat8 h2
  refine W.objInit (rest := st.map (jl_v ad)) (a := ad b) h.1.1 h.1.2.1 h.own (h.ts _ hc) (h.ts _ jl_oi1) (h.ts _ jl_oi2) rfl (by rw [h.1.2.2.1]; exact h.2.2.2.1.1) rfl hd h1 ?_ (k p e s m args below meth c H locs la n0 ad0 ad (h.re (jl_tl h.wst)))
  show 2 * 0 + _ + 12 ≤ _
  omega
theorem jl_ac1 : Cond.native arraycopyName ∈ jl_gw := by decide +kernel
theorem jl_ac2 : Cond.static arraycopyName ∈ jl_gw := by decide +kernel
theorem jl_ac3 : Cond.initialized "java/lang/System" ∈ jl_gw := by decide +kernel
theorem jr_copy {idx a0 a1 k0 k1 : Nat} {f g : Nat → Int32} {sp dp n : Nat} (hd : decode M.2.1 pc = .ok (.invokestatic idx, 3)) (hc : Cond.methodLink M.1.cls idx arraycopyName ∈ jl_gw) (ha0 : σ[a0]? = some (.inl (0, k0, .inl f))) (ha1 : σ[a1]? = some (.inl (0, k1, .inl g))) (hs : sp + n ≤ k0) (ht : dp + n ≤ k1) (hk : k0 < 2 ^ 31 ∧ k1 < 2 ^ 31) (h1 : 1 ≤ M.2.2.2.2.1.frames) (h2 : (st.map fun v => v.category).sum ≤ 8) (h3 : 40 ≤ M.2.2.2.2.1.locals)
    (k : jl_W l G M u (pc + 3) ls st (σ.set a1 (.inl (0, k1, .inl (va_cpy f g sp dp n)))) o σ') : jl_W l G M u pc ls (.int (nI n) :: .int (nI dp) :: .ref a1 :: .int (nI sp) :: .ref a0 :: st) σ o σ' := by
  intro p e s m args below meth c H locs la n0 ad0 ad h
  have h8 : (((st.map (jl_v ad)).map fun v => v.category).sum) ≤ 8 := jl_cat8 h2
  have b1 : n < 2 ^ 31 := by omega
  have b2 : dp < 2 ^ 31 := by omega
  have b3 : sp < 2 ^ 31 := by omega
  refine va_copyi (rest := st.map (jl_v ad)) (q0 := a0) (q1 := a1) (t0 := 0) (t1 := 0) (ty := .int) h.1.1 h.1.2.1 (by rw [h.1.2.2.1, h.2.2.2.1.1]) h.own (h.ts _ hc) (h.ts _ jl_ac1) (h.ts _ jl_ac2) (h.ts _ jl_ac3) h.K.1 h.2.2.1.1 h.2.2.1.2.1 h.2.1 (jl_ws_at ha0) (jl_ws_at ha1) rfl rfl rfl (nI_pos b3) (nI_pos b2) (nI_pos b1) (by rw [nI_clamp b3, nI_clamp b1]; exact hs) (by rw [nI_clamp b2, nI_clamp b1]; exact ht) (fun i _ => rfl) h1 ?_ hd (fun H1 locs1 hP hD hS => ?_)
  · show _ + ((if (("java/lang/System" == "java/lang/Thread" && "arraycopy" == "currentThread") || ("java/lang/System" == "java/lang/StrictMath" && "arraycopy" == "sqrt")) then 0 else 5 + 2) + 11) ≤ _
    have : (if (("java/lang/System" == "java/lang/Thread" && "arraycopy" == "currentThread") || ("java/lang/System" == "java/lang/StrictMath" && "arraycopy" == "sqrt")) then 0 else 5 + 2) = 7 := by decide
    rw [this]
    omega
  · rw [nI_clamp b3, nI_clamp b2, nI_clamp b1] at hP hD
    exact k p e s m args below meth c H1 locs1 la n0 ad0 ad (h.set (d := .inl (0, k1, .inl (va_cpy f g sp dp n))) (jl_tl (jl_tl (jl_tl (jl_tl (jl_tl h.wst))))) (fun f hf => by cases hf) hP hD hS)
theorem jr_newJ {N : Nat} {n : Int32} (hd : decode M.2.1 pc = .ok (.newarray .long, 2)) (hn : n = nI N) (hN : N ≤ 100000) (h1 : u.1 + 1 ≤ M.2.2.2.2.1.cells) (h2 : u.2 + N ≤ M.2.2.2.2.1.slots) (k : jl_W l G M (u.1 + 1, u.2 + N) (pc + 2) ls (.ref σ.length :: st) (σ ++ [.inl (2, N, .inr (.inl fun _ => 0))]) o σ') : jl_W l G M u pc ls (.int n :: st) σ o σ' := by
  intro p e s m args below meth c H locs la n0 ad0 ad h
  have hb : N < 2 ^ 31 := by omega
  subst hn
  refine va_newa (ty := .long) (a0 := (N, .inr (.inl fun _ => 0))) h.1.1 h.1.2.1 (h.ts _ jl_acJ) rfl h.K.1 h.2.2.1.1 h.2.2.1.2.1 h.2.1 (jl_hA h) (fun cA => rfl) (nI_pos hb) (nI_clamp hb) (by show N * 8 ≤ 536870912; omega) h1 h2 hd (fun q cA H1 hK2 hP hD hS => ?_)
  have e0 := jl_RA (t := 2) (ty := .long) (tys := []) h.K rfl rfl hK2
  subst e0
  have k2 := k p e s m args below meth c H1 locs la n0 ad0 (va_up ad σ.length q) ((h.re (jl_tl h.wst)).new (d := .inl (2, N, .inr (.inl fun _ => 0))) (q := q) (fun f hf => by cases hf) hP hD hS)
  rw [jl_map_up (jl_tl h.wst)] at k2
  exact k2
/-- the store's private constructor, from the machine's -/
def jl_cn (M M' : jl_M) (n : Nat) : Bool :=
  decide (M.1.cls = "JavaChain$Machine") && decide (M'.1 = ⟨"JavaChain$Store", "<init>", "()V"⟩) && decide (Cond.initialized M'.1.cls ∈ jl_gw) && decide (M'.2.2.2.2.2 ∈ jl_gw) && decide (M'.2.2.2.2.2 = .code M'.1 M'.2.1 M'.2.2.1 none) &&
  decide ((parseMethodDescriptor M'.1.desc).map (fun d => d.parameters.length) = some n) && decide (M'.2.2.2.2.1.frames + 1 ≤ M.2.2.2.2.1.frames) && decide (8 + (M'.2.2.1 + 11) + M'.2.2.2.2.1.locals ≤ M.2.2.2.2.1.locals) && decide (Cond.instanceMethod M'.1 ∈ jl_gw)
theorem jr_callIN {b : Nat} {M' : jl_M} {σ1 : jl_S} (hd : decode M.2.1 pc = .ok (.invokespecial 11, 3)) (hc : jl_cn M M' 0 = true) (hst : (st.map fun v => v.category).sum ≤ 8)
    (h1 : u.1 + M'.2.2.2.2.1.cells ≤ M.2.2.2.2.1.cells) (h2 : u.2 + M'.2.2.2.2.1.slots ≤ M.2.2.2.2.1.slots) (hm : jl_m l G M' [.ref b] σ (.inl none) σ1) (k : jl_W l G M (u.1 + M'.2.2.2.2.1.cells, u.2 + M'.2.2.2.2.1.slots) (pc + 3) ls st σ1 o σ') : jl_W l G M u pc ls (.ref b :: st) σ o σ' := by
  intro p e s m args below meth c H locs la n0 ad0 ad h
  simp only [jl_cn, Bool.and_eq_true, decide_eq_true_eq] at hc
  obtain ⟨⟨⟨⟨⟨⟨⟨⟨w0, w1⟩, w2⟩, w3⟩, w4⟩, w5⟩, w6⟩, w7⟩, w8⟩ := hc
  have hin : ∀ v ∈ [Value.ref b], jl_in σ.length v := fun v hv => by
    rw [List.mem_singleton.mp hv]
    exact jl_hd h.wst
  have hcn : va_CN M.2.2.2.2.1 s args M.1.cls 11 M'.1 "JavaChain" M'.2.1 M'.2.2.1 none (M'.2.2.2.2.2 :: jl_gw) M'.2.2.2.2.1 M'.2.2.2.2.1.cells M'.2.2.2.2.1.slots 0 := by
    refine ⟨⟨rfl, rfl, w6, w7, jl_gws h.ts w3, by rw [w4]; exact List.mem_cons_self⟩, by rw [← w4]; exact h.ts _ w3, h.ts _ w2, ⟨by rw [w1]; decide, by rw [w1]; decide⟩, fun sig hs => ?_, ?_⟩
    · rw [hs] at w5
      exact (Option.some.inj w5).symm
    · rw [w0, w1]
      exact va_Nw.use rfl h.K.2.2.2.2.2.2.1
  refine jl_go (M' := M') (v := none) (aa := [Value.ref (ad b)].toArray) (st2 := st) h (jl_tl h.wst) ?_ k
  intro T hT X
  exact Or.inl (va_runIN (Ts := jl_gw) (nL := M.2.2.1) (b := ad b) (As := []) (rest := st.map (jl_v ad)) (g := F0 m pc la ((.ref b :: st).map (jl_v ad))) ⟨h.1.1, h.1.2.1, h.1.2.2.1, h.own, h.ts⟩ (jl_met hm ad) ⟨hcn, by rw [w1], h.ts _ w8⟩ ⟨jl_blind, jl_pre h hin⟩ rfl rfl h.2.2.2.1.1 rfl (lv_room (jl_cat8 hst)) hd ⟨h1, h2⟩ T hT X)
/-- a callee's run that throws, caught here by the row x -/
theorem jr_callVC {idx n b ci : Nat} {fs As : List Value} {r : vw_C} {M' : jl_M} {E : String} {σ1 : jl_S} (hd : decode M.2.1 pc = .ok (.invokevirtual idx, 3)) (hc : jl_cv M M' idx n = true) (hb : σ[b]? = some (.inr (ci, fs))) (hr : jl_cl[ci]? = some r) (hC : r.1 = M'.1.cls) (hn : As.length = n) (hst : (st.map fun v => v.category).sum ≤ 8)
    (h1 : u.1 + M'.2.2.2.2.1.cells ≤ M.2.2.2.2.1.cells) (h2 : u.2 + M'.2.2.2.2.1.slots ≤ M.2.2.2.2.1.slots) (hm : jl_m l G M' (.ref b :: As) σ (.inr E) σ1)
    (pre : List ExceptionTableEntry) (x : ExceptionTableEntry) (suf : List ExceptionTableEntry) (hsp : jl_tbl M = pre ++ x :: suf) (hE : E ∈ jl_xs) (hps : ∀ z ∈ pre, z.catchType ≠ 0 ∧ ∃ nm, Cond.classLink M.1.cls z.catchType nm ∈ jl_gw ∧ nm ∈ jl_xs ∧ E ≠ nm) (hx : covers x pc = true) (hx0 : x.catchType ≠ 0) (hl : Cond.classLink M.1.cls x.catchType E ∈ jl_gw)
    (k : ∀ q : Nat, jl_W l G M (u.1 + M'.2.2.2.2.1.cells, u.2 + M'.2.2.2.2.1.slots) x.handlerPc ls [.retAddr q] σ1 o σ') : jl_W l G M u pc ls (As.reverse ++ .ref b :: st) σ o σ' := by
  intro p e s m args below meth c H locs la n0 ad0 ad h
  have hrun := jl_runV (e := e) (below := below) h hd hc hb hr hC hn hst h1 h2 hm
  intro T hT X
  rcases hrun T hT X with ⟨v', st₀, t, T', L, h0, X', hL, e1, e2, ⟨⟨ad1, v1, ho, -⟩, -⟩, -⟩ | ⟨q, st₀, t, T', L, E1, ce, h0, X', hL, e1, e2, ⟨⟨ad1, ho, hn1, hag, hR1⟩, hF⟩, hce, hcv, hcl, hstp⟩
  · cases ho
  · cases ho
    have hA := h.back (v := some (.retAddr q)) h0 e1 hL hF hn1 hag hR1 (fun w hw => by cases hw; exact jl_iq) [] (fun w hw => by cases hw)
    have hW := vx_catch (p := p) (l := l) (e := e) (R := M.2.2.2.2.1) (below := below) (meth := meth) (locs := locs ++ L) (cells := u.1 + M'.2.2.2.2.1.cells) (slots := u.2 + M'.2.2.2.2.1.slots) (Q := vx_MQ below (jl_Q G n0 ad0 o σ') (jl_QX G n0 ad0 o σ') args s M.2.2.2.2.1.cells M.2.2.2.2.1.slots (jl_A G)) (ls := la) (pc := pc) (rest := st.map (jl_v ad)) (H := T'.heap) (E := E) (name := E) (ce := ce) (q := q) h.own pre x suf (by rw [h.1.2.2.2.2.2.2.2.2.2.2.2.2]; exact hsp) (fun z hz => by
      obtain ⟨z0, nm, z1, z2, z3⟩ := hps z hz
      exact Or.inr ⟨z0, nm, h.ts _ z1, h.K.2.2.2.2.2.2.2.2 E hE nm z2 z3⟩) hx hx0 (h.ts _ hl) (va_Nw.use rfl (h.K.2.1 E hE)) (by rw [e1]; exact hce) hcv hcl (k q p e s m args below meth c T'.heap (locs ++ L) la n0 ad0 ad1 hA)
    obtain ⟨t2, a1, b1⟩ := hW T' rfl X'
    exact ⟨t2, hstp.trans a1, b1⟩
end JM
