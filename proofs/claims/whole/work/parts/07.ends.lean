/-! ends, throws, calls; a contract out of its walk -/
section JE
variable {l : Launch} {G : jl_G} {M : jl_M} {u : Nat × Nat} {pc : Nat} {ls : List (Option Value)} {st : List Value} {σ : jl_S} {o : jl_O} {σ' : jl_S}
variable {p : Program} {s : State} {m : MethodId} {args : Array Value} {meth : Method} {c : Code} {H : Heap} {locs : List Loc} {la : Array Slot} {n0 : Nat} {ad0 ad : Nat → Nat}
theorem jl_end {v : Option Value} {t : State} (h : jl_At l G M p s m args meth c H locs la n0 ad0 ad ls st σ) (hv : ∀ w, v = some w → jl_in σ.length w) (ht : t.heap = H) : jl_Q G n0 ad0 (.inl v) σ args s (.returned (v.map (jl_v ad))) t :=
  ⟨⟨ad, v, rfl, rfl, h.2.2.2.2.2.2.1, h.2.2.2.2.2.2.2, by rw [ht]; exact h.2.2.1, hv⟩, h.2.1.F ht⟩
theorem jr_iret {v : Int32} (hd : decode M.2.1 pc = .ok (.ireturn, 1)) (hr : M.2.2.2.1 = some .int) (h1 : u.1 ≤ M.2.2.2.2.1.cells) (h2 : u.2 ≤ M.2.2.2.2.1.slots) : jl_W l G M u pc ls [.int v] σ (.inl (some (.int v))) σ := by
  intro p e s m args below meth c H locs la n0 ad0 ad h
  refine W.widen h1 h2 (vx_ret (W.iret h.1.1 h.1.2.1 (by rw [h.1.2.2.2.2.2.1]; exact hr) (fun t ht hW => ?_) h.2.1.2.2 hd h.1.2.2.2.2.2.2.1))
  exact jl_end (v := some (.int v)) h (fun w hw => by cases hw; exact jl_ii) ht
theorem jr_zret {v : Int32} (hd : decode M.2.1 pc = .ok (.ireturn, 1)) (hr : M.2.2.2.1 = some .boolean) (hv : v = 0 ∨ v = 1) (h1 : u.1 ≤ M.2.2.2.2.1.cells) (h2 : u.2 ≤ M.2.2.2.2.1.slots) : jl_W l G M u pc ls [.int v] σ (.inl (some (.int v))) σ := by
  intro p e s m args below meth c H locs la n0 ad0 ad h
  refine W.widen h1 h2 (vx_ret (W.zret (ty := .boolean) h.1.1 h.1.2.1 (by rw [h.1.2.2.2.2.2.1]; exact hr) (by rcases hv with rfl | rfl <;> decide) (fun t ht hW => ?_) h.2.1.2.2 hd h.1.2.2.2.2.2.2.1))
  exact jl_end (v := some (.int v)) h (fun w hw => by cases hw; exact jl_ii) ht
theorem jr_vret (hd : decode M.2.1 pc = .ok (.return_, 1)) (hr : M.2.2.2.1 = none) (h1 : u.1 ≤ M.2.2.2.2.1.cells) (h2 : u.2 ≤ M.2.2.2.2.1.slots) : jl_W l G M u pc ls [] σ (.inl none) σ := by
  intro p e s m args below meth c H locs la n0 ad0 ad h
  refine W.widen h1 h2 (vx_ret (W.vret h.1.1 h.1.2.1 (by rw [h.1.2.2.2.2.2.1]; exact hr) (fun t ht hW => ?_) h.2.1.2.2 hd h.1.2.2.2.2.2.2.1))
  exact jl_end (v := none) h (fun w hw => by cases hw) ht
theorem jr_aret {r : Option Nat} {C : String} (hd : decode M.2.1 pc = .ok (.areturn, 1)) (hr : M.2.2.2.1 = some (.object C)) (h1 : u.1 ≤ M.2.2.2.2.1.cells) (h2 : u.2 ≤ M.2.2.2.2.1.slots) : jl_W l G M u pc ls [va_rf r] σ (.inl (some (va_rf r))) σ := by
  intro p e s m args below meth c H locs la n0 ad0 ad h
  refine W.widen h1 h2 (vx_ret (W.aret (v := jl_v ad (va_rf r)) h.1.1 h.1.2.1 (by rw [h.1.2.2.2.2.2.1]; exact hr) (Or.inl ⟨C, rfl⟩) (by cases r with | none => exact Or.inl rfl | some a => exact Or.inr ⟨_, rfl⟩) (fun t ht hW => ?_) h.2.1.2.2 hd h.1.2.2.2.2.2.2.1))
  exact jl_end (v := some (va_rf r)) h (fun w hw => by cases hw; exact jl_hd h.wst) ht
/-! statics and the script -/
theorem jr_gets {idx ci : Nat} {nm own : String} (t : Nat) (hd : decode M.2.1 pc = .ok (.getstatic idx, 3)) (ho : M.1.cls = own) (hw : (own, idx, nm, t) ∈ [("JavaChain$Checker", 39, "TAKES", G.2.2.2.1), ("JavaChain$Checker", 86, "PUTS", G.2.2.2.2.1), ("JavaChain$Verifier", 163, "PUTS", G.2.2.2.2.1)]) (k : jl_W l G M u (pc + 3) ls (.retAddr t :: st) σ o σ') : jl_W l G M u pc ls st σ o σ' := by
  intro p e s m args below meth c H locs la n0 ad0 ad h
  have k2 := k p e s m args below meth c H locs la n0 ad0 ad (h.re (jl_cs jl_iq h.wst))
  subst ho
  have hown := h.own
  simp only [List.mem_cons, Prod.mk.injEq, List.not_mem_nil, or_false] at hw
  rcases hw with ⟨e1, rfl, rfl, rfl⟩ | ⟨e1, rfl, rfl, rfl⟩ | ⟨e1, rfl, rfl, rfl⟩
  · rw [e1] at hown
    exact va_getsN h.1.1 h.1.2.1 h.Z.1 h.2.1 hown (va_Nw.use rfl h.K.2.2.2.1) (fun _ z => z) hd k2
  · rw [e1] at hown
    exact va_getsN h.1.1 h.1.2.1 h.Z.2.2.1 h.2.1 hown (va_Nw.use rfl h.K.2.2.2.2.1) (fun _ z => z) hd k2
  · rw [e1] at hown
    exact va_getsN h.1.1 h.1.2.1 h.Z.2.2.1 h.2.1 hown (va_Nw.use rfl h.K.2.2.2.2.2.1) (fun _ z => z) hd k2
theorem jr_tkld {i : Int32} (hd : decode M.2.1 pc = .ok (.iaload, 1)) (hi : vp_in i 26) (k : jl_W l G M u (pc + 1) ls (.int (jl_tk.getD i.toNatClampNeg 0) :: st) σ o σ') : jl_W l G M u pc ls (.int i :: .retAddr G.2.2.2.1 :: st) σ o σ' := by
  intro p e s m args below meth c H locs la n0 ad0 ad h
  exact va_ti h.1.1 h.1.2.1 h.Z.2.1 h.2.1 hi rfl hd (k p e s m args below meth c H locs la n0 ad0 ad (h.re (jl_cs jl_ii (jl_tl (jl_tl h.wst)))))
theorem jr_ptld {i : Int32} (hd : decode M.2.1 pc = .ok (.iaload, 1)) (hi : vp_in i 26) (k : jl_W l G M u (pc + 1) ls (.int (jl_pt.getD i.toNatClampNeg 0) :: st) σ o σ') : jl_W l G M u pc ls (.int i :: .retAddr G.2.2.2.2.1 :: st) σ o σ' := by
  intro p e s m args below meth c H locs la n0 ad0 ad h
  exact va_ti h.1.1 h.1.2.1 h.Z.2.2.2.1 h.2.1 hi rfl hd (k p e s m args below meth c H locs la n0 ad0 ad (h.re (jl_cs jl_ii (jl_tl (jl_tl h.wst)))))
theorem jl_At.blt (h : jl_At l G M p s m args meth c H locs la n0 ad0 ad ls st σ) : G.2.2.2.2.2.1 < s.heap.size := by
  obtain ⟨scr, hs, -⟩ := h.Z.2.2.2.2.2.2.1
  exact (Array.getElem?_eq_some_iff.mp hs).1
theorem jr_sld {i : Int32} (hd : decode M.2.1 pc = .ok (.iaload, 1)) (hi : vp_in i G.2.2.2.2.2.2.1) (k : jl_W l G M u (pc + 1) ls (.int (G.2.2.2.2.2.2.2 i.toNatClampNeg) :: st) σ o σ') : jl_W l G M u pc ls (.int i :: .retAddr G.2.2.2.2.2.1 :: st) σ o σ' := by
  intro p e s m args below meth c H locs la n0 ad0 ad h
  exact va_sld h.1.1 h.1.2.1 h.Z.2.2.2.2.2.2.1 h.blt h.Z.2.2.2.2.2.2.2 h.2.1 hi hd (k p e s m args below meth c H locs la n0 ad0 ad (h.re (jl_cs jl_ii (jl_tl (jl_tl h.wst)))))
theorem jr_slen (hd : decode M.2.1 pc = .ok (.arraylength, 1)) (k : jl_W l G M u (pc + 1) ls (.int (Int32.ofNat G.2.2.2.2.2.2.1) :: st) σ o σ') : jl_W l G M u pc ls (.retAddr G.2.2.2.2.2.1 :: st) σ o σ' := by
  intro p e s m args below meth c H locs la n0 ad0 ad h
  exact va_slen h.1.1 h.1.2.1 h.Z.2.2.2.2.2.2.1 h.blt h.Z.2.2.2.2.2.2.2 h.2.1 hd (k p e s m args below meth c H locs la n0 ad0 ad (h.re (jl_cs jl_ii (jl_tl h.wst))))
/-! throws -/
def jl_nms : List String := ["java/lang/RuntimeException", "java/lang/Exception"]
def jl_bad (E : String) : List Cond := .castable E E :: jl_dec.map Cond.declares
def jl_tw (M : jl_M) (ik ic : Nat) (E : String) : Bool :=
  decide (E ∈ jl_xs) && decide (Cond.classLink M.1.cls ik E ∈ jl_gw) && decide (Cond.initialized E ∈ jl_gw) && ((vx_at0 M.1.cls ic E jl_nms).filter goodWord).all (fun w => decide (w ∈ jl_gw)) &&
  ((vx_at0 M.1.cls ic E jl_nms).filter (fun w => !goodWord w)).all (fun w => decide (w ∈ jl_bad E)) && (Cond.classLink M.1.cls ik E :: Cond.initialized E :: vx_at0 M.1.cls ic E jl_nms).all vx_ot && Bundle.fit E && jl_nms.all Bundle.fit && (jl_tbl M).isEmpty && decide (5 < M.2.2.2.2.1.frames) && decide (81 ≤ M.2.2.2.2.1.locals)
theorem jr_throw {ik ic : Nat} {E : String} (d0 : decode M.2.1 pc = .ok (.new ik, 3)) (d3 : decode M.2.1 (pc + 3) = .ok (.dup, 1)) (d4 : decode M.2.1 (pc + 4) = .ok (.invokespecial ic, 3)) (d7 : decode M.2.1 (pc + 7) = .ok (.athrow, 1)) (hw : jl_tw M ik ic E = true) (h1 : u.1 + 1 ≤ M.2.2.2.2.1.cells) (h2 : u.2 + 6 ≤ M.2.2.2.2.1.slots) : jl_W l G M u pc ls [] σ (.inr E) σ := by
  intro p e s m args below meth c H locs la n0 ad0 ad h
  simp only [jl_tw, Bool.and_eq_true, decide_eq_true_eq, List.all_eq_true] at hw
  obtain ⟨⟨⟨⟨⟨⟨⟨⟨⟨⟨w0, w1⟩, w2⟩, w3⟩, w4⟩, w5⟩, w6⟩, w7⟩, w8⟩, w9⟩, w10⟩ := hw
  have hbad : ∀ w ∈ jl_bad E, w.before args s = true := by
    intro w hw
    rcases List.mem_cons.mp hw with rfl | hw
    · exact va_Nw.use rfl (h.K.2.1 E w0)
    · obtain ⟨y, hy, rfl⟩ := List.mem_map.mp hw
      exact va_Nw.use rfl (h.K.2.2.1 y hy)
  have ht : jl_tbl M = [] := by simpa using w8
  have hat : ∀ w ∈ vx_at0 M.1.cls ic E jl_nms, w.before args s = true := vx_hat (B := jl_bad E) (fun w hw => h.ts w (w3 w hw)) w4 hbad
  refine vx_throw0 (names := jl_nms) (cls := E) (A := jl_A G) h.1.1 h.1.2.1 h.1.2.2.2.2.2.2.2.2.1 h.own w6 w7 (h.ts _ w1) (h.ts _ w2) hat w5 h.Z.2.2.2.2.1 h.Z.2.2.2.2.2.1 h.2.1 (by rw [h.2.2.2.1.1, h.1.2.2.1]) d0 d3 d4 d7 (fun x hx => by rw [h.1.2.2.2.2.2.2.2.2.2.2.2.2, ht] at hx; cases hx) w9 w10 h1 h2 h.1.2.2.2.2.2.2.1 (fun t hvm hz hk => ?_) h.2.1.2.2 h1 h2
  refine ⟨⟨ad, rfl, h.2.2.2.2.2.2.1, h.2.2.2.2.2.2.2, h.2.2.1.1.kept (fun k q hq => hk q.1 (h.2.2.1.1 k q hq).lt), h.2.2.1.2⟩, Nat.le_trans h.2.1.1 hz, fun q hq hA => ?_⟩
  rw [hk q (Nat.lt_of_lt_of_le hq h.2.1.1)]
  exact h.2.1.2.1 q hq hA
end JE
