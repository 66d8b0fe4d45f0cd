section JR
variable {l : Launch} {G : jl_G} {M : jl_M} {u : Nat × Nat} {pc : Nat} {ls : List (Option Value)} {st : List Value} {σ : jl_S} {o : jl_O} {σ' : jl_S}
variable {p : Program} {s : State} {m : MethodId} {args : Array Value} {meth : Method} {c : Code} {H : Heap} {locs : List Loc} {la : Array Slot} {n0 : Nat} {ad0 ad : Nat → Nat}
theorem jl_ii {n : Nat} {x : Int32} : jl_in n (.int x) := fun _ h => by cases h
theorem jl_il {n : Nat} {x : Int64} : jl_in n (.long x) := fun _ h => by cases h
theorem jl_iq {n q : Nat} : jl_in n (.retAddr q) := fun _ h => by cases h
theorem jl_i0 {n : Nat} : jl_in n .null := fun _ h => by cases h
theorem jl_ir {n i : Nat} (h : i < n) : jl_in n (.ref i) := fun _ e => by cases e; exact h
theorem jl_cs {n : Nat} {v : Value} {st : List Value} (h : jl_in n v) (hs : ∀ w ∈ st, jl_in n w) : ∀ w ∈ v :: st, jl_in n w := fun w hw => (List.mem_cons.mp hw).elim (fun e => e ▸ h) (hs w)
theorem jl_tl {n : Nat} {v : Value} {st : List Value} (h : ∀ w ∈ v :: st, jl_in n w) : ∀ w ∈ st, jl_in n w := fun w hw => h w (List.mem_cons_of_mem _ hw)
theorem jl_hd {n : Nat} {v : Value} {st : List Value} (h : ∀ w ∈ v :: st, jl_in n w) : jl_in n v := h v List.mem_cons_self
theorem jl_cat (ad : Nat → Nat) (v : Value) : (jl_v ad v).category = v.category := by cases v <;> rfl
theorem jl_At.wst (h : jl_At l G M p s m args meth c H locs la n0 ad0 ad ls st σ) : ∀ v ∈ st, jl_in σ.length v := h.2.2.2.2.2.1
theorem jl_At.wls (h : jl_At l G M p s m args meth c H locs la n0 ad0 ad ls st σ) : ∀ (i : Nat) (v : Value), ls[i]? = some (some v) → jl_in σ.length v := h.2.2.2.2.1
theorem jl_At.K (h : jl_At l G M p s m args meth c H locs la n0 ad0 ad ls st σ) : jl_K G s := h.1.2.2.2.2.2.2.2.2.2.2.1
theorem jl_At.Z (h : jl_At l G M p s m args meth c H locs la n0 ad0 ad ls st σ) : jl_Z G s s.heap := h.1.2.2.2.2.2.2.2.2.2.2.2.1
theorem jl_At.own (h : jl_At l G M p s m args meth c H locs la n0 ad0 ad ls st σ) : s.vm.findClass M.1.cls = some m.cls := h.1.2.2.2.1
theorem jl_At.ts (h : jl_At l G M p s m args meth c H locs la n0 ad0 ad ls st σ) : ∀ w ∈ jl_gw, w.before args s = true := h.1.2.2.2.2.1
theorem jl_At.re {st' : List Value} (h : jl_At l G M p s m args meth c H locs la n0 ad0 ad ls st σ) (hs : ∀ v ∈ st', jl_in σ.length v) : jl_At l G M p s m args meth c H locs la n0 ad0 ad ls st' σ := ⟨h.1, h.2.1, h.2.2.1, h.2.2.2.1, h.2.2.2.2.1, hs, h.2.2.2.2.2.2⟩
/-! the locals as the kit's rows have them -/
def jl_lv (ad : Nat → Nat) (ls : List (Option Value)) : List (Nat × Value) := (List.range ls.length).filterMap fun i => match ls[i]? with
  | some (some v) => some (i, jl_v ad v)
  | _ => none
theorem jl_lv_mem {ad : Nat → Nat} {ls : List (Option Value)} {i : Nat} {w : Value} : (i, w) ∈ jl_lv ad ls ↔ ∃ v, ls[i]? = some (some v) ∧ w = jl_v ad v := by
  unfold jl_lv
  rw [List.mem_filterMap]
  constructor
  · rintro ⟨j, -, hj⟩
    split at hj
    · next v hv =>
      cases hj
      exact ⟨v, hv, rfl⟩
    · cases hj
  · rintro ⟨v, hv, rfl⟩
    refine ⟨i, List.mem_range.mpr (List.getElem?_eq_some_iff.mp hv).1, ?_⟩
    rw [hv]
theorem jl_L.has {n : Nat} (h : jl_L la n ad ls) : lv_has la n (jl_lv ad ls) := by
  refine ⟨h.1, h.2.1, fun q hq => ?_⟩
  obtain ⟨i, w⟩ := q
  obtain ⟨v, hv, rfl⟩ := jl_lv_mem.mp hq
  exact (h.2.2 i v hv).1
theorem jl_L.put {la' : Array Slot} {n i : Nat} {v : Value} (h0 : jl_L la n ad ls) (hc : v.category = 1) (h : lv_has la' n ((i, jl_v ad v) :: (jl_lv ad ls).filter (fun q => !(q.1 == i) && !(q.1 + 1 == i && q.2.category == 2)))) : jl_L la' n ad (ls.set i (some v)) := by
  refine ⟨h.1, h.2.1, fun j w hj => ?_⟩
  by_cases hij : i = j
  · subst hij
    by_cases hl : i < ls.length
    · rw [List.getElem?_set_self hl] at hj
      cases hj
      exact ⟨h.2.2 _ List.mem_cons_self, hc⟩
    · rw [List.getElem?_eq_none (by simpa using Nat.not_lt.mp hl)] at hj
      cases hj
  · rw [List.getElem?_set_ne hij] at hj
    obtain ⟨-, h1⟩ := h0.2.2 j w hj
    refine ⟨h.2.2 (j, jl_v ad w) (List.mem_cons_of_mem _ (List.mem_filter.mpr ⟨jl_lv_mem.mpr ⟨w, hj, rfl⟩, ?_⟩)), h1⟩
    have hc2 : (jl_v ad w).category = 1 := by rw [jl_cat]; exact h1
    simp [hc2, Ne.symm hij]
theorem jl_At.put {la' : Array Slot} {i : Nat} {v : Value} (h : jl_At l G M p s m args meth c H locs la n0 ad0 ad ls (v :: st) σ) (hc : v.category = 1) (hl : lv_has la' M.2.2.1 ((i, jl_v ad v) :: (jl_lv ad ls).filter (fun q => !(q.1 == i) && !(q.1 + 1 == i && q.2.category == 2)))) : jl_At l G M p s m args meth c H locs la' n0 ad0 ad (ls.set i (some v)) st σ := by
  refine ⟨h.1, h.2.1, h.2.2.1, jl_L.put h.2.2.2.1 hc hl, fun j w hj => ?_, jl_tl h.wst, h.2.2.2.2.2.2⟩
  by_cases hij : i = j
  · subst hij
    by_cases hb : i < ls.length
    · rw [List.getElem?_set_self hb] at hj
      cases hj
      exact jl_hd h.wst
    · rw [List.getElem?_eq_none (by simpa using Nat.not_lt.mp hb)] at hj
      cases hj
  · rw [List.getElem?_set_ne hij] at hj
    exact h.wls j w hj
/-- fewer locals known -/
theorem jr_weak {ls' : List (Option Value)} (hs : ∀ (i : Nat) (v : Value), ls'[i]? = some (some v) → ls[i]? = some (some v)) (k : jl_W l G M u pc ls' st σ o σ') : jl_W l G M u pc ls st σ o σ' := by
  intro p e s m args below meth c H locs la n0 ad0 ad h
  exact k p e s m args below meth c H locs la n0 ad0 ad ⟨h.1, h.2.1, h.2.2.1, ⟨h.2.2.2.1.1, h.2.2.2.1.2.1, fun i v hv => h.2.2.2.1.2.2 i v (hs i v hv)⟩, fun i v hv => h.wls i v (hs i v hv), h.2.2.2.2.2⟩
theorem jr_eq {pc' : Nat} (h : pc = pc') (k : jl_W l G M u pc' ls st σ o σ') : jl_W l G M u pc ls st σ o σ' := h ▸ k
theorem jr_iconst {n : Int} (v : Int32) (hd : decode M.2.1 pc = .ok (.iconst n, 1)) (hv : Int32.ofInt n = v) (k : jl_W l G M u (pc + 1) ls (.int v :: st) σ o σ') : jl_W l G M u pc ls st σ o σ' := by
  intro p e s m args below meth c H locs la n0 ad0 ad h
  exact lv_iconst h.1.1 h.1.2.1 hd hv (k p e s m args below meth c H locs la n0 ad0 ad (h.re (jl_cs jl_ii h.wst)))
theorem jr_bipush {n : Int} (v : Int32) (hd : decode M.2.1 pc = .ok (.bipush n, 2)) (hv : (Int8.ofInt n).toInt32 = v) (k : jl_W l G M u (pc + 2) ls (.int v :: st) σ o σ') : jl_W l G M u pc ls st σ o σ' := by
  intro p e s m args below meth c H locs la n0 ad0 ad h
  exact lv_bipush h.1.1 h.1.2.1 hd hv (k p e s m args below meth c H locs la n0 ad0 ad (h.re (jl_cs jl_ii h.wst)))
theorem jr_sipush {n : Int} (v : Int32) (hd : decode M.2.1 pc = .ok (.sipush n, 3)) (hv : (Int16.ofInt n).toInt32 = v) (k : jl_W l G M u (pc + 3) ls (.int v :: st) σ o σ') : jl_W l G M u pc ls st σ o σ' := by
  intro p e s m args below meth c H locs la n0 ad0 ad h
  exact lv_sipush h.1.1 h.1.2.1 hd hv (k p e s m args below meth c H locs la n0 ad0 ad (h.re (jl_cs jl_ii h.wst)))
theorem jr_ldc {idx : Nat} (v : Int32) (hd : decode M.2.1 pc = .ok (.ldc idx, 2)) (hc : Cond.constant M.1.cls idx v ∈ jl_gw) (k : jl_W l G M u (pc + 2) ls (.int v :: st) σ o σ') : jl_W l G M u pc ls st σ o σ' := by
  intro p e s m args below meth c H locs la n0 ad0 ad h
  exact lv_ldc h.1.1 h.1.2.1 h.own (h.ts _ hc) hd (k p e s m args below meth c H locs la n0 ad0 ad (h.re (jl_cs jl_ii h.wst)))
theorem jr_null (hd : decode M.2.1 pc = .ok (.aconst_null, 1)) (k : jl_W l G M u (pc + 1) ls (.null :: st) σ o σ') : jl_W l G M u pc ls st σ o σ' := by
  intro p e s m args below meth c H locs la n0 ad0 ad h
  exact lv_null h.1.1 h.1.2.1 hd (k p e s m args below meth c H locs la n0 ad0 ad (h.re (jl_cs jl_i0 h.wst)))
theorem jr_iload_n {k : Fin 4} {x : Int32} (hd : decode M.2.1 pc = .ok (.iload_n k, 1)) (hl : ls[(k : Nat)]? = some (some (.int x))) (kk : jl_W l G M u (pc + 1) ls (.int x :: st) σ o σ') : jl_W l G M u pc ls st σ o σ' := by
  intro p e s m args below meth c H locs la n0 ad0 ad h
  exact lv_iload_n h.1.1 h.1.2.1 hd rfl (h.2.2.2.1.2.2 _ _ hl).1 (kk p e s m args below meth c H locs la n0 ad0 ad (h.re (jl_cs (h.wls _ _ hl) h.wst)))
theorem jr_iload {i : Nat} {x : Int32} (hd : decode M.2.1 pc = .ok (.iload i, 2)) (hl : ls[i]? = some (some (.int x))) (kk : jl_W l G M u (pc + 2) ls (.int x :: st) σ o σ') : jl_W l G M u pc ls st σ o σ' := by
  intro p e s m args below meth c H locs la n0 ad0 ad h
  exact lv_iload h.1.1 h.1.2.1 hd (h.2.2.2.1.2.2 _ _ hl).1 (kk p e s m args below meth c H locs la n0 ad0 ad (h.re (jl_cs (h.wls _ _ hl) h.wst)))
theorem jr_aload_n {k : Fin 4} {x : Nat} (hd : decode M.2.1 pc = .ok (.aload_n k, 1)) (hl : ls[(k : Nat)]? = some (some (.ref x))) (kk : jl_W l G M u (pc + 1) ls (.ref x :: st) σ o σ') : jl_W l G M u pc ls st σ o σ' := by
  intro p e s m args below meth c H locs la n0 ad0 ad h
  exact lv_aload_n h.1.1 h.1.2.1 hd rfl (h.2.2.2.1.2.2 _ _ hl).1 (kk p e s m args below meth c H locs la n0 ad0 ad (h.re (jl_cs (h.wls _ _ hl) h.wst)))
theorem jr_aload {i : Nat} {x : Nat} (hd : decode M.2.1 pc = .ok (.aload i, 2)) (hl : ls[i]? = some (some (.ref x))) (kk : jl_W l G M u (pc + 2) ls (.ref x :: st) σ o σ') : jl_W l G M u pc ls st σ o σ' := by
  intro p e s m args below meth c H locs la n0 ad0 ad h
  exact lv_aload h.1.1 h.1.2.1 hd (h.2.2.2.1.2.2 _ _ hl).1 (kk p e s m args below meth c H locs la n0 ad0 ad (h.re (jl_cs (h.wls _ _ hl) h.wst)))
theorem jr_aload_nN {k : Fin 4}  (hd : decode M.2.1 pc = .ok (.aload_n k, 1)) (hl : ls[(k : Nat)]? = some (some (.null))) (kk : jl_W l G M u (pc + 1) ls (.null :: st) σ o σ') : jl_W l G M u pc ls st σ o σ' := by
  intro p e s m args below meth c H locs la n0 ad0 ad h
  exact lv_aload_nN h.1.1 h.1.2.1 hd rfl (h.2.2.2.1.2.2 _ _ hl).1 (kk p e s m args below meth c H locs la n0 ad0 ad (h.re (jl_cs (h.wls _ _ hl) h.wst)))
theorem jr_aloadN {i : Nat}  (hd : decode M.2.1 pc = .ok (.aload i, 2)) (hl : ls[i]? = some (some (.null))) (kk : jl_W l G M u (pc + 2) ls (.null :: st) σ o σ') : jl_W l G M u pc ls st σ o σ' := by
  intro p e s m args below meth c H locs la n0 ad0 ad h
  exact lv_aloadN h.1.1 h.1.2.1 hd (h.2.2.2.1.2.2 _ _ hl).1 (kk p e s m args below meth c H locs la n0 ad0 ad (h.re (jl_cs (h.wls _ _ hl) h.wst)))
theorem jr_aload_nR {k : Fin 4} {x : Nat} (hd : decode M.2.1 pc = .ok (.aload_n k, 1)) (hl : ls[(k : Nat)]? = some (some (.retAddr x))) (kk : jl_W l G M u (pc + 1) ls (.retAddr x :: st) σ o σ') : jl_W l G M u pc ls st σ o σ' := by
  intro p e s m args below meth c H locs la n0 ad0 ad h
  exact lv_aload_n h.1.1 h.1.2.1 hd rfl (h.2.2.2.1.2.2 _ _ hl).1 (kk p e s m args below meth c H locs la n0 ad0 ad (h.re (jl_cs (h.wls _ _ hl) h.wst)))
theorem jr_aloadR {i : Nat} {x : Nat} (hd : decode M.2.1 pc = .ok (.aload i, 2)) (hl : ls[i]? = some (some (.retAddr x))) (kk : jl_W l G M u (pc + 2) ls (.retAddr x :: st) σ o σ') : jl_W l G M u pc ls st σ o σ' := by
  intro p e s m args below meth c H locs la n0 ad0 ad h
  exact lv_aload h.1.1 h.1.2.1 hd (h.2.2.2.1.2.2 _ _ hl).1 (kk p e s m args below meth c H locs la n0 ad0 ad (h.re (jl_cs (h.wls _ _ hl) h.wst)))
theorem jr_istore_n {k : Fin 4} {x : Int32} (hd : decode M.2.1 pc = .ok (.istore_n k, 1)) (hn : (k : Nat) < M.2.2.1) (kk : jl_W l G M u (pc + 1) (ls.set (k : Nat) (some (.int x))) st σ o σ') : jl_W l G M u pc ls (.int x :: st) σ o σ' := by
  intro p e s m args below meth c H locs la n0 ad0 ad h
  exact lv_istore_n h.1.1 h.1.2.1 hd rfl h.2.2.2.1.has hn rfl (fun la' hl => kk p e s m args below meth c H locs la' n0 ad0 ad (h.put rfl hl))
theorem jr_istore {i : Nat} {x : Int32} (hd : decode M.2.1 pc = .ok (.istore i, 2)) (hn : i < M.2.2.1) (kk : jl_W l G M u (pc + 2) (ls.set i (some (.int x))) st σ o σ') : jl_W l G M u pc ls (.int x :: st) σ o σ' := by
  intro p e s m args below meth c H locs la n0 ad0 ad h
  exact lv_istore h.1.1 h.1.2.1 hd h.2.2.2.1.has hn rfl (fun la' hl => kk p e s m args below meth c H locs la' n0 ad0 ad (h.put rfl hl))
theorem jr_astore_n {k : Fin 4} {x : Nat} (hd : decode M.2.1 pc = .ok (.astore_n k, 1)) (hn : (k : Nat) < M.2.2.1) (kk : jl_W l G M u (pc + 1) (ls.set (k : Nat) (some (.ref x))) st σ o σ') : jl_W l G M u pc ls (.ref x :: st) σ o σ' := by
  intro p e s m args below meth c H locs la n0 ad0 ad h
  exact lv_astore_n h.1.1 h.1.2.1 hd rfl h.2.2.2.1.has hn rfl (fun la' hl => kk p e s m args below meth c H locs la' n0 ad0 ad (h.put rfl hl))
theorem jr_astore {i : Nat} {x : Nat} (hd : decode M.2.1 pc = .ok (.astore i, 2)) (hn : i < M.2.2.1) (kk : jl_W l G M u (pc + 2) (ls.set i (some (.ref x))) st σ o σ') : jl_W l G M u pc ls (.ref x :: st) σ o σ' := by
  intro p e s m args below meth c H locs la n0 ad0 ad h
  exact lv_astore h.1.1 h.1.2.1 hd h.2.2.2.1.has hn rfl (fun la' hl => kk p e s m args below meth c H locs la' n0 ad0 ad (h.put rfl hl))
theorem jr_astore_nN {k : Fin 4}  (hd : decode M.2.1 pc = .ok (.astore_n k, 1)) (hn : (k : Nat) < M.2.2.1) (kk : jl_W l G M u (pc + 1) (ls.set (k : Nat) (some (.null))) st σ o σ') : jl_W l G M u pc ls (.null :: st) σ o σ' := by
  intro p e s m args below meth c H locs la n0 ad0 ad h
  exact lv_astore_nN h.1.1 h.1.2.1 hd rfl h.2.2.2.1.has hn rfl (fun la' hl => kk p e s m args below meth c H locs la' n0 ad0 ad (h.put rfl hl))
theorem jr_astoreN {i : Nat}  (hd : decode M.2.1 pc = .ok (.astore i, 2)) (hn : i < M.2.2.1) (kk : jl_W l G M u (pc + 2) (ls.set i (some (.null))) st σ o σ') : jl_W l G M u pc ls (.null :: st) σ o σ' := by
  intro p e s m args below meth c H locs la n0 ad0 ad h
  exact lv_astoreN h.1.1 h.1.2.1 hd h.2.2.2.1.has hn rfl (fun la' hl => kk p e s m args below meth c H locs la' n0 ad0 ad (h.put rfl hl))
theorem jr_astore_nR {k : Fin 4} {x : Nat} (hd : decode M.2.1 pc = .ok (.astore_n k, 1)) (hn : (k : Nat) < M.2.2.1) (kk : jl_W l G M u (pc + 1) (ls.set (k : Nat) (some (.retAddr x))) st σ o σ') : jl_W l G M u pc ls (.retAddr x :: st) σ o σ' := by
  intro p e s m args below meth c H locs la n0 ad0 ad h
  exact lv_astore_n h.1.1 h.1.2.1 hd rfl h.2.2.2.1.has hn rfl (fun la' hl => kk p e s m args below meth c H locs la' n0 ad0 ad (h.put rfl hl))
theorem jr_astoreR {i : Nat} {x : Nat} (hd : decode M.2.1 pc = .ok (.astore i, 2)) (hn : i < M.2.2.1) (kk : jl_W l G M u (pc + 2) (ls.set i (some (.retAddr x))) st σ o σ') : jl_W l G M u pc ls (.retAddr x :: st) σ o σ' := by
  intro p e s m args below meth c H locs la n0 ad0 ad h
  exact lv_astore h.1.1 h.1.2.1 hd h.2.2.2.1.has hn rfl (fun la' hl => kk p e s m args below meth c H locs la' n0 ad0 ad (h.put rfl hl))
theorem jr_aload_nO {k : Fin 4} {r : Option Nat} (hd : decode M.2.1 pc = .ok (.aload_n k, 1)) (hl : ls[(k : Nat)]? = some (some (va_rf r))) (kk : jl_W l G M u (pc + 1) ls (va_rf r :: st) σ o σ') : jl_W l G M u pc ls st σ o σ' := by
  cases r with
  | none => exact jr_aload_nN hd hl kk
  | some a => exact jr_aload_n hd hl kk
theorem jr_aloadO {i : Nat} {r : Option Nat} (hd : decode M.2.1 pc = .ok (.aload i, 2)) (hl : ls[i]? = some (some (va_rf r))) (kk : jl_W l G M u (pc + 2) ls (va_rf r :: st) σ o σ') : jl_W l G M u pc ls st σ o σ' := by
  cases r with
  | none => exact jr_aloadN hd hl kk
  | some a => exact jr_aload hd hl kk
theorem jr_astore_nO {k : Fin 4} {r : Option Nat} (hd : decode M.2.1 pc = .ok (.astore_n k, 1)) (hn : (k : Nat) < M.2.2.1) (kk : jl_W l G M u (pc + 1) (ls.set (k : Nat) (some (va_rf r))) st σ o σ') : jl_W l G M u pc ls (va_rf r :: st) σ o σ' := by
  cases r with
  | none => exact jr_astore_nN hd hn kk
  | some a => exact jr_astore_n hd hn kk
theorem jr_astoreO {i : Nat} {r : Option Nat} (hd : decode M.2.1 pc = .ok (.astore i, 2)) (hn : i < M.2.2.1) (kk : jl_W l G M u (pc + 2) (ls.set i (some (va_rf r))) st σ o σ') : jl_W l G M u pc ls (va_rf r :: st) σ o σ' := by
  cases r with
  | none => exact jr_astoreN hd hn kk
  | some a => exact jr_astore hd hn kk
theorem jr_iinc {i : Nat} {n : Int} {x : Int32} (v : Int32) (hd : decode M.2.1 pc = .ok (.iinc i n, 3)) (hn : i < M.2.2.1) (hl : ls[i]? = some (some (.int x))) (hv : x + Int32.ofInt n = v) (kk : jl_W l G M u (pc + 3) (ls.set i (some (.int v))) st σ o σ') : jl_W l G M u pc ls st σ o σ' := by
  intro p e s m args below meth c H locs la n0 ad0 ad h
  obtain ⟨j, hj⟩ := List.getElem?_of_mem (jl_lv_mem (ad := ad).mpr ⟨_, hl, rfl⟩)
  exact lv_iinc h.1.1 h.1.2.1 hd h.2.2.2.1.has hj hv hn rfl (fun la' hl => kk p e s m args below meth c H locs la' n0 ad0 ad ((h.re (jl_cs jl_ii h.wst)).put rfl hl))
theorem jr_iadd {x y : Int32} (hd : decode M.2.1 pc = .ok (.iadd, 1)) (k : jl_W l G M u (pc + 1) ls (.int (x + y) :: st) σ o σ') : jl_W l G M u pc ls (.int y :: .int x :: st) σ o σ' := by
  intro p e s m args below meth c H locs la n0 ad0 ad h
  exact lv_iadd h.1.1 h.1.2.1 hd (k p e s m args below meth c H locs la n0 ad0 ad (h.re (jl_cs jl_ii (jl_tl (jl_tl h.wst)))))
theorem jr_isub {x y : Int32} (hd : decode M.2.1 pc = .ok (.isub, 1)) (k : jl_W l G M u (pc + 1) ls (.int (x - y) :: st) σ o σ') : jl_W l G M u pc ls (.int y :: .int x :: st) σ o σ' := by
  intro p e s m args below meth c H locs la n0 ad0 ad h
  exact lv_isub h.1.1 h.1.2.1 hd (k p e s m args below meth c H locs la n0 ad0 ad (h.re (jl_cs jl_ii (jl_tl (jl_tl h.wst)))))
theorem jr_imul {x y : Int32} (hd : decode M.2.1 pc = .ok (.imul, 1)) (k : jl_W l G M u (pc + 1) ls (.int (x * y) :: st) σ o σ') : jl_W l G M u pc ls (.int y :: .int x :: st) σ o σ' := by
  intro p e s m args below meth c H locs la n0 ad0 ad h
  exact lv_imul h.1.1 h.1.2.1 hd (k p e s m args below meth c H locs la n0 ad0 ad (h.re (jl_cs jl_ii (jl_tl (jl_tl h.wst)))))
theorem jr_iand {x y : Int32} (hd : decode M.2.1 pc = .ok (.iand, 1)) (k : jl_W l G M u (pc + 1) ls (.int (x &&& y) :: st) σ o σ') : jl_W l G M u pc ls (.int y :: .int x :: st) σ o σ' := by
  intro p e s m args below meth c H locs la n0 ad0 ad h
  exact lv_iand h.1.1 h.1.2.1 hd (k p e s m args below meth c H locs la n0 ad0 ad (h.re (jl_cs jl_ii (jl_tl (jl_tl h.wst)))))
theorem jr_ior {x y : Int32} (hd : decode M.2.1 pc = .ok (.ior, 1)) (k : jl_W l G M u (pc + 1) ls (.int (x ||| y) :: st) σ o σ') : jl_W l G M u pc ls (.int y :: .int x :: st) σ o σ' := by
  intro p e s m args below meth c H locs la n0 ad0 ad h
  exact lv_ior h.1.1 h.1.2.1 hd (k p e s m args below meth c H locs la n0 ad0 ad (h.re (jl_cs jl_ii (jl_tl (jl_tl h.wst)))))
theorem jr_idiv {x y : Int32} (hd : decode M.2.1 pc = .ok (.idiv, 1)) (hne : ¬ y = 0) (k : jl_W l G M u (pc + 1) ls (.int (x / y) :: st) σ o σ') : jl_W l G M u pc ls (.int y :: .int x :: st) σ o σ' := by
  intro p e s m args below meth c H locs la n0 ad0 ad h
  exact lv_idiv h.1.1 h.1.2.1 hd hne (k p e s m args below meth c H locs la n0 ad0 ad (h.re (jl_cs jl_ii (jl_tl (jl_tl h.wst)))))
theorem jr_irem {x y : Int32} (hd : decode M.2.1 pc = .ok (.irem, 1)) (hne : ¬ y = 0) (k : jl_W l G M u (pc + 1) ls (.int (x - x / y * y) :: st) σ o σ') : jl_W l G M u pc ls (.int y :: .int x :: st) σ o σ' := by
  intro p e s m args below meth c H locs la n0 ad0 ad h
  exact lv_irem h.1.1 h.1.2.1 hd hne (k p e s m args below meth c H locs la n0 ad0 ad (h.re (jl_cs jl_ii (jl_tl (jl_tl h.wst)))))
theorem jr_ineg {x : Int32} (hd : decode M.2.1 pc = .ok (.ineg, 1)) (k : jl_W l G M u (pc + 1) ls (.int (-x) :: st) σ o σ') : jl_W l G M u pc ls (.int x :: st) σ o σ' := by
  intro p e s m args below meth c H locs la n0 ad0 ad h
  exact lv_ineg h.1.1 h.1.2.1 hd (k p e s m args below meth c H locs la n0 ad0 ad (h.re (jl_cs jl_ii (jl_tl h.wst))))
theorem jr_i2l {x : Int32} (hd : decode M.2.1 pc = .ok (.i2l, 1)) (k : jl_W l G M u (pc + 1) ls (.long x.toInt64 :: st) σ o σ') : jl_W l G M u pc ls (.int x :: st) σ o σ' := by
  intro p e s m args below meth c H locs la n0 ad0 ad h
  exact lv_i2l h.1.1 h.1.2.1 hd rfl (k p e s m args below meth c H locs la n0 ad0 ad (h.re (jl_cs jl_il (jl_tl h.wst))))
theorem jr_lcmp {x y : Int64} (hd : decode M.2.1 pc = .ok (.lcmp, 1)) (k : jl_W l G M u (pc + 1) ls (.int (lg_cmp x y) :: st) σ o σ') : jl_W l G M u pc ls (.long y :: .long x :: st) σ o σ' := by
  intro p e s m args below meth c H locs la n0 ad0 ad h
  exact W.lcmp h.1.1 h.1.2.1 hd (k p e s m args below meth c H locs la n0 ad0 ad (h.re (jl_cs jl_ii (jl_tl (jl_tl h.wst)))))
theorem jr_dup {v : Value} (hd : decode M.2.1 pc = .ok (.dup, 1)) (hc : v.category = 1) (k : jl_W l G M u (pc + 1) ls (v :: v :: st) σ o σ') : jl_W l G M u pc ls (v :: st) σ o σ' := by
  intro p e s m args below meth c H locs la n0 ad0 ad h
  exact lv_dup h.1.1 h.1.2.1 hd (by rw [jl_cat]; exact hc) (k p e s m args below meth c H locs la n0 ad0 ad (h.re (jl_cs (jl_hd h.wst) h.wst)))
theorem jr_pop {v : Value} (hd : decode M.2.1 pc = .ok (.pop, 1)) (hc : v.category = 1) (k : jl_W l G M u (pc + 1) ls st σ o σ') : jl_W l G M u pc ls (v :: st) σ o σ' := by
  intro p e s m args below meth c H locs la n0 ad0 ad h
  exact lv_pop h.1.1 h.1.2.1 hd (by rw [jl_cat]; exact hc) (k p e s m args below meth c H locs la n0 ad0 ad (h.re (jl_tl h.wst)))
theorem jr_dup2 {v w : Value} (hd : decode M.2.1 pc = .ok (.dup2, 1)) (hv : v.category = 1) (hw : w.category = 1) (k : jl_W l G M u (pc + 1) ls (v :: w :: v :: w :: st) σ o σ') : jl_W l G M u pc ls (v :: w :: st) σ o σ' := by
  intro p e s m args below meth c H locs la n0 ad0 ad h
  exact lv_dup2_11 h.1.1 h.1.2.1 hd (by rw [jl_cat]; exact hv) (by rw [jl_cat]; exact hw) (k p e s m args below meth c H locs la n0 ad0 ad (h.re (jl_cs (jl_hd h.wst) (jl_cs (jl_hd (jl_tl h.wst)) h.wst))))
theorem jr_if_eq {x : Int32} {off : Int} (tgt : Nat) (hd : decode M.2.1 pc = .ok (.ifCond .eq off, 3)) (ht : (pc : Int) + off = (tgt : Int)) (kt : x = 0 → jl_W l G M u tgt ls st σ o σ') (kf : ¬ x = 0 → jl_W l G M u (pc + 3) ls st σ o σ') : jl_W l G M u pc ls (.int x :: st) σ o σ' := by
  intro p e s m args below meth c H locs la n0 ad0 ad h
  exact lv_if_eq h.1.1 h.1.2.1 hd ht (fun z => kt z p e s m args below meth c H locs la n0 ad0 ad (h.re (jl_tl h.wst))) (fun z => kf z p e s m args below meth c H locs la n0 ad0 ad (h.re (jl_tl h.wst)))
theorem jr_icmp_eq {x y : Int32} {off : Int} (tgt : Nat) (hd : decode M.2.1 pc = .ok (.if_icmp .eq off, 3)) (ht : (pc : Int) + off = (tgt : Int)) (kt : x = y → jl_W l G M u tgt ls st σ o σ') (kf : ¬ x = y → jl_W l G M u (pc + 3) ls st σ o σ') : jl_W l G M u pc ls (.int y :: .int x :: st) σ o σ' := by
  intro p e s m args below meth c H locs la n0 ad0 ad h
  exact lv_icmp_eq h.1.1 h.1.2.1 hd ht (fun z => kt z p e s m args below meth c H locs la n0 ad0 ad (h.re (jl_tl (jl_tl h.wst)))) (fun z => kf z p e s m args below meth c H locs la n0 ad0 ad (h.re (jl_tl (jl_tl h.wst))))
theorem jr_if_ne {x : Int32} {off : Int} (tgt : Nat) (hd : decode M.2.1 pc = .ok (.ifCond .ne off, 3)) (ht : (pc : Int) + off = (tgt : Int)) (kt : ¬ x = 0 → jl_W l G M u tgt ls st σ o σ') (kf : x = 0 → jl_W l G M u (pc + 3) ls st σ o σ') : jl_W l G M u pc ls (.int x :: st) σ o σ' := by
  intro p e s m args below meth c H locs la n0 ad0 ad h
  exact lv_if_ne h.1.1 h.1.2.1 hd ht (fun z => kt z p e s m args below meth c H locs la n0 ad0 ad (h.re (jl_tl h.wst))) (fun z => kf z p e s m args below meth c H locs la n0 ad0 ad (h.re (jl_tl h.wst)))
theorem jr_icmp_ne {x y : Int32} {off : Int} (tgt : Nat) (hd : decode M.2.1 pc = .ok (.if_icmp .ne off, 3)) (ht : (pc : Int) + off = (tgt : Int)) (kt : ¬ x = y → jl_W l G M u tgt ls st σ o σ') (kf : x = y → jl_W l G M u (pc + 3) ls st σ o σ') : jl_W l G M u pc ls (.int y :: .int x :: st) σ o σ' := by
  intro p e s m args below meth c H locs la n0 ad0 ad h
  exact lv_icmp_ne h.1.1 h.1.2.1 hd ht (fun z => kt z p e s m args below meth c H locs la n0 ad0 ad (h.re (jl_tl (jl_tl h.wst)))) (fun z => kf z p e s m args below meth c H locs la n0 ad0 ad (h.re (jl_tl (jl_tl h.wst))))
theorem jr_if_lt {x : Int32} {off : Int} (tgt : Nat) (hd : decode M.2.1 pc = .ok (.ifCond .lt off, 3)) (ht : (pc : Int) + off = (tgt : Int)) (kt : x < 0 → jl_W l G M u tgt ls st σ o σ') (kf : ¬ x < 0 → jl_W l G M u (pc + 3) ls st σ o σ') : jl_W l G M u pc ls (.int x :: st) σ o σ' := by
  intro p e s m args below meth c H locs la n0 ad0 ad h
  exact lv_if_lt h.1.1 h.1.2.1 hd ht (fun z => kt z p e s m args below meth c H locs la n0 ad0 ad (h.re (jl_tl h.wst))) (fun z => kf z p e s m args below meth c H locs la n0 ad0 ad (h.re (jl_tl h.wst)))
theorem jr_icmp_lt {x y : Int32} {off : Int} (tgt : Nat) (hd : decode M.2.1 pc = .ok (.if_icmp .lt off, 3)) (ht : (pc : Int) + off = (tgt : Int)) (kt : x < y → jl_W l G M u tgt ls st σ o σ') (kf : ¬ x < y → jl_W l G M u (pc + 3) ls st σ o σ') : jl_W l G M u pc ls (.int y :: .int x :: st) σ o σ' := by
  intro p e s m args below meth c H locs la n0 ad0 ad h
  exact lv_icmp_lt h.1.1 h.1.2.1 hd ht (fun z => kt z p e s m args below meth c H locs la n0 ad0 ad (h.re (jl_tl (jl_tl h.wst)))) (fun z => kf z p e s m args below meth c H locs la n0 ad0 ad (h.re (jl_tl (jl_tl h.wst))))
theorem jr_if_ge {x : Int32} {off : Int} (tgt : Nat) (hd : decode M.2.1 pc = .ok (.ifCond .ge off, 3)) (ht : (pc : Int) + off = (tgt : Int)) (kt : 0 ≤ x → jl_W l G M u tgt ls st σ o σ') (kf : ¬ 0 ≤ x → jl_W l G M u (pc + 3) ls st σ o σ') : jl_W l G M u pc ls (.int x :: st) σ o σ' := by
  intro p e s m args below meth c H locs la n0 ad0 ad h
  exact lv_if_ge h.1.1 h.1.2.1 hd ht (fun z => kt z p e s m args below meth c H locs la n0 ad0 ad (h.re (jl_tl h.wst))) (fun z => kf z p e s m args below meth c H locs la n0 ad0 ad (h.re (jl_tl h.wst)))
theorem jr_icmp_ge {x y : Int32} {off : Int} (tgt : Nat) (hd : decode M.2.1 pc = .ok (.if_icmp .ge off, 3)) (ht : (pc : Int) + off = (tgt : Int)) (kt : y ≤ x → jl_W l G M u tgt ls st σ o σ') (kf : ¬ y ≤ x → jl_W l G M u (pc + 3) ls st σ o σ') : jl_W l G M u pc ls (.int y :: .int x :: st) σ o σ' := by
  intro p e s m args below meth c H locs la n0 ad0 ad h
  exact lv_icmp_ge h.1.1 h.1.2.1 hd ht (fun z => kt z p e s m args below meth c H locs la n0 ad0 ad (h.re (jl_tl (jl_tl h.wst)))) (fun z => kf z p e s m args below meth c H locs la n0 ad0 ad (h.re (jl_tl (jl_tl h.wst))))
theorem jr_if_gt {x : Int32} {off : Int} (tgt : Nat) (hd : decode M.2.1 pc = .ok (.ifCond .gt off, 3)) (ht : (pc : Int) + off = (tgt : Int)) (kt : 0 < x → jl_W l G M u tgt ls st σ o σ') (kf : ¬ 0 < x → jl_W l G M u (pc + 3) ls st σ o σ') : jl_W l G M u pc ls (.int x :: st) σ o σ' := by
  intro p e s m args below meth c H locs la n0 ad0 ad h
  exact lv_if_gt h.1.1 h.1.2.1 hd ht (fun z => kt z p e s m args below meth c H locs la n0 ad0 ad (h.re (jl_tl h.wst))) (fun z => kf z p e s m args below meth c H locs la n0 ad0 ad (h.re (jl_tl h.wst)))
theorem jr_icmp_gt {x y : Int32} {off : Int} (tgt : Nat) (hd : decode M.2.1 pc = .ok (.if_icmp .gt off, 3)) (ht : (pc : Int) + off = (tgt : Int)) (kt : y < x → jl_W l G M u tgt ls st σ o σ') (kf : ¬ y < x → jl_W l G M u (pc + 3) ls st σ o σ') : jl_W l G M u pc ls (.int y :: .int x :: st) σ o σ' := by
  intro p e s m args below meth c H locs la n0 ad0 ad h
  exact lv_icmp_gt h.1.1 h.1.2.1 hd ht (fun z => kt z p e s m args below meth c H locs la n0 ad0 ad (h.re (jl_tl (jl_tl h.wst)))) (fun z => kf z p e s m args below meth c H locs la n0 ad0 ad (h.re (jl_tl (jl_tl h.wst))))
theorem jr_if_le {x : Int32} {off : Int} (tgt : Nat) (hd : decode M.2.1 pc = .ok (.ifCond .le off, 3)) (ht : (pc : Int) + off = (tgt : Int)) (kt : x ≤ 0 → jl_W l G M u tgt ls st σ o σ') (kf : ¬ x ≤ 0 → jl_W l G M u (pc + 3) ls st σ o σ') : jl_W l G M u pc ls (.int x :: st) σ o σ' := by
  intro p e s m args below meth c H locs la n0 ad0 ad h
  exact lv_if_le h.1.1 h.1.2.1 hd ht (fun z => kt z p e s m args below meth c H locs la n0 ad0 ad (h.re (jl_tl h.wst))) (fun z => kf z p e s m args below meth c H locs la n0 ad0 ad (h.re (jl_tl h.wst)))
theorem jr_icmp_le {x y : Int32} {off : Int} (tgt : Nat) (hd : decode M.2.1 pc = .ok (.if_icmp .le off, 3)) (ht : (pc : Int) + off = (tgt : Int)) (kt : x ≤ y → jl_W l G M u tgt ls st σ o σ') (kf : ¬ x ≤ y → jl_W l G M u (pc + 3) ls st σ o σ') : jl_W l G M u pc ls (.int y :: .int x :: st) σ o σ' := by
  intro p e s m args below meth c H locs la n0 ad0 ad h
  exact lv_icmp_le h.1.1 h.1.2.1 hd ht (fun z => kt z p e s m args below meth c H locs la n0 ad0 ad (h.re (jl_tl (jl_tl h.wst)))) (fun z => kf z p e s m args below meth c H locs la n0 ad0 ad (h.re (jl_tl (jl_tl h.wst))))
theorem jr_goto {off : Int} (tgt : Nat) (hd : decode M.2.1 pc = .ok (.goto off, 3)) (ht : (pc : Int) + off = (tgt : Int)) (k : jl_W l G M u tgt ls st σ o σ') : jl_W l G M u pc ls st σ o σ' := by
  intro p e s m args below meth c H locs la n0 ad0 ad h
  exact lv_goto h.1.1 h.1.2.1 hd ht (k p e s m args below meth c H locs la n0 ad0 ad h)
theorem jr_ifnull {x : Nat} {off : Int} (hd : decode M.2.1 pc = .ok (.ifnull off, 3)) (k : jl_W l G M u (pc + 3) ls st σ o σ') : jl_W l G M u pc ls (.ref x :: st) σ o σ' := by
  intro p e s m args below meth c H locs la n0 ad0 ad h
  exact lv_ifnull h.1.1 h.1.2.1 hd (k p e s m args below meth c H locs la n0 ad0 ad (h.re (jl_tl h.wst)))
theorem jr_ifnullN {off : Int} (tgt : Nat) (hd : decode M.2.1 pc = .ok (.ifnull off, 3)) (ht : (pc : Int) + off = (tgt : Int)) (k : jl_W l G M u tgt ls st σ o σ') : jl_W l G M u pc ls (.null :: st) σ o σ' := by
  intro p e s m args below meth c H locs la n0 ad0 ad h
  exact lv_ifnullN h.1.1 h.1.2.1 hd ht (k p e s m args below meth c H locs la n0 ad0 ad (h.re (jl_tl h.wst)))
theorem jr_ifnonnull {x : Nat} {off : Int} (tgt : Nat) (hd : decode M.2.1 pc = .ok (.ifnonnull off, 3)) (ht : (pc : Int) + off = (tgt : Int)) (k : jl_W l G M u tgt ls st σ o σ') : jl_W l G M u pc ls (.ref x :: st) σ o σ' := by
  intro p e s m args below meth c H locs la n0 ad0 ad h
  exact lv_ifnonnull h.1.1 h.1.2.1 hd ht (k p e s m args below meth c H locs la n0 ad0 ad (h.re (jl_tl h.wst)))
theorem jr_ifnonnullN {off : Int} (hd : decode M.2.1 pc = .ok (.ifnonnull off, 3)) (k : jl_W l G M u (pc + 3) ls st σ o σ') : jl_W l G M u pc ls (.null :: st) σ o σ' := by
  intro p e s m args below meth c H locs la n0 ad0 ad h
  exact lv_ifnonnullN h.1.1 h.1.2.1 hd (k p e s m args below meth c H locs la n0 ad0 ad (h.re (jl_tl h.wst)))
theorem jr_tableIn {dflt lo hi off : Int} {offs : Array Int} {len : Nat} {x : Int32} (tgt : Nat) (hd : decode M.2.1 pc = .ok (.tableswitch dflt lo hi offs, len)) (h1 : ¬ x.toInt < lo) (h2 : ¬ hi < x.toInt) (ho : offs[(x.toInt - lo).toNat]? = some off) (ht : (pc : Int) + off = (tgt : Int)) (k : jl_W l G M u tgt ls st σ o σ') : jl_W l G M u pc ls (.int x :: st) σ o σ' := by
  intro p e s m args below meth c H locs la n0 ad0 ad h
  exact lv_tableIn h.1.1 h.1.2.1 hd h1 h2 ho ht (k p e s m args below meth c H locs la n0 ad0 ad (h.re (jl_tl h.wst)))
theorem jr_tableOut {dflt lo hi : Int} {offs : Array Int} {len : Nat} {x : Int32} (tgt : Nat) (hd : decode M.2.1 pc = .ok (.tableswitch dflt lo hi offs, len)) (h1 : x.toInt < lo ∨ hi < x.toInt) (ht : (pc : Int) + dflt = (tgt : Int)) (k : jl_W l G M u tgt ls st σ o σ') : jl_W l G M u pc ls (.int x :: st) σ o σ' := by
  intro p e s m args below meth c H locs la n0 ad0 ad h
  exact lv_tableOut h.1.1 h.1.2.1 hd h1 ht (k p e s m args below meth c H locs la n0 ad0 ad (h.re (jl_tl h.wst)))
end JR
