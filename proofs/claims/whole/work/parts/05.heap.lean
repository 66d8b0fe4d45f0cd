/-! rows of jl_W that read and write cells -/
section JH
variable {l : Launch} {G : jl_G} {M : jl_M} {u : Nat × Nat} {pc : Nat} {ls : List (Option Value)} {st : List Value} {σ : jl_S} {o : jl_O} {σ' : jl_S}
variable {p : Program} {s : State} {m : MethodId} {args : Array Value} {meth : Method} {c : Code} {H : Heap} {locs : List Loc} {la : Array Slot} {n0 : Nat} {ad0 ad : Nat → Nat}
/-- field kf of class ci by the entry idx of M's class -/
def jl_fd (M : jl_M) (idx ci kf : Nat) : Bool := match jl_cl[ci]? with
  | some r => decide (kf < r.2.2) && decide (Cond.fieldLink M.1.cls idx r.1 (r.2.1 kf).2.1 (r.2.1 kf).2.2.1 ∈ jl_gw)
  | none => false
theorem jl_fd_of {idx ci kf : Nat} (h : jl_fd M idx ci kf = true) : ∃ r, jl_cl[ci]? = some r ∧ kf < r.2.2 ∧ Cond.fieldLink M.1.cls idx r.1 (r.2.1 kf).2.1 (r.2.1 kf).2.2.1 ∈ jl_gw := by
  unfold jl_fd at h
  split at h
  · next r hr =>
    simp only [Bool.and_eq_true, decide_eq_true_eq] at h
    exact ⟨r, hr, h⟩
  · cases h
theorem jl_ok_set {a : Nat} {c : jl_C} (h : jl_ok σ) (hc : jl_okc σ.length c) : jl_ok (σ.set a c) := by
  intro i d hd
  rw [List.length_set]
  by_cases hij : a = i
  · subst hij
    by_cases hl : a < σ.length
    · rw [List.getElem?_set_self hl] at hd
      cases hd
      exact hc
    · rw [List.getElem?_eq_none (by simpa using Nat.not_lt.mp hl)] at hd
      cases hd
  · rw [List.getElem?_set_ne hij] at hd
    exact h i d hd
theorem jl_R_set {a : Nat} {c : jl_C} {H1 : Heap} (h : jl_ok σ) (hc : jl_okc σ.length c) (hP : va_P G.1 jl_cl ((jl_ws G.2.1 ad σ).set a (ad a, jl_e G.2.1 ad c)) H1) (hD : va_D (jl_A G) ((jl_ws G.2.1 ad σ).set a (ad a, jl_e G.2.1 ad c))) : jl_R G ad (σ.set a c) H1 := by
  rw [jl_ws_set] at hP hD
  exact ⟨hP, hD, jl_ok_set h hc⟩
theorem jl_At.set {a : Nat} {d : jl_C} {H1 : Heap} {locs1 : List Loc} {st' : List Value} (h : jl_At l G M p s m args meth c H locs la n0 ad0 ad ls st σ) (hs : ∀ v ∈ st', jl_in σ.length v) (hd : jl_okc σ.length d) (hP : va_P G.1 jl_cl ((jl_ws G.2.1 ad σ).set a (ad a, jl_e G.2.1 ad d)) H1) (hD : va_D (jl_A G) ((jl_ws G.2.1 ad σ).set a (ad a, jl_e G.2.1 ad d))) (hS : va_S (jl_A G) s.heap H1 locs1) : jl_At l G M p s m args meth c H1 locs1 la n0 ad0 ad ls st' (σ.set a d) := by
  refine ⟨h.1, hS, jl_R_set h.2.2.1.2.2 hd hP hD, h.2.2.2.1, ?_, ?_, ?_, h.2.2.2.2.2.2.2⟩
  · rw [List.length_set]; exact h.wls
  · rw [List.length_set]; exact hs
  · rw [List.length_set]; exact h.2.2.2.2.2.2.1
theorem jr_getf {idx ci kf a : Nat} {fs : List Value} {v : Value} (hd : decode M.2.1 pc = .ok (.getfield idx, 3)) (hf : jl_fd M idx ci kf = true) (ha : σ[a]? = some (.inr (ci, fs))) (hv : fs[kf]? = some v) (k : jl_W l G M u (pc + 3) ls (v :: st) σ o σ') : jl_W l G M u pc ls (.ref a :: st) σ o σ' := by
  intro p e s m args below meth c H locs la n0 ad0 ad h
  obtain ⟨r, hr, hk, hl⟩ := jl_fd_of hf
  have hin : jl_in σ.length v := h.2.2.1.2.2 a _ ha v (List.mem_of_getElem? hv)
  refine va_get (C := r.1) (T := r.2.1) (N := r.2.2) (ref := r.1) h.1.1 h.1.2.1 h.ts (jl_lays r (List.mem_of_getElem? hr)) h.own h.K.1 h.2.2.1.1 a (jl_ws_at ha) hr kf hk (h.ts _ hl) ?_ (v := jl_v ad v) (by simp [hv]) hd (k p e s m args below meth c H locs la n0 ad0 ad (h.re (jl_cs hin (jl_tl h.wst))))
  rw [(jl_tyok hr kf hk).2]
  exact fun _ z => z
/-- a value that a field of that type takes as it is -/
def jl_fit (t : FieldType) (v : Value) : Prop := ∀ ad : Nat → Nat, narrow t (jl_v ad v) = jl_v ad v ∧ fits t (jl_v ad v) = true
def jl_fp (M : jl_M) (idx ci kf : Nat) : Bool := jl_fd M idx ci kf && match jl_cl[ci]? with
  | some r => !(r.2.1 kf).2.2.2 || (decide (M.1.name = "<init>") && decide (M.1.cls = r.1))
  | none => false
theorem jr_putf {idx ci kf a : Nat} {fs : List Value} {v : Value} (hd : decode M.2.1 pc = .ok (.putfield idx, 3)) (hf : jl_fp M idx ci kf = true) (ha : σ[a]? = some (.inr (ci, fs))) (hl : kf < fs.length) (hv : jl_fit (jl_ty ci kf) v) (k : jl_W l G M u (pc + 3) ls st (σ.set a (.inr (ci, fs.set kf v))) o σ') : jl_W l G M u pc ls (v :: .ref a :: st) σ o σ' := by
  intro p e s m args below meth c H locs la n0 ad0 ad h
  unfold jl_fp at hf
  rw [Bool.and_eq_true] at hf
  obtain ⟨hf, hf2⟩ := hf
  obtain ⟨r, hr, hk, hlk⟩ := jl_fd_of hf
  rw [hr] at hf2
  have hok : jl_okc σ.length (.inr (ci, fs.set kf v)) := by
    intro w hw
    rcases List.mem_or_eq_of_mem_set hw with h1 | h1
    · exact h.2.2.1.2.2 a _ ha w h1
    · rw [h1]; exact jl_hd h.wst
  have hsm : ∀ x, s.fieldFound? (r.2.1 kf).1 (r.2.1 kf).2.1 (r.2.1 kf).2.2.1 = some x → s.fieldFound? r.1 (r.2.1 kf).2.1 (r.2.1 kf).2.2.1 = some x := by
    rw [(jl_tyok hr kf hk).2]
    exact fun _ z => z
  have hfin : ∀ (H1 : Heap) (locs1 : List Loc), va_P G.1 jl_cl ((jl_ws G.2.1 ad σ).set a (ad a, .inr (ci, (fs.map (jl_v ad)).set kf (jl_v ad v)))) H1 → va_D (jl_A G) ((jl_ws G.2.1 ad σ).set a (ad a, .inr (ci, (fs.map (jl_v ad)).set kf (jl_v ad v)))) → va_S (jl_A G) s.heap H1 locs1 → W p l e M.2.2.2.2.1 s m args below meth c H1 locs1 u.1 u.2 (vx_MQ below (jl_Q G n0 ad0 o σ') (jl_QX G n0 ad0 o σ') args s M.2.2.2.2.1.cells M.2.2.2.2.1.slots (jl_A G)) (F0 m (pc + 3) la (st.map (jl_v ad))) := by
    intro H1 locs1 hP hD hS
    rw [← List.map_set] at hP hD
    exact k p e s m args below meth c H1 locs1 la n0 ad0 ad (h.set (d := .inr (ci, fs.set kf v)) (jl_tl (jl_tl h.wst)) hok hP hD hS)
  cases hb : (r.2.1 kf).2.2.2 with
  | false =>
    exact va_put (C := r.1) (T := r.2.1) (N := r.2.2) (ref := r.1) (own := M.1.cls) h.1.1 h.1.2.1 h.ts (jl_lays r (List.mem_of_getElem? hr)) (jl_ty ci) (fun k hk => (jl_tyok hr k hk).1) (jl_nmok hr) h.own h.K.1 h.2.2.1.1 h.2.2.1.2.1 h.2.1 a (jl_ws_at ha) hr kf hk (h.ts _ hlk) hsm hb (jl_tyok hr kf hk).1 (hv ad).1 (hv ad).2 (by simpa using hl) hd hfin
  | true =>
    simp only [hb, Bool.not_true, Bool.false_or, Bool.and_eq_true, decide_eq_true_eq] at hf2
    exact va_putF (C := r.1) (T := r.2.1) (N := r.2.2) (ref := r.1) (own := M.1.cls) h.1.1 h.1.2.1 h.ts (jl_lays r (List.mem_of_getElem? hr)) (jl_ty ci) (fun k hk => (jl_tyok hr k hk).1) (jl_nmok hr) h.own h.K.1 h.2.2.1.1 h.2.2.1.2.1 h.2.1 a (jl_ws_at ha) hr kf hk (h.ts _ hlk) hsm hb (by rw [h.1.2.2.2.2.2.2.2.1]; exact hf2.1) (by rw [(jl_tyok hr kf hk).2]; exact hf2.2.symm) (jl_tyok hr kf hk).1 (hv ad).1 (hv ad).2 (by simpa using hl) hd hfin
theorem jl_fit_int {x : Int32} : jl_fit .int (.int x) := fun _ => ⟨rfl, rfl⟩
theorem jl_fit_obj {C : String} {a : Nat} : jl_fit (.object C) (.ref a) := fun _ => ⟨rfl, rfl⟩
theorem jl_fit_objN {C : String} : jl_fit (.object C) .null := fun _ => ⟨rfl, rfl⟩
theorem jl_fit_arr {t : FieldType} {a : Nat} : jl_fit (.array t) (.ref a) := fun _ => ⟨rfl, rfl⟩
theorem jl_fit_b0 : jl_fit .boolean (.int 0) := fun _ => ⟨show narrow .boolean (.int 0) = .int 0 by decide, show fits .boolean (.int 0) = true by decide⟩
theorem jl_fit_b1 : jl_fit .boolean (.int 1) := fun _ => ⟨show narrow .boolean (.int 1) = .int 1 by decide, show fits .boolean (.int 1) = true by decide⟩
/-! arrays -/
theorem jr_iald {a n : Nat} {f : Nat → Int32} {i : Int32} (hd : decode M.2.1 pc = .ok (.iaload, 1)) (ha : σ[a]? = some (.inl (0, n, .inl f))) (hi : vp_in i n) (k : jl_W l G M u (pc + 1) ls (.int (f i.toNatClampNeg) :: st) σ o σ') : jl_W l G M u pc ls (.int i :: .ref a :: st) σ o σ' := by
  intro p e s m args below meth c H locs la n0 ad0 ad h
  exact va_iald h.1.1 h.1.2.1 h.K.1 h.2.2.1.1 a 0 (jl_ws_at ha) rfl hi hd (k p e s m args below meth c H locs la n0 ad0 ad (h.re (jl_cs jl_ii (jl_tl (jl_tl h.wst)))))
theorem jr_bald {a n : Nat} {f : Nat → Int32} {i : Int32} (hd : decode M.2.1 pc = .ok (.baload, 1)) (ha : σ[a]? = some (.inl (1, n, .inl f))) (hi : vp_in i n) (k : jl_W l G M u (pc + 1) ls (.int (f i.toNatClampNeg) :: st) σ o σ') : jl_W l G M u pc ls (.int i :: .ref a :: st) σ o σ' := by
  intro p e s m args below meth c H locs la n0 ad0 ad h
  exact va_zald h.1.1 h.1.2.1 h.K.1 h.2.2.1.1 a 1 (jl_ws_at ha) rfl hi hd (k p e s m args below meth c H locs la n0 ad0 ad (h.re (jl_cs jl_ii (jl_tl (jl_tl h.wst)))))
theorem jr_lald {a n : Nat} {f : Nat → Int64} {i : Int32} (hd : decode M.2.1 pc = .ok (.laload, 1)) (ha : σ[a]? = some (.inl (2, n, .inr (.inl f)))) (hi : vp_in i n) (k : jl_W l G M u (pc + 1) ls (.long (f i.toNatClampNeg) :: st) σ o σ') : jl_W l G M u pc ls (.int i :: .ref a :: st) σ o σ' := by
  intro p e s m args below meth c H locs la n0 ad0 ad h
  exact va_lald h.1.1 h.1.2.1 h.K.1 h.2.2.1.1 a 2 (jl_ws_at ha) rfl hi hd (k p e s m args below meth c H locs la n0 ad0 ad (h.re (jl_cs jl_il (jl_tl (jl_tl h.wst)))))
theorem jl_rf_v (ad : Nat → Nat) (r : Option Nat) : jl_v ad (va_rf r) = va_rf (r.map ad) := by cases r <;> rfl
theorem jr_aald {a n : Nat} {f : Nat → Option Nat} {i : Int32} (hd : decode M.2.1 pc = .ok (.aaload, 1)) (ha : σ[a]? = some (.inl (3, n, .inr (.inr (.inr (.inr f)))))) (hi : vp_in i n) (k : jl_W l G M u (pc + 1) ls (va_rf (f i.toNatClampNeg) :: st) σ o σ') : jl_W l G M u pc ls (.int i :: .ref a :: st) σ o σ' := by
  intro p e s m args below meth c H locs la n0 ad0 ad h
  refine va_aldq h.1.1 h.1.2.1 h.K.1 h.2.2.1.1 a 3 (jl_ws_at ha) rfl hi hd ?_
  have hin : jl_in σ.length (va_rf (f i.toNatClampNeg)) := by
    cases hf : f i.toNatClampNeg with
    | none => exact jl_i0
    | some b => exact jl_ir (h.2.2.1.2.2 a _ ha f rfl _ _ hf)
  have k2 := k p e s m args below meth c H locs la n0 ad0 ad (h.re (jl_cs hin (jl_tl (jl_tl h.wst))))
  rw [List.map_cons, jl_rf_v] at k2
  exact k2
theorem jr_iast {a n : Nat} {f : Nat → Int32} {i x : Int32} (hd : decode M.2.1 pc = .ok (.iastore, 1)) (ha : σ[a]? = some (.inl (0, n, .inl f))) (hi : vp_in i n) (k : jl_W l G M u (pc + 1) ls st (σ.set a (.inl (0, n, .inl (upd f i.toNatClampNeg x)))) o σ') : jl_W l G M u pc ls (.int x :: .int i :: .ref a :: st) σ o σ' := by
  intro p e s m args below meth c H locs la n0 ad0 ad h
  refine va_iast h.1.1 h.1.2.1 h.K.1 h.2.2.1.1 h.2.2.1.2.1 h.2.1 a 0 (jl_ws_at ha) rfl hi hd (fun H1 locs1 hP hD hS => ?_)
  exact k p e s m args below meth c H1 locs1 la n0 ad0 ad (h.set (d := .inl (0, n, .inl (upd f i.toNatClampNeg x))) (jl_tl (jl_tl (jl_tl h.wst))) (fun f hf => by cases hf) hP hD hS)
theorem jr_bast {a n : Nat} {f : Nat → Int32} {i x : Int32} (hd : decode M.2.1 pc = .ok (.bastore, 1)) (ha : σ[a]? = some (.inl (1, n, .inl f))) (hi : vp_in i n) (k : jl_W l G M u (pc + 1) ls st (σ.set a (.inl (1, n, .inl (upd f i.toNatClampNeg (vp_nar .boolean x))))) o σ') : jl_W l G M u pc ls (.int x :: .int i :: .ref a :: st) σ o σ' := by
  intro p e s m args below meth c H locs la n0 ad0 ad h
  refine va_zast h.1.1 h.1.2.1 h.K.1 h.2.2.1.1 h.2.2.1.2.1 h.2.1 a 1 (jl_ws_at ha) rfl hi hd (fun H1 locs1 hP hD hS => ?_)
  exact k p e s m args below meth c H1 locs1 la n0 ad0 ad (h.set (d := .inl (1, n, .inl (upd f i.toNatClampNeg (vp_nar .boolean x)))) (jl_tl (jl_tl (jl_tl h.wst))) (fun f hf => by cases hf) hP hD hS)
theorem jr_last {a n : Nat} {f : Nat → Int64} {i : Int32} {x : Int64} (hd : decode M.2.1 pc = .ok (.lastore, 1)) (ha : σ[a]? = some (.inl (2, n, .inr (.inl f)))) (hi : vp_in i n) (k : jl_W l G M u (pc + 1) ls st (σ.set a (.inl (2, n, .inr (.inl (vp_updL f i.toNatClampNeg x))))) o σ') : jl_W l G M u pc ls (.long x :: .int i :: .ref a :: st) σ o σ' := by
  intro p e s m args below meth c H locs la n0 ad0 ad h
  refine va_last h.1.1 h.1.2.1 h.K.1 h.2.2.1.1 h.2.2.1.2.1 h.2.1 a 2 (jl_ws_at ha) rfl hi hd (fun H1 locs1 hP hD hS => ?_)
  exact k p e s m args below meth c H1 locs1 la n0 ad0 ad (h.set (d := .inl (2, n, .inr (.inl (vp_updL f i.toNatClampNeg x)))) (jl_tl (jl_tl (jl_tl h.wst))) (fun f hf => by cases hf) hP hD hS)
theorem jr_aast {a n b : Nat} {f : Nat → Option Nat} {fs : List Value} {i : Int32} (hd : decode M.2.1 pc = .ok (.aastore, 1)) (ha : σ[a]? = some (.inl (3, n, .inr (.inr (.inr (.inr f)))))) (hb : σ[b]? = some (.inr (2, fs))) (hi : vp_in i n) (k : jl_W l G M u (pc + 1) ls st (σ.set a (.inl (3, n, .inr (.inr (.inr (.inr (va_up f i.toNatClampNeg (some b)))))))) o σ') : jl_W l G M u pc ls (.ref b :: .int i :: .ref a :: st) σ o σ' := by
  intro p e s m args below meth c H locs la n0 ad0 ad h
  refine va_astq (r := ("JavaChain$Method", qt_Me, 13)) h.1.1 h.1.2.1 h.K.1 h.2.2.1.1 h.2.2.1.2.1 h.2.1 a 3 b 2 (jl_ws_at ha) rfl (jl_ws_at hb) rfl hi hd (fun H1 locs1 hP hD hS => ?_)
  have e1 : va_up (fun j => (f j).map ad) i.toNatClampNeg (some (ad b)) = fun j => (va_up f i.toNatClampNeg (some b) j).map ad := by
    funext j
    by_cases hj : j = i.toNatClampNeg <;> simp [va_up, hj]
  rw [e1] at hP hD
  refine k p e s m args below meth c H1 locs1 la n0 ad0 ad (h.set (d := .inl (3, n, .inr (.inr (.inr (.inr (va_up f i.toNatClampNeg (some b))))))) (jl_tl (jl_tl (jl_tl h.wst))) ?_ hP hD hS)
  intro g hg j q hq
  cases hg
  by_cases hj : j = i.toNatClampNeg
  · subst hj
    simp only [va_up, if_true] at hq
    cases hq
    exact jl_hd h.wst b rfl
  · rw [va_up_ne _ _ hj] at hq
    exact h.2.2.1.2.2 a _ ha f rfl _ _ hq
end JH
