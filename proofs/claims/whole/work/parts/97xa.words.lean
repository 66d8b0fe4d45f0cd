/-! the model's cells of the machine -/
def kdI (y : Option Nat) : Int32 := match y with
  | none => -1
  | some a => if a = 0 then nI 0 else nI 1
def soI (s : Option Nat) : Int32 := match s with
  | none => -2
  | some k => nI k
/-- METHOD f is at place t of the model's rows, N places of its STACK are known -/
def FrB (fx fp : Nat → Nat) (lw lk vl vk : Nat → Int32) (N t : Nat) (f : Fm) : Prop :=
  fx t = f.m ∧ fp t = f.p ∧ (∀ k, k < 6 → lk (6 * t + k) = kdI (f.R k) ∧ (f.R k ≠ none → lw (6 * t + k) = f.V k)) ∧ ∀ j, j < N → vk (5 * t + j) = kdI (f.R (7 + j)) ∧ vl (5 * t + j) = f.V (7 + j)
def FsB (fx fp fh : Nat → Nat) (lw lk vl vk : Nat → Int32) : List Fm → Prop
  | [] => True
  | f :: fs => FrB fx fp lw lk vl vk (hgt f.R) fs.length f ∧ fh fs.length = hgt f.R ∧ hgt f.R ≤ 5 ∧ FsB fx fp fh lw lk vl vk fs
/-- what is made, as the model has it -/
def HpB (H : Hp) (ks : Nat → Int32) (kc : Nat → Nat) (kv : Nat → Int32) : Prop := ∀ q, q < H.n → ks q = soI (H.so q) ∧ kc q = H.sz q ∧ ∀ i, i < H.sz q → kv (18 * q + i) = H.va (q * 18 + i)
def FY (fx fp fh : Nat → Nat) (lw lk vl vk : Nat → Int32) (N t m p h : Nat) (R : Rw) (V : Nat → Int32) (fs : List Fm) : Prop :=
  FrB fx fp lw lk vl vk N t ⟨m, p, R, V⟩ ∧ fh t = h ∧ FsB fx fp fh lw lk vl vk fs ∧ fs.length = t
def FrN (σ σ' : jl_S) : Prop := σ'.length = σ.length ∧ ∀ i, i ≠ 22 → (i < 40 ∨ i = 42 ∨ 52 < i) → σ'[i]? = σ[i]?
def NB (σ0 σ : jl_S) (N t m p h : Nat) (R : Rw) (V : Nat → Int32) (fs : List Fm) (H : Hp) (fa vf wh wy hg ov oh dn an : Int32) : Prop :=
  ∃ fx fp fh lw lk vl vk ks kc kv lo sk, MoO σ fa vf wh wy hg (nI (t + 1)) (nI H.n) ov oh dn an ∧ σ[43]? = some (.inl (0, 13, .inl fun j => nI (fx j))) ∧ σ[44]? = some (.inl (0, 13, .inl fun j => nI (fp j))) ∧ σ[45]? = some (.inl (0, 13, .inl fun j => nI (fh j))) ∧ σ[46]? = some (.inl (0, 78, .inl lw)) ∧ σ[47]? = some (.inl (0, 78, .inl lk)) ∧ σ[48]? = some (.inl (0, 65, .inl vl)) ∧ σ[49]? = some (.inl (0, 65, .inl vk)) ∧ MoH σ ks kc kv ∧ HpB H ks kc kv ∧ FY fx fp fh lw lk vl vk N t m p h R V fs ∧ (MoR σ lo sk ∧ (∀ j, ob 16 (lo j)) ∧ ∀ j, ob 16 (sk j)) ∧ FrN σ0 σ
section WNb
variable {σ0 σ : jl_S} {fx fp fh fx' fp' fh' : Nat → Nat} {lw lk vl vk lw' lk' vl' vk' : Nat → Int32} {N N' t m p h i : Nat} {R R' : Rw} {V V' : Nat → Int32} {fs : List Fm} {H : Hp} {v : Int32} {y z : Option Nat}
theorem FrN.refl : FrN σ σ := ⟨rfl, fun _ _ _ => rfl⟩
theorem FrN.set {b : Nat} {c : jl_C} (h : FrN σ0 σ) (hb : b = 22 ∨ b = 40 ∨ b = 41 ∨ (43 ≤ b ∧ b ≤ 52)) : FrN σ0 (σ.set b c) := ⟨(List.length_set ..).trans h.1, fun i h3 h4 => by rw [List.getElem?_set_ne (by omega)]; exact h.2 i h3 h4⟩
theorem FsB.low {t : Nat} (h1 : ∀ j, j < t → fx' j = fx j ∧ fp' j = fp j ∧ fh' j = fh j) (h2 : ∀ j, j < 6 * t → lw' j = lw j ∧ lk' j = lk j) (h3 : ∀ j, j < 5 * t → vl' j = vl j ∧ vk' j = vk j) : ∀ {fs : List Fm}, FsB fx fp fh lw lk vl vk fs → fs.length ≤ t → FsB fx' fp' fh' lw' lk' vl' vk' fs := by
  intro fs
  induction fs with
  | nil => intro _ _; trivial
  | cons f fs ih =>
    intro h hl
    rw [List.length_cons] at hl
    obtain ⟨⟨a1, a2, a3, a4⟩, b1, b2, b3⟩ := h
    refine ⟨⟨(h1 _ (by omega)).1.trans a1, (h1 _ (by omega)).2.1.trans a2, fun k hk => ?_, fun j hj => ?_⟩, (h1 _ (by omega)).2.2.trans b1, b2, ih b3 (by omega)⟩
    · obtain ⟨q1, q2⟩ := a3 k hk
      exact ⟨(h2 _ (by omega)).2.trans q1, fun z => (h2 _ (by omega)).1.trans (q2 z)⟩
    · obtain ⟨q1, q2⟩ := a4 j hj
      exact ⟨(h3 _ (by omega)).2.trans q1, (h3 _ (by omega)).1.trans q2⟩
theorem FY.le (h : FY fx fp fh lw lk vl vk N t m p i R V fs) (hN : N' ≤ N) : FY fx fp fh lw lk vl vk N' t m p i R V fs := ⟨⟨h.1.1, h.1.2.1, h.1.2.2.1, fun j hj => h.1.2.2.2 j (by omega)⟩, h.2⟩
/-- the height alone -/
theorem FY.hg (h : FY fx fp fh lw lk vl vk N t m p i R V fs) : FY fx fp (va_up fh t N') lw lk vl vk N t m p N' R V fs :=
  ⟨h.1, va_up_self _ _ _, FsB.low (t := t) (fun j hj => ⟨rfl, rfl, va_up_ne _ _ (by omega)⟩) (fun _ _ => ⟨rfl, rfl⟩) (fun _ _ => ⟨rfl, rfl⟩) h.2.2.1 (by rw [h.2.2.2]; exact Nat.le_refl _), h.2.2.2⟩
/-- the place in the code alone -/
theorem FY.pc (h : FY fx fp fh lw lk vl vk N t m p i R V fs) : FY fx (va_up fp t N') fh lw lk vl vk N t m N' i R V fs :=
  ⟨⟨h.1.1, va_up_self _ _ _, h.1.2.2⟩, h.2.1, FsB.low (t := t) (fun j hj => ⟨rfl, va_up_ne _ _ (by omega), rfl⟩) (fun _ _ => ⟨rfl, rfl⟩) (fun _ _ => ⟨rfl, rfl⟩) h.2.2.1 (by rw [h.2.2.2]; exact Nat.le_refl _), h.2.2.2⟩
/-- the row's height is not in the model's rows -/
theorem FY.six (h : FY fx fp fh lw lk vl vk N t m p i R V fs) : FY fx fp fh lw lk vl vk N t m p i (va_up R 6 y) V fs := by
  refine ⟨⟨h.1.1, h.1.2.1, fun k hk => ?_, fun j hj => ?_⟩, h.2⟩
  · show lk (6 * t + k) = kdI (va_up R 6 y k) ∧ (va_up R 6 y k ≠ none → lw (6 * t + k) = V k)
    rw [va_up_ne _ _ (by omega)]; exact h.1.2.2.1 k hk
  · show vk (5 * t + j) = kdI (va_up R 6 y (7 + j)) ∧ vl (5 * t + j) = V (7 + j)
    rw [va_up_ne _ _ (by omega)]; exact h.1.2.2.2 j hj
theorem FY.put (h : FY fx fp fh lw lk vl vk N t m p i R V fs) (hi : i ≤ N) : FY fx fp (va_up fh t (i + 1)) lw lk (upd vl (5 * t + i) v) (upd vk (5 * t + i) (kdI y)) (i + 1) t m p (i + 1) (psh R i y) (va_up V (7 + i) v) fs := by
  rw [upd_up, upd_up]
  refine ⟨⟨h.1.1, h.1.2.1, fun k hk => ?_, fun j hj => ?_⟩, va_up_self _ _ _, FsB.low (t := t) (fun j hj => ⟨rfl, rfl, va_up_ne _ _ (by omega)⟩) (fun _ _ => ⟨rfl, rfl⟩) (fun j hj => ⟨va_up_ne _ _ (by omega), va_up_ne _ _ (by omega)⟩) h.2.2.1 (by rw [h.2.2.2]; exact Nat.le_refl _), h.2.2.2⟩
  · show lk (6 * t + k) = kdI (psh R i y k) ∧ (psh R i y k ≠ none → lw (6 * t + k) = va_up V (7 + i) v k)
    unfold psh
    rw [if_neg (by omega), if_neg (by omega), va_up_ne _ _ (by omega)]
    exact h.1.2.2.1 k hk
  · show va_up vk (5 * t + i) (kdI y) (5 * t + j) = kdI (psh R i y (7 + j)) ∧ va_up vl (5 * t + i) v (5 * t + j) = va_up V (7 + i) v (7 + j)
    unfold psh
    rw [if_neg (by omega)]
    by_cases e : j = i
    · rw [e, va_up_self, va_up_self, va_up_self, if_pos rfl]; exact ⟨rfl, rfl⟩
    · rw [va_up_ne _ _ (by omega), va_up_ne _ _ (by omega), va_up_ne _ _ (by omega), if_neg (by omega)]
      exact h.1.2.2.2 j (by omega)
theorem FY.putA {a : Int32} (h : FY fx fp fh lw lk vl vk N t m p i R V fs) (hi : i ≤ N) (ha : a = kdI y) : FY fx fp (va_up fh t (i + 1)) lw lk (upd vl (5 * t + i) v) (upd vk (5 * t + i) a) (i + 1) t m p (i + 1) (psh R i y) (va_up V (7 + i) v) fs := by
  subst ha
  exact h.put hi
theorem FY.loc (h : FY fx fp fh lw lk vl vk N t m p i R V fs) {k : Nat} (hk : k < 6) : FY fx fp fh (upd lw (6 * t + k) v) (upd lk (6 * t + k) (kdI y)) vl vk N t m p i (va_up R k y) (va_up V k v) fs := by
  rw [upd_up, upd_up]
  refine ⟨⟨h.1.1, h.1.2.1, fun k' hk' => ?_, fun j hj => ?_⟩, h.2.1, FsB.low (t := t) (fun j hj => ⟨rfl, rfl, rfl⟩) (fun j hj => ⟨va_up_ne _ _ (by omega), va_up_ne _ _ (by omega)⟩) (fun _ _ => ⟨rfl, rfl⟩) h.2.2.1 (by rw [h.2.2.2]; exact Nat.le_refl _), h.2.2.2⟩
  · show va_up lk (6 * t + k) (kdI y) (6 * t + k') = kdI (va_up R k y k') ∧ (va_up R k y k' ≠ none → va_up lw (6 * t + k) v (6 * t + k') = va_up V k v k')
    by_cases e : k' = k
    · rw [e, va_up_self, va_up_self, va_up_self, va_up_self]; exact ⟨rfl, fun _ => rfl⟩
    · rw [va_up_ne _ _ (by omega), va_up_ne _ _ e, va_up_ne _ _ (by omega), va_up_ne _ _ e]; exact h.1.2.2.1 k' hk'
  · show vk (5 * t + j) = kdI (va_up R k y (7 + j)) ∧ vl (5 * t + j) = va_up V k v (7 + j)
    rw [va_up_ne _ _ (by omega), va_up_ne _ _ (by omega)]; exact h.1.2.2.2 j hj
theorem FY.locA {k : Nat} {a : Int32} (h : FY fx fp fh lw lk vl vk N t m p i R V fs) (hk : k < 6) (ha : a = kdI y) : FY fx fp fh (upd lw (6 * t + k) v) (upd lk (6 * t + k) a) vl vk N t m p i (va_up R k y) (va_up V k v) fs := by
  subst ha
  exact h.loc hk
theorem kd_o {k : Nat} (hk : k ≠ 0) : nI 1 = kdI (some k) := by show _ = if k = 0 then nI 0 else nI 1; rw [if_neg hk]
end WNb
