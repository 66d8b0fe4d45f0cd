/-! what holds while a run goes on: numbers name what is made, FIELDS hold what they may -/
def gdv (H : Hp) (y : Option Nat) (v : Int32) : Prop := ∀ a, y = some a → a = 0 ∨ (a = 1 ∧ ∃ q, q < H.n ∧ v = nI q ∧ H.so q = none) ∨ (a = 2 ∧ v = -1) ∨ ∃ k q, a = 10 + k ∧ k < 6 ∧ q < H.n ∧ v = nI q ∧ H.so q = some k
def Hle (H H' : Hp) : Prop := H.n ≤ H'.n ∧ ∀ q, q < H.n → H'.so q = H.so q
/-- a row of height h holds numbers that name what is made -/
def lv (H : Hp) (R : Rw) (V : Nat → Int32) (h : Nat) : Prop := (∀ j, j < 7 + h → j ≠ 6 → gdv H (R j) (V j)) ∧ ∀ j, j < h → R (7 + j) ≠ none
def HI (tb : Nat → Bool) (pr : Nat → Option Nat) (ow fi ft : Nat → Nat) (H : Hp) : Prop := H.n ≤ 40 ∧ (∀ j, ob 16 (H.ty j)) ∧ (∀ j, H.sz j ≤ 18) ∧ ∀ q, q < H.n → (H.so q = none ∧ H.sz q ≤ 8) ∨ ∃ k, H.so q = some k ∧ k < 6 ∧ tb k = true ∧ H.sz q = fi k + ow k ∧ ∀ f, f < fi k + ow k → gdv H (H.ty (q * 18 + f)) (H.va (q * 18 + f)) ∧ part pr (H.ty (q * 18 + f)) (some (fty pr fi ft k f)) = true
section WIn
variable {tb : Nat → Bool} {pr : Nat → Option Nat} {ow fi ft : Nat → Nat} {hs : Nat → Bool} {sg : Int32 → Option Sg} {H H' H2 : Hp} {y : Option Nat} {v x : Int32} {R : Rw} {V : Nat → Int32} {h b i rs : Nat}
theorem gdv.tyv (g : gdv H y v) : tyv y := by
  intro a e
  rcases g a e with z | ⟨z, _⟩ | ⟨z, _⟩ | ⟨k, q, z, hk, _⟩ <;> omega
theorem gdv_n : gdv H none v := fun _ e => by cases e
theorem gdv_0 : gdv H (some 0) v := fun a e => by cases e; exact Or.inl rfl
theorem gdv_2 : gdv H (some 2) (-1) := fun a e => by cases e; exact Or.inr (Or.inr (Or.inl ⟨rfl, rfl⟩))
theorem gdv_r {q : Nat} (hq : q < H.n) (hs : H.so q = none) : gdv H (some 1) (nI q) := fun a e => by cases e; exact Or.inr (Or.inl ⟨rfl, q, hq, rfl, hs⟩)
theorem gdv_o {k q : Nat} (hk : k < 6) (hq : q < H.n) (hs : H.so q = some k) : gdv H (some (10 + k)) (nI q) := fun a e => by cases e; exact Or.inr (Or.inr (Or.inr ⟨k, q, rfl, hk, hq, rfl, hs⟩))
theorem Hle.refl : Hle H H := ⟨Nat.le_refl _, fun _ _ => rfl⟩
theorem gdv.mono (hl : Hle H H') (g : gdv H y v) : gdv H' y v := by
  intro a e
  rcases g a e with z | ⟨z, q, h1, h2, h3⟩ | z | ⟨k, q, z, hk, h1, h2, h3⟩
  · exact Or.inl z
  · exact Or.inr (Or.inl ⟨z, q, Nat.lt_of_lt_of_le h1 hl.1, h2, (hl.2 q h1).trans h3⟩)
  · exact Or.inr (Or.inr (Or.inl z))
  · exact Or.inr (Or.inr (Or.inr ⟨k, q, z, hk, Nat.lt_of_lt_of_le h1 hl.1, h2, (hl.2 q h1).trans h3⟩))
theorem gdv.oj (g : gdv H y v) (hy : isO y = true) : ojt H y v := by
  cases y with
  | none => cases hy
  | some a =>
    unfold isO at hy
    dsimp only at hy
    rw [Bool.or_eq_true, beq_iff_eq, decide_eq_true_eq] at hy
    rcases g a rfl with z | ⟨z, _⟩ | ⟨z, hv⟩ | ⟨k, q, z, hk, h1, h2, h3⟩
    · omega
    · omega
    · exact Or.inl ⟨by rw [z], hv⟩
    · exact Or.inr ⟨q, k, h1, hk, by rw [z], h2, h3⟩
theorem part_isO {n : Nat} (h : part pr y (some (10 + n)) = true) : isO y = true := by
  rcases part_cases h with e | ⟨e, _⟩ | ⟨a, _, e, _, ha, _⟩
  · rw [e]; unfold isO; simp
  · rw [e]; rfl
  · rw [e]; unfold isO; simp [ha]
theorem gdv.rw (g : gdv H y v) (hy : part pr y (some 1) = true) : rwt H y v := by
  rcases part_cases hy with e | ⟨e, _⟩ | ⟨a, c, e, ec, ha, hc, _⟩
  · rcases g 1 e with z | ⟨_, q, h1, h2, h3⟩ | ⟨z, _⟩ | ⟨k, q, z, _⟩
    · omega
    · exact Or.inr ⟨q, h1, e, h2, h3⟩
    · omega
    · omega
  · rcases g 2 e with z | ⟨z, _⟩ | ⟨_, hv⟩ | ⟨k, q, z, _⟩
    · omega
    · omega
    · exact Or.inl ⟨e, hv⟩
    · omega
  · cases ec; omega
theorem lv.low (g : lv H R V h) (hb : b ≤ h) : lv H R V b := ⟨fun j hj => g.1 j (by omega), fun j hj => g.2 j (by omega)⟩
theorem lv.mono (hl : Hle H H') (g : lv H R V h) : lv H' R V h := ⟨fun j hj hn => (g.1 j hj hn).mono hl, g.2⟩
theorem lv.six (g : lv H R V h) : lv H (va_up R 6 y) V h := by
  refine ⟨fun j hj hn => ?_, fun j hj => ?_⟩
  · rw [va_up_ne _ _ hn]; exact g.1 j hj hn
  · rw [va_up_ne _ _ (by omega)]; exact g.2 j hj
theorem lv.pu (g : lv H R V b) (hy : gdv H y v) (hn : y ≠ none) : lv H (psh R b y) (va_up V (7 + b) v) (b + 1) := by
  refine ⟨fun j hj h6 => ?_, fun j hj => ?_⟩
  · unfold psh
    rw [if_neg h6]
    by_cases e : j = 7 + b
    · rw [if_pos e, e, va_up_self]; exact hy
    · rw [if_neg e, va_up_ne _ _ e]; exact g.1 j (by omega) h6
  · unfold psh
    rw [if_neg (by omega)]
    by_cases e : 7 + j = 7 + b
    · rw [if_pos e]; exact hn
    · rw [if_neg e]; exact g.2 j (by omega)
theorem lv.loc (g : lv H R V b) (hi : i < 6) (hy : gdv H y v) : lv H (va_up R i y) (va_up V i v) b := by
  refine ⟨fun j hj h6 => ?_, fun j hj => ?_⟩
  · by_cases e : j = i
    · rw [e, va_up_self, va_up_self]; exact hy
    · rw [va_up_ne _ _ e, va_up_ne _ _ e]; exact g.1 j hj h6
  · rw [va_up_ne _ _ (by omega)]; exact g.2 j hj
theorem fi_le (hok : WoOk tb pr ow fi) : ∀ n j, j < n → j < 6 → fi j ≤ 3 * j := by
  intro n
  induction n with
  | zero => intro j hj; exact absurd hj (Nat.not_lt_zero _)
  | succ n ih =>
    intro j hj h6
    cases hp : pr j with
    | none => rw [hok.2.2.2.2.1 j h6 hp]; omega
    | some p =>
      obtain ⟨h1, h2, _⟩ := hok.2.2.2.1 j h6 p hp
      have := ih p (by omega) (by omega)
      have := hok.2.1 p (by omega)
      omega
theorem fc18 (hok : WoOk tb pr ow fi) {j : Nat} (h6 : j < 6) : fi j + ow j ≤ 18 := by
  have := fi_le hok 6 j h6 h6
  have := hok.2.1 j h6
  omega
theorem wr_out {α : Type} {f : Nat → α} {c n j : Nat} {g : Nat → α} (h : j < c) : wr f c n g j = f j := by unfold wr; rw [if_neg (by omega)]
theorem wr_in {α : Type} {f : Nat → α} {c n j : Nat} {g : Nat → α} (h : j < n) : wr f c n g (c + j) = g j := by unfold wr; rw [if_pos (by omega), Nat.add_sub_cancel_left]
theorem HI.mR (hok : WoOk tb pr ow fi) (hI : HI tb pr ow fi ft H) (h40 : H.n < 40) {n : Nat} (hn : n ≤ 8) : HI tb pr ow fi ft (mkR H n) ∧ Hle H (mkR H n) := by
  have hle : Hle H (mkR H n) := ⟨Nat.le_succ _, fun q hq => va_up_ne _ _ (by omega)⟩
  refine ⟨⟨h40, hI.2.1, fun j => ?_, fun q hq => ?_⟩, hle⟩
  · show va_up H.sz H.n n j ≤ 18
    by_cases e : j = H.n
    · rw [e, va_up_self]; omega
    · rw [va_up_ne _ _ e]; exact hI.2.2.1 j
  · have hq : q < H.n + 1 := hq
    show (va_up H.so H.n none q = none ∧ va_up H.sz H.n n q ≤ 8) ∨ ∃ k, va_up H.so H.n none q = some k ∧ k < 6 ∧ tb k = true ∧ va_up H.sz H.n n q = fi k + ow k ∧ ∀ f, f < fi k + ow k → gdv (mkR H n) (H.ty (q * 18 + f)) (wr H.va (H.n * 18) n (fun _ => 0) (q * 18 + f)) ∧ part pr (H.ty (q * 18 + f)) (some (fty pr fi ft k f)) = true
    by_cases e : q = H.n
    · rw [e, va_up_self, va_up_self]; exact Or.inl ⟨rfl, hn⟩
    · rw [va_up_ne _ _ e, va_up_ne _ _ e]
      rcases hI.2.2.2 q (by omega) with z | ⟨k, h1, h2, h3, h4, h5⟩
      · exact Or.inl z
      · refine Or.inr ⟨k, h1, h2, h3, h4, fun f hf => ?_⟩
        have := fc18 hok h2
        rw [wr_out (by omega)]
        exact ⟨(h5 f hf).1.mono hle, (h5 f hf).2⟩
theorem HI.mO (hok : WoOk tb pr ow fi) (hI : HI tb pr ow fi ft H) (h40 : H.n < 40) {n : Nat} (hn : n < 6) (ht : tb n = true) (hft : ∀ k f, tyv (some (fty pr fi ft k f))) : HI tb pr ow fi ft (mkO pr ow fi ft H n) ∧ Hle H (mkO pr ow fi ft H n) := by
  have hle : Hle H (mkO pr ow fi ft H n) := ⟨Nat.le_succ _, fun q hq => va_up_ne _ _ (by omega)⟩
  have h18 := fc18 hok hn
  refine ⟨⟨h40, fun j => ?_, fun j => ?_, fun q hq => ?_⟩, hle⟩
  · show ob 16 (wr H.ty (H.n * 18) (fi n + ow n) (fun f => if fty pr fi ft n f = 0 then some 0 else some 2) j)
    unfold wr
    split
    · dsimp only
      split <;> exact ob_s (by decide)
    · exact hI.2.1 j
  · show va_up H.sz H.n (fi n + ow n) j ≤ 18
    by_cases e : j = H.n
    · rw [e, va_up_self]; omega
    · rw [va_up_ne _ _ e]; exact hI.2.2.1 j
  · have hq : q < H.n + 1 := hq
    show (va_up H.so H.n (some n) q = none ∧ va_up H.sz H.n (fi n + ow n) q ≤ 8) ∨ ∃ k, va_up H.so H.n (some n) q = some k ∧ k < 6 ∧ tb k = true ∧ va_up H.sz H.n (fi n + ow n) q = fi k + ow k ∧ ∀ f, f < fi k + ow k → gdv (mkO pr ow fi ft H n) (wr H.ty (H.n * 18) (fi n + ow n) (fun f => if fty pr fi ft n f = 0 then some 0 else some 2) (q * 18 + f)) (wr H.va (H.n * 18) (fi n + ow n) (fun f => if fty pr fi ft n f = 0 then 0 else -1) (q * 18 + f)) ∧ part pr (wr H.ty (H.n * 18) (fi n + ow n) (fun f => if fty pr fi ft n f = 0 then some 0 else some 2) (q * 18 + f)) (some (fty pr fi ft k f)) = true
    by_cases e : q = H.n
    · rw [e, va_up_self, va_up_self]
      refine Or.inr ⟨n, rfl, hn, ht, rfl, fun f hf => ?_⟩
      rw [wr_in hf, wr_in hf]
      by_cases z : fty pr fi ft n f = 0
      · rw [if_pos z, if_pos z, z]; exact ⟨gdv_0, part_refl⟩
      · rw [if_neg z, if_neg z]
        refine ⟨gdv_2, ?_⟩
        have := hft n f _ rfl
        unfold part
        split
        · rfl
        · next q => dsimp only; rw [if_pos rfl, Bool.or_eq_true, decide_eq_true_eq, decide_eq_true_eq]; have : fty pr fi ft n f ≠ 2 := fun e => q (by rw [e]); omega
    · rw [va_up_ne _ _ e, va_up_ne _ _ e]
      rcases hI.2.2.2 q (by omega) with z | ⟨k, h1, h2, h3, h4, h5⟩
      · exact Or.inl z
      · refine Or.inr ⟨k, h1, h2, h3, h4, fun f hf => ?_⟩
        have := fc18 hok h2
        rw [wr_out (by omega), wr_out (by omega)]
        exact ⟨(h5 f hf).1.mono hle, (h5 f hf).2⟩
theorem HI.fset (hok : WoOk tb pr ow fi) (hI : HI tb pr ow fi ft H) {q k c f : Nat} (hq : q < H.n) (hs : H.so q = some k) (hk : k < 6) (ha : Anc pr c k) (hf : f < fi c + ow c) (hg : gdv H y v) (hp : part pr y (some (fty pr fi ft c f)) = true) : HI tb pr ow fi ft ⟨H.n, H.sz, va_up H.ty (q * 18 + f) y, va_up H.va (q * 18 + f) v, H.so⟩ := by
  have hfc := anc_fc (ft := ft) hok ha hk
  have h18 := fc18 hok hk
  refine ⟨hI.1, obU_up hI.2.1 hg.tyv.ob, hI.2.2.1, fun q' hq' => ?_⟩
  rcases hI.2.2.2 q' hq' with z | ⟨k', h1, h2, h3, h4, h5⟩
  · exact Or.inl z
  · refine Or.inr ⟨k', h1, h2, h3, h4, fun f' hf' => ?_⟩
    have := fc18 hok h2
    show gdv H (va_up H.ty (q * 18 + f) y (q' * 18 + f')) (va_up H.va (q * 18 + f) v (q' * 18 + f')) ∧ part pr (va_up H.ty (q * 18 + f) y (q' * 18 + f')) (some (fty pr fi ft k' f')) = true
    by_cases e : q' * 18 + f' = q * 18 + f
    · have e1 : q' = q := by omega
      have e2 : f' = f := by omega
      subst e1 e2
      rw [hs] at h1
      cases h1
      rw [va_up_self, va_up_self, hfc.2 f' hf]
      exact ⟨hg, hp⟩
    · rw [va_up_ne _ _ e, va_up_ne _ _ e]; exact h5 f' hf'
theorem HI.rset (hok : WoOk tb pr ow fi) (hI : HI tb pr ow fi ft H) {q i : Nat} (hs : H.so q = none) (hi : i < 18) : HI tb pr ow fi ft ⟨H.n, H.sz, H.ty, va_up H.va (q * 18 + i) v, H.so⟩ := by
  refine ⟨hI.1, hI.2.1, hI.2.2.1, fun q' hq' => ?_⟩
  rcases hI.2.2.2 q' hq' with z | ⟨k', h1, h2, h3, h4, h5⟩
  · exact Or.inl z
  · refine Or.inr ⟨k', h1, h2, h3, h4, fun f' hf' => ?_⟩
    have := fc18 hok h2
    have : q' ≠ q := fun e => by rw [e, hs] at h1; cases h1
    show gdv H (H.ty (q' * 18 + f')) (va_up H.va (q * 18 + i) v (q' * 18 + f')) ∧ part pr (H.ty (q' * 18 + f')) (some (fty pr fi ft k' f')) = true
    rw [va_up_ne _ _ (by omega)]
    exact h5 f' hf'
end WIn
