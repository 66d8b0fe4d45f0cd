/-! words of VERIFYING: one METHOD -/
def tyAll (tb : Nat → Bool) (pr : Nat → Option Nat) (ow fi ft : Nat → Nat) (k : Nat) (q1 q2 : Option Nat) (rs : Nat) : Bool := !anyC (fun f => !tyOk tb (some (fty pr fi ft k f))) (fi k + ow k) 0 && (tyOk tb q1 && (tyOk tb q2 && tyOk tb (some rs)))
def strt (k : Nat) (q1 q2 : Option Nat) : Rw := fun j => if j = 0 then some (10 + k) else if j = 1 then q1 else if j = 2 then q2 else if j = 6 then some 0 else none
theorem rv_strt {k : Nat} {q1 q2 : Option Nat} (hk : k < 6) (h1 : tyv q1) (h2 : tyv q2) : rv (strt k q1 q2) 0 := by
  refine ⟨rfl, by decide, fun j hj => ?_, fun j hj => absurd hj (Nat.not_lt_zero _), fun j _ hj => ?_⟩
  · unfold strt
    split
    · intro t ht; cases ht; omega
    · split
      · exact h1
      · split
        · exact h2
        · first | (rw [if_neg hj]; intro t ht; cases ht) | (intro t ht; cases ht)
  · unfold strt
    rw [if_neg (by omega), if_neg (by omega), if_neg (by omega), if_neg (by omega)]
def stL (g : Rw) (i : Nat) : Rw := fun j => if j < i then none else g j
theorem stL_s {g : Rw} {i : Nat} : va_up (stL g i) i none = stL g (i + 1) := by
  funext j
  unfold stL va_up
  by_cases e : j = i
  · rw [if_pos e, if_pos (by omega)]
  · rw [if_neg e]
    show (if j < i then none else g j) = _
    by_cases e2 : j < i
    · rw [if_pos e2, if_pos (by omega)]
    · rw [if_neg e2, if_neg (by omega)]
theorem stL_0 {g : Rw} : stL g 0 = g := by
  funext j
  unfold stL
  rw [if_neg (Nat.not_lt_zero _)]
def strC (g : Rw) (k : Nat) (q1 q2 : Option Nat) : Rw := va_up (va_up (va_up (va_up (stL g 12) 0 (some (10 + k))) 1 q1) 2 q2) 6 (some 0)
theorem strC_e {g : Rw} {k : Nat} {q1 q2 : Option Nat} : req (strC g k q1 q2) (strt k q1 q2) := by
  intro j hj
  unfold strC strt
  by_cases e6 : j = 6
  · subst e6; rfl
  · rw [va_up_ne _ _ e6]
    by_cases e2 : j = 2
    · subst e2; rfl
    · rw [va_up_ne _ _ e2]
      by_cases e1 : j = 1
      · subst e1; rfl
      · rw [va_up_ne _ _ e1]
        by_cases e0 : j = 0
        · subst e0; rfl
        · rw [va_up_ne _ _ e0, if_neg e0, if_neg e1, if_neg e2, if_neg e6]
          unfold stL
          rw [if_pos hj]
theorem rv_strC {g : Rw} {k : Nat} {q1 q2 : Option Nat} (hg : gok g) (hk : k < 6) (h1 : tyv q1) (h2 : tyv q2) : rv (strC g k q1 q2) 0 := by
  have hs := rv_strt hk h1 h2
  have he := strC_e (g := g) (k := k) (q1 := q1) (q2 := q2)
  refine ⟨rfl, by decide, fun j hj => ?_, fun j hj => absurd hj (Nat.not_lt_zero _), fun j h0 hj => by rw [he _ (by omega)]; exact hs.2.2.2.2 j h0 hj⟩
  by_cases e : j < 12
  · rw [he j e]; exact hs.2.2.1 j hj
  · unfold strC
    rw [va_up_ne _ _ (by omega), va_up_ne _ _ (by omega), va_up_ne _ _ (by omega), va_up_ne _ _ (by omega)]
    unfold stL
    rw [if_neg e]
    exact hg j hj
theorem cpy_mp {mp : Nat → Int32} {r bf : Rw} {pc : Nat} (h : ∀ i, i < 12 → mp (pc * 12 + i) = en (r i)) : va_cpy mp (fun j => en (bf j)) (pc * 12) 0 12 = fun j => en (va_cpy r bf 0 0 12 j) := by
  funext j
  unfold va_cpy
  by_cases e : 0 ≤ j ∧ j < 0 + 12
  · rw [if_pos e, if_pos e, h _ (by omega)]
    congr 2
    omega
  · rw [if_neg e, if_neg e]
theorem lfr_of {F : Nat → Bool} : ∀ n i p, lfr F n i = some p → i ≤ p ∧ p < i + n ∧ F p = true := by
  intro n
  induction n with
  | zero => intro i p h; cases h
  | succ n ih =>
    intro i p h
    simp only [lfr] at h
    by_cases e : F i = true
    · rw [if_pos e] at h; cases h; exact ⟨by omega, by omega, e⟩
    · rw [if_neg e] at h
      obtain ⟨a, b, c⟩ := ih _ _ h
      exact ⟨by omega, by omega, c⟩
theorem lfr_e {F F' : Nat → Bool} : ∀ n i, (∀ j, i ≤ j → j < i + n → F j = F' j) → lfr F n i = lfr F' n i := by
  intro n
  induction n with
  | zero => intro i _; rfl
  | succ n ih =>
    intro i h
    simp only [lfr]
    rw [h i (by omega) (by omega), ih (i + 1) (fun j h1 h2 => h j (by omega) (by omega))]
/-- where an INSTRUCTION is new it has a MAP -/
def SV (s : MF) : Prop := AV s.1 ∧ ∀ pc, s.2 pc = true → s.1 pc ≠ none
theorem SV.off {s : MF} (h : SV s) (pc : Nat) : SV (s.1, va_up s.2 pc false) := by
  refine ⟨h.1, fun q hq => ?_⟩
  dsimp only at hq
  by_cases e : q = pc
  · rw [e, va_up_self] at hq; cases hq
  · rw [va_up_ne _ _ e] at hq; exact h.2 q hq
section WSV
variable {tb : Nat → Bool} {pr : Nat → Option Nat} {ow fi ft : Nat → Nat} {sg : Int32 → Option Sg} {op : Nat → Nat} {ag : Nat → Int32} {sz nc rs pc h n : Nat} {fr tt tg kd : Nat → Nat} {r g bf : Rw} {s s1 s2 : MF}
theorem meetA_SV (hok : ∀ j, ob 6 (pr j)) (hs : SV s) (hg : rv g h) (e : meetA pr s pc g h = some s1) : SV s1 := by
  refine ⟨meetA_AV hok hs.1 hg e, fun q hq => ?_⟩
  have hne : ∀ (f : Rw) (b : Nat → Bool), s1 = (va_up s.1 pc (some f), b) → (b = va_up s.2 pc true ∨ b = s.2) → s1.1 q ≠ none := by
    intro f b e1 e2
    rw [e1]
    dsimp only
    by_cases z : q = pc
    · rw [z, va_up_self]; simp
    · rw [va_up_ne _ _ z]
      apply hs.2 q
      rw [e1] at hq
      rcases e2 with e2 | e2
      · rw [e2] at hq
        dsimp only at hq
        rwa [va_up_ne _ _ z] at hq
      · rw [e2] at hq; exact hq
  unfold meetA at e
  cases ha : s.1 pc with
  | none => rw [ha] at e; cases e; exact hne _ _ rfl (Or.inl rfl)
  | some r =>
    rw [ha] at e
    simp only at e
    by_cases z6 : r 6 = some h
    · rw [if_pos z6] at e
      cases hb : mbad pr r g h with
      | true => rw [hb] at e; cases e
      | false =>
        rw [hb] at e
        cases e
        refine hne _ _ rfl ?_
        split
        · exact Or.inl rfl
        · exact Or.inr rfl
    · rw [if_neg z6] at e; cases e
theorem catA_SV (hok : ∀ j, ob 6 (pr j)) (hb : rv bf h) (hk : ∀ i, i < 2 → kd i < 7) : ∀ n i (s : MF), i + n ≤ 2 → SV s → SV (catA pr fr tt tg kd bf h pc n i s).2 := by
  intro n
  induction n with
  | zero => intro i s _ hs; exact hs
  | succ n ih =>
    intro i s hi hs
    simp only [catA]
    split
    · cases e : meetA pr s (tg i) (ctr bf h (kd i)) (ctrh (kd i)) with
      | none => exact hs
      | some s' => exact ih _ _ (by omega) (meetA_SV hok hs (rv_ctr hb (hk i (by omega))) e)
    · exact ih _ _ (by omega) hs
theorem nxtA_SV (hok : ∀ j, ob 6 (pr j)) {o : Nat} {x : Int32} (hg : rv g h) (hs : SV s) : SV (nxtA pr o x pc g h s).2 := by
  have hm : ∀ s (q : Nat), SV s → SV (mt2 s (meetA pr s q g h)).2 := by
    intro s q hs
    cases e : meetA pr s q g h with
    | none => exact hs
    | some s' => exact meetA_SV hok hs hg e
  have h1 : SV (if jmp o = true then mt2 s (meetA pr s x.toNatClampNeg g h) else (true, s)).2 := by
    split
    · exact hm _ _ hs
    · exact hs
  unfold nxtA
  dsimp only
  generalize (if jmp o = true then mt2 s (meetA pr s x.toNatClampNeg g h) else (true, s)) = s1 at h1 ⊢
  split
  · split
    · exact hm _ _ h1
    · exact h1
  · exact h1
theorem lk_f {f : Nat} (e : flt tb pr ow fi ft sg (op pc) (ag pc) sz fr tt tg kd nc rs pc r h = f) (hf : f ≠ 0) : lookA tb pr ow fi ft sg op ag sz fr tt tg kd nc rs pc r h s = (f, s) := by
  unfold lookA
  dsimp only
  rw [e, if_neg hf]
theorem lk_c (e : flt tb pr ow fi ft sg (op pc) (ag pc) sz fr tt tg kd nc rs pc r h = 0) (e1 : catA pr fr tt tg kd r h pc nc 0 s = (false, s1)) : lookA tb pr ow fi ft sg op ag sz fr tt tg kd nc rs pc r h s = (3, s1) := by
  unfold lookA
  dsimp only
  rw [e, if_pos rfl, e1]
  rfl
theorem lk_n (e : flt tb pr ow fi ft sg (op pc) (ag pc) sz fr tt tg kd nc rs pc r h = 0) (e1 : catA pr fr tt tg kd r h pc nc 0 s = (true, s1)) (e2 : nxtA pr (op pc) (ag pc) pc (actR pr fi ft sg r (op pc) (ag pc) r h) (h - tks sg (op pc) (ag pc) + pts (op pc)) s1 = (false, s2)) : lookA tb pr ow fi ft sg op ag sz fr tt tg kd nc rs pc r h s = (3, s2) := by
  unfold lookA
  dsimp only
  rw [e, if_pos rfl, e1]
  dsimp only
  rw [if_pos rfl, e2]
  rfl
theorem lk_0 (e : flt tb pr ow fi ft sg (op pc) (ag pc) sz fr tt tg kd nc rs pc r h = 0) (e1 : catA pr fr tt tg kd r h pc nc 0 s = (true, s1)) (e2 : nxtA pr (op pc) (ag pc) pc (actR pr fi ft sg r (op pc) (ag pc) r h) (h - tks sg (op pc) (ag pc) + pts (op pc)) s1 = (true, s2)) : lookA tb pr ow fi ft sg op ag sz fr tt tg kd nc rs pc r h s = (0, s2) := by
  unfold lookA
  dsimp only
  rw [e, if_pos rfl, e1]
  dsimp only
  rw [if_pos rfl, e2]
  rfl
theorem hO_r (hr : rv r h) : hO r = h := by unfold hO; rw [hr.1]
theorem ver_n (e : lfr s.2 24 0 = none) : verA tb pr ow fi ft sg op ag sz fr tt tg kd nc rs (n + 1) s = (none, s) := by
  simp only [verA]
  rw [e]
theorem ver_s (e : lfr s.2 24 0 = some pc) (e1 : s.1 pc = some r) (hr : rv r h) (e2 : lookA tb pr ow fi ft sg op ag sz fr tt tg kd nc rs pc r h (s.1, va_up s.2 pc false) = (0, s1)) : verA tb pr ow fi ft sg op ag sz fr tt tg kd nc rs (n + 1) s = verA tb pr ow fi ft sg op ag sz fr tt tg kd nc rs n s1 := by
  simp only [verA]
  rw [e]
  dsimp only
  rw [e1]
  dsimp only
  rw [hO_r hr, e2]
  rfl
theorem ver_f {f : Nat} (e : lfr s.2 24 0 = some pc) (e1 : s.1 pc = some r) (hr : rv r h) (e2 : lookA tb pr ow fi ft sg op ag sz fr tt tg kd nc rs pc r h (s.1, va_up s.2 pc false) = (f, s1)) (hf : f ≠ 0) : verA tb pr ow fi ft sg op ag sz fr tt tg kd nc rs (n + 1) s = (some (pc, f), s1) := by
  simp only [verA]
  rw [e]
  dsimp only
  rw [e1]
  dsimp only
  rw [hO_r hr, e2]
  dsimp only
  rw [if_neg hf]
theorem flt_le {o : Nat} {x : Int32} : flt tb pr ow fi ft sg o x sz fr tt tg kd nc rs pc r h ≤ 5 := by
  unfold flt
  split
  · omega
  · split
    · omega
    · split
      · omega
      · split <;> omega
end WSV
def vmA (tb : Nat → Bool) (pr : Nat → Option Nat) (ow fi ft : Nat → Nat) (sg : Int32 → Option Sg) (op : Nat → Nat) (ag : Nat → Int32) (sz : Nat) (fr tt tg kd : Nat → Nat) (nc rs k : Nat) (q1 q2 : Option Nat) (s : MF) : Option (Nat × Nat) × MF :=
  if tyAll tb pr ow fi ft k q1 q2 rs = true then verA tb pr ow fi ft sg op ag sz fr tt tg kd nc rs 1000000 (va_up s.1 0 (some (strt k q1 q2)), va_up s.2 0 true) else (some (0, 5), s)
theorem SV.st {A : Nat → Option Rw} {F : Nat → Bool} {g : Rw} (h : AV (va_up A 0 (some g))) (h2 : ∀ pc, F pc = true → A pc ≠ none) : SV (va_up A 0 (some g), va_up F 0 true) := by
  refine ⟨h, fun q hq => ?_⟩
  dsimp only at hq ⊢
  by_cases e : q = 0
  · rw [e, va_up_self]; simp
  · rw [va_up_ne _ _ e] at hq ⊢; exact h2 q hq
