/-! words of VERIFYING: rows stay rows; a look at an INSTRUCTION; all looks -/
theorem rv_low {g : Rw} {h n : Nat} (hg : rv g h) (hn : n ≤ h) : rv (low g h n) (h - n) := by
  obtain ⟨h1, h2, h3, h4, h5⟩ := hg
  refine ⟨rfl, by omega, fun j hj => ?_, fun j hj => ?_, fun j hj h6 => ?_⟩
  · unfold low
    rw [if_neg hj]
    split
    · intro t ht; cases ht
    · exact h3 j hj
  · unfold low
    rw [if_neg (by omega), if_neg (by omega)]
    exact h4 j (by omega)
  · unfold low
    rw [if_neg (by omega)]
    split
    · rfl
    · exact h5 j (by omega) h6
theorem rv_psh {g : Rw} {h : Nat} {t : Option Nat} (hg : rv g h) (hh : h < 5) (ht : tyv t) (hn : t ≠ none) : rv (psh g h t) (h + 1) := by
  obtain ⟨h1, h2, h3, h4, h5⟩ := hg
  refine ⟨rfl, by omega, fun j hj => ?_, fun j hj => ?_, fun j hj h6 => ?_⟩
  · unfold psh
    rw [if_neg hj]
    split
    · exact ht
    · exact h3 j hj
  · unfold psh
    rw [if_neg (by omega)]
    split
    · exact hn
    · exact h4 j (by omega)
  · unfold psh
    rw [if_neg (by omega), if_neg (by omega)]
    exact h5 j (by omega) h6
theorem rv_up {g : Rw} {h n : Nat} {t : Option Nat} (hg : rv g h) (hn : n < 6) (ht : tyv t) : rv (va_up g n t) h := by
  obtain ⟨h1, h2, h3, h4, h5⟩ := hg
  refine ⟨(va_up_ne _ _ (by omega)).trans h1, h2, fun j hj => ?_, fun j hj => ?_, fun j hj h6 => ?_⟩
  · by_cases e : j = n
    · rw [e, va_up_self]; exact ht
    · rw [va_up_ne _ _ e]; exact h3 j hj
  · rw [va_up_ne _ _ (by omega)]; exact h4 j hj
  · rw [va_up_ne _ _ (by omega)]; exact h5 j hj h6
theorem rv_jrow {pr : Nat → Option Nat} (hok : ∀ j, ob 6 (pr j)) {r g : Rw} {h : Nat} (hr : rv r h) (hg : rv g h) (hb : mbad pr r g h = false) : rv (jrow pr r g h) h := by
  refine ⟨rfl, hr.2.1, fun j hj => ?_, fun j hj => ?_, fun j hj h6 => ?_⟩
  · unfold jrow
    rw [if_neg hj]
    split
    · exact join_tyv hok (hr.2.2.1 j hj) (hg.2.2.1 j hj)
    · intro t ht; cases ht
  · unfold jrow
    rw [if_neg (by omega), if_pos (by omega)]
    have := (anyC_f h 0).mp hb j (by omega) (by omega)
    intro q
    rw [q] at this
    cases this
  · unfold jrow
    rw [if_neg (by omega), if_neg (by omega)]
theorem meetA_AV {pr : Nat → Option Nat} (hok : ∀ j, ob 6 (pr j)) {s s' : MF} {pc h : Nat} {g : Rw} (hs : AV s.1) (hg : rv g h) (e : meetA pr s pc g h = some s') : AV s'.1 := by
  unfold meetA at e
  cases ha : s.1 pc with
  | none =>
    rw [ha] at e
    cases e
    intro q r hq
    dsimp only at hq
    by_cases z : q = pc
    · subst z
      rw [va_up_self] at hq
      cases hq
      exact ⟨h, hg⟩
    · rw [va_up_ne _ _ z] at hq
      exact hs q r hq
  | some r =>
    rw [ha] at e
    simp only at e
    by_cases z6 : r 6 = some h
    · rw [if_pos z6] at e
      cases hb : mbad pr r g h with
      | true => rw [hb] at e; cases e
      | false =>
        rw [hb] at e
        cases e
        obtain ⟨h', hr⟩ := hs pc r ha
        have : h' = h := by have := hr.1; rw [z6] at this; cases this; rfl
        subst this
        intro q r2 hq
        dsimp only at hq
        by_cases z : q = pc
        · subst z
          rw [va_up_self] at hq
          cases hq
          exact ⟨_, rv_jrow hok hr hg hb⟩
        · rw [va_up_ne _ _ z] at hq
          exact hs q r2 hq
    · rw [if_neg z6] at e; cases e
/-- what a CATCHER's TARGET gets -/
def ctr (bf : Rw) (h k : Nat) : Rw := if k = 6 then low bf h h else psh (low bf h h) 0 (some (10 + k))
def ctrh (k : Nat) : Nat := if k = 6 then 0 else 1
theorem rv_ctr {bf : Rw} {h k : Nat} (hb : rv bf h) (hk : k < 7) : rv (ctr bf h k) (ctrh k) := by
  have h0 : rv (low bf h h) 0 := by have := rv_low hb (Nat.le_refl h); rwa [Nat.sub_self] at this
  unfold ctr ctrh
  by_cases e : k = 6
  · rw [if_pos e, if_pos e]; exact h0
  · rw [if_neg e, if_neg e]
    exact rv_psh h0 (by decide) (fun t ht => by cases ht; omega) (by simp)
def catA (pr : Nat → Option Nat) (fr tt tg kd : Nat → Nat) (bf : Rw) (h pc : Nat) : Nat → Nat → MF → Bool × MF
  | 0, _, s => (true, s)
  | n + 1, i, s => if aro fr tt i pc = true then (match meetA pr s (tg i) (ctr bf h (kd i)) (ctrh (kd i)) with | none => (false, s) | some s' => catA pr fr tt tg kd bf h pc n (i + 1) s') else catA pr fr tt tg kd bf h pc n (i + 1) s
def mt2 (s : MF) (q : Option MF) : Bool × MF := match q with
  | none => (false, s)
  | some s' => (true, s')
def nxtA (pr : Nat → Option Nat) (o : Nat) (x : Int32) (pc : Nat) (g : Rw) (h : Nat) (s : MF) : Bool × MF :=
  let s1 := if jmp o = true then mt2 s (meetA pr s x.toNatClampNeg g h) else (true, s)
  if s1.1 = true then (if fal o = true then mt2 s1.2 (meetA pr s1.2 (pc + 1) g h) else (true, s1.2)) else (false, s1.2)
/-- all that a METHOD's verifying needs: the world, and the METHOD -/
abbrev VD : Type := (Nat → Bool) × (Nat → Option Nat) × (Nat → Nat) × (Nat → Nat) × (Nat → Nat) × (Int32 → Option Sg) × (Nat → Nat) × (Nat → Int32) × Nat × (Nat → Nat) × (Nat → Nat) × (Nat → Nat) × (Nat → Nat) × Nat × Nat
def lookA (tb : Nat → Bool) (pr : Nat → Option Nat) (ow fi ft : Nat → Nat) (sg : Int32 → Option Sg) (op : Nat → Nat) (ag : Nat → Int32) (sz : Nat) (fr tt tg kd : Nat → Nat) (nc rs pc : Nat) (r : Rw) (h : Nat) (s : MF) : Nat × MF :=
  let f := flt tb pr ow fi ft sg (op pc) (ag pc) sz fr tt tg kd nc rs pc r h
  if f = 0 then
    (let c := catA pr fr tt tg kd r h pc nc 0 s
     if c.1 = true then
       (let d := nxtA pr (op pc) (ag pc) pc (actR pr fi ft sg r (op pc) (ag pc) r h) (h - tks sg (op pc) (ag pc) + pts (op pc)) c.2
        if d.1 = true then (0, d.2) else (3, d.2))
     else (3, c.2))
  else (f, s)
def hO (r : Rw) : Nat := match r 6 with
  | none => 0
  | some h => h
def verA (tb : Nat → Bool) (pr : Nat → Option Nat) (ow fi ft : Nat → Nat) (sg : Int32 → Option Sg) (op : Nat → Nat) (ag : Nat → Int32) (sz : Nat) (fr tt tg kd : Nat → Nat) (nc rs : Nat) : Nat → MF → Option (Nat × Nat) × MF
  | 0, s => (none, s)
  | n + 1, s => match lfr s.2 24 0 with
    | none => (none, s)
    | some pc => match s.1 pc with
      | none => (none, s)
      | some r =>
        let z := lookA tb pr ow fi ft sg op ag sz fr tt tg kd nc rs pc r (hO r) (s.1, va_up s.2 pc false)
        if z.1 = 0 then verA tb pr ow fi ft sg op ag sz fr tt tg kd nc rs n z.2 else (some (pc, z.1), z.2)
def gok (g : Rw) : Prop := ∀ j, j ≠ 6 → tyv (g j)
theorem rv.g {r : Rw} {h : Nat} (hr : rv r h) : gok r := hr.2.2.1
theorem gok_cpy {f g : Rw} (hf : gok f) (hg : gok g) : gok (va_cpy f g 0 0 12) := by
  intro j hj
  unfold va_cpy
  split
  · rw [show 0 + (j - 0) = j by omega]; exact hf j hj
  · exact hg j hj
theorem rv_cpy {f g : Rw} {h : Nat} (hf : rv f h) (hg : gok g) : rv (va_cpy f g 0 0 12) h := by
  obtain ⟨h1, h2, h3, h4, h5⟩ := hf
  have e : ∀ j, j < 12 → va_cpy f g 0 0 12 j = f j := fun j hj => by unfold va_cpy; rw [if_pos (by omega)]; congr 1; omega
  exact ⟨(e 6 (by decide)).trans h1, h2, gok_cpy h3 hg, fun j hj => by rw [e _ (by omega)]; exact h4 j hj, fun j hj h6 => by rw [e _ (by omega)]; exact h5 j hj h6⟩
/-- rows that agree at the twelve places -/
def req (f g : Rw) : Prop := ∀ j, j < 12 → f j = g j
theorem low_e {f g : Rw} {h n : Nat} (h0 : req f g) : req (low f h n) (low g h n) := by
  intro j hj
  unfold low
  split
  · rfl
  · split
    · rfl
    · exact h0 j hj
theorem psh_e2 {f g : Rw} {h : Nat} {t : Option Nat} (h0 : req f g) : req (psh f h t) (psh g h t) := by
  intro j hj
  unfold psh
  split
  · rfl
  · split
    · rfl
    · exact h0 j hj
theorem up_e {f g : Rw} {n : Nat} {t : Option Nat} (h0 : req f g) : req (va_up f n t) (va_up g n t) := by
  intro j hj
  unfold va_up
  split
  · rfl
  · exact h0 j hj
theorem req_cpy {f g : Rw} : req (va_cpy f g 0 0 12) f := fun j hj => by unfold va_cpy; rw [if_pos (by omega)]; congr 1; omega
theorem anyC_e {p q : Nat → Bool} : ∀ n i, (∀ j, i ≤ j → j < i + n → p j = q j) → anyC p n i = anyC q n i := by
  intro n
  induction n with
  | zero => intro i _; rfl
  | succ n ih =>
    intro i h
    simp only [anyC]
    rw [h i (by omega) (by omega), ih (i + 1) (fun j h1 h2 => h j (by omega) (by omega))]
theorem mbad_e {pr : Nat → Option Nat} {r f g : Rw} {h : Nat} (hh : h ≤ 5) (h0 : req f g) : mbad pr r f h = mbad pr r g h := by
  unfold mbad
  exact anyC_e _ _ (fun j _ hj => by rw [h0 (7 + j) (by omega)])
theorem mch_e {pr : Nat → Option Nat} {r f g : Rw} {h : Nat} (hh : h ≤ 5) (h0 : req f g) : mch pr r f h = mch pr r g h := by
  unfold mch
  exact anyC_e _ _ (fun j _ hj => by rw [h0 j (by omega)])
theorem jrow_e {pr : Nat → Option Nat} {r f g : Rw} {h : Nat} (h0 : req f g) : req (jrow pr r f h) (jrow pr r g h) := by
  intro j hj
  unfold jrow
  rw [h0 j hj]
theorem MpC.e {mp : Nat → Int32} {A : Nat → Option Rw} {pc : Nat} {f g : Rw} (h0 : req f g) (h : MpC mp (va_up A pc (some f))) : MpC mp (va_up A pc (some g)) := by
  intro q hq
  have := h q hq
  by_cases e : q = pc
  · subst e
    rw [va_up_self] at this ⊢
    intro i hi
    rw [← h0 i hi]
    exact this i hi
  · rw [va_up_ne _ _ e] at this ⊢
    exact this
theorem meetA_e {pr : Nat → Option Nat} {s : MF} {pc h : Nat} {f g : Rw} (hh : h ≤ 5) (h0 : req f g) : (meetA pr s pc f h = none → meetA pr s pc g h = none) ∧ ∀ s1, meetA pr s pc f h = some s1 → ∃ s2, meetA pr s pc g h = some s2 ∧ s2.2 = s1.2 ∧ ∀ mp, MpC mp s1.1 → MpC mp s2.1 := by
  unfold meetA
  cases ha : s.1 pc with
  | none =>
    simp only
    exact ⟨fun q => (by cases q), fun s1 q => by cases q; exact ⟨_, rfl, rfl, fun mp hm => MpC.e h0 hm⟩⟩
  | some r =>
    simp only
    by_cases z6 : r 6 = some h
    · rw [if_pos z6, if_pos z6, mbad_e hh h0, mch_e hh h0]
      cases hb : mbad pr r g h with
      | true => exact ⟨fun _ => rfl, fun s1 q => by cases q⟩
      | false => exact ⟨fun q => (by cases q), fun s1 q => by cases q; exact ⟨_, rfl, rfl, fun mp hm => MpC.e (jrow_e h0) hm⟩⟩
    · rw [if_neg z6, if_neg z6]
      exact ⟨fun _ => rfl, fun s1 q => by cases q⟩
