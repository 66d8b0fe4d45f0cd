/-! verifying reads no more than 24 INSTRUCTIONS and two CATCHERS -/
section WCg
variable {tb : Nat → Bool} {pr : Nat → Option Nat} {ow fi ft : Nat → Nat} {sg : Int32 → Option Sg} {op op' : Nat → Nat} {ag ag' : Nat → Int32} {sz nc rs pc h n : Nat} {fr tt tg kd fr' tt' tg' kd' : Nat → Nat} {r g bf : Rw} {s s1 s2 : MF}
/-- two CATCHERS are the same -/
def ctE (fr tt tg kd fr' tt' tg' kd' : Nat → Nat) : Prop := ∀ i, i < 2 → fr i = fr' i ∧ tt i = tt' i ∧ tg i = tg' i ∧ kd i = kd' i
theorem aro_g (hc : ctE fr tt tg kd fr' tt' tg' kd') {i : Nat} (hi : i < 2) : aro fr tt i pc = aro fr' tt' i pc := by
  unfold aro
  rw [(hc i hi).1, (hc i hi).2.1]
theorem flt_g {o : Nat} {x : Int32} (hc : ctE fr tt tg kd fr' tt' tg' kd') (hnc : nc ≤ 2) : flt tb pr ow fi ft sg o x sz fr tt tg kd nc rs pc r h = flt tb pr ow fi ft sg o x sz fr' tt' tg' kd' nc rs pc r h := by
  have h4 : f4 o x sz fr tt tg nc pc = f4 o x sz fr' tt' tg' nc pc := by
    unfold f4
    rw [anyC_e nc 0 (q := fun i => aro fr' tt' i pc && decide (sz ≤ tg' i)) (fun j _ hj => by rw [aro_g hc (by omega), (hc j (by omega)).2.2.1])]
  have h5 : f5 tb ow fi sg o x fr tt kd nc pc = f5 tb ow fi sg o x fr' tt' kd' nc pc := by
    unfold f5
    rw [anyC_e nc 0 (q := f5c tb fr' tt' kd' pc) (fun j _ hj => by unfold f5c; rw [aro_g hc (by omega), (hc j (by omega)).2.2.2])]
  unfold flt
  rw [h4, h5]
theorem catA_g (hc : ctE fr tt tg kd fr' tt' tg' kd') : ∀ n i (s : MF), i + n ≤ 2 → catA pr fr tt tg kd bf h pc n i s = catA pr fr' tt' tg' kd' bf h pc n i s := by
  intro n
  induction n with
  | zero => intro i s _; rfl
  | succ n ih =>
    intro i s hi
    rw [catA, catA, aro_g hc (by omega), (hc i (by omega)).2.2.1, (hc i (by omega)).2.2.2]
    split
    · split
      · rfl
      · exact ih _ _ (by omega)
    · exact ih _ _ (by omega)
theorem lookA_g (hop : op pc = op' pc) (hag : ag pc = ag' pc) (hc : ctE fr tt tg kd fr' tt' tg' kd') (hnc : nc ≤ 2) : lookA tb pr ow fi ft sg op ag sz fr tt tg kd nc rs pc r h s = lookA tb pr ow fi ft sg op' ag' sz fr' tt' tg' kd' nc rs pc r h s := by
  unfold lookA
  rw [hop, hag, flt_g hc hnc, catA_g hc nc 0 s (by omega)]
theorem verA_g (hop : ∀ j, j < 24 → op j = op' j) (hag : ∀ j, j < 24 → ag j = ag' j) (hc : ctE fr tt tg kd fr' tt' tg' kd') (hnc : nc ≤ 2) : ∀ n (s : MF), verA tb pr ow fi ft sg op ag sz fr tt tg kd nc rs n s = verA tb pr ow fi ft sg op' ag' sz fr' tt' tg' kd' nc rs n s := by
  intro n
  induction n with
  | zero => intro s; rfl
  | succ n ih =>
    intro s
    rw [verA, verA]
    cases hl : lfr s.2 24 0 with
    | none => rfl
    | some pc =>
      dsimp only
      obtain ⟨_, hp, _⟩ := lfr_of 24 0 pc hl
      cases hs : s.1 pc with
      | none => rfl
      | some r =>
        dsimp only
        rw [lookA_g (hop pc (by omega)) (hag pc (by omega)) hc hnc, ih]
theorem vmA_g {k : Nat} {q1 q2 : Option Nat} (hop : ∀ j, j < 24 → op j = op' j) (hag : ∀ j, j < 24 → ag j = ag' j) (hc : ctE fr tt tg kd fr' tt' tg' kd') (hnc : nc ≤ 2) : vmA tb pr ow fi ft sg op ag sz fr tt tg kd nc rs k q1 q2 s = vmA tb pr ow fi ft sg op' ag' sz fr' tt' tg' kd' nc rs k q1 q2 s := by
  unfold vmA
  rw [verA_g hop hag hc hnc]
end WCg
