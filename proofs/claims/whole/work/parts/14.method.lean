/-! a Method's cells: it, and eight arrays behind it -/
def MeAt (σ : jl_S) (a : Nat) (q1 q2 : Option Nat) (rs : Nat) (op : Nat → Nat) (ag : Nat → Int32) (sz : Nat) (fr tt tg kd : Nat → Nat) (nc : Nat) (mp : Nat → Int32) (fh : Nat → Bool) : Prop :=
  σ[a]? = some (.inr (2, [.int (en q1), .int (en q2), .int (nI rs), .ref (a + 1), .ref (a + 2), .int (nI sz), .ref (a + 3), .ref (a + 4), .ref (a + 5), .ref (a + 6), .int (nI nc), .ref (a + 7), .ref (a + 8)])) ∧
  σ[a + 1]? = some (.inl (0, 24, .inl fun j => nI (op j))) ∧ σ[a + 2]? = some (.inl (0, 24, .inl ag)) ∧ σ[a + 3]? = some (.inl (0, 2, .inl fun j => nI (fr j))) ∧ σ[a + 4]? = some (.inl (0, 2, .inl fun j => nI (tt j))) ∧ σ[a + 5]? = some (.inl (0, 2, .inl fun j => nI (tg j))) ∧ σ[a + 6]? = some (.inl (0, 2, .inl fun j => nI (kd j))) ∧ σ[a + 7]? = some (.inl (0, 288, .inl mp)) ∧ σ[a + 8]? = some (.inl (1, 24, .inl fun j => bi (fh j)))
def prm (q1 q2 : Option Nat) : Nat := if q1 = none then 0 else if q2 = none then 1 else 2
def aro (fr tt : Nat → Nat) (i pc : Nat) : Bool := decide (fr i ≤ pc) && decide (pc < tt i)
def fgM : Nat → Nat → (Nat → Int32) → Nat → Int32
  | 0, _, f => f
  | n + 1, i, f => fgM n (i + 1) (upd f (i * 12 + 6) (-2))
def fgF : Nat → Nat → (Nat → Bool) → Nat → Bool
  | 0, _, f => f
  | n + 1, i, f => fgF n (i + 1) (va_up f i false)
def lfr (fh : Nat → Bool) : Nat → Nat → Option Nat
  | 0, _ => none
  | n + 1, i => if fh i then some i else lfr fh n (i + 1)
theorem jl_s2 {σ : jl_S} {p q : Nat} {x X y Y : jl_C} (h : p ≠ q) : (((σ.set p x).set q y).set p X).set q Y = (σ.set p X).set q Y := by
  rw [List.set_comm _ _ h.symm, List.set_set, List.set_set]
theorem MeAt.s78 {σ : jl_S} {a : Nat} {q1 q2 : Option Nat} {rs : Nat} {op : Nat → Nat} {ag : Nat → Int32} {sz : Nat} {fr tt tg kd : Nat → Nat} {nc : Nat} {mp mp' : Nat → Int32} {fh fh' : Nat → Bool} (h : MeAt σ a q1 q2 rs op ag sz fr tt tg kd nc mp fh) : MeAt ((σ.set (a + 7) (.inl (0, 288, .inl mp'))).set (a + 8) (.inl (1, 24, .inl fun j => bi (fh' j)))) a q1 q2 rs op ag sz fr tt tg kd nc mp' fh' := by
  obtain ⟨hM, g1, g2, g3, g4, g5, g6, g7, g8⟩ := h
  exact ⟨jl_sn (by omega) (jl_sn (by omega) hM), jl_sn (by omega) (jl_sn (by omega) g1), jl_sn (by omega) (jl_sn (by omega) g2), jl_sn (by omega) (jl_sn (by omega) g3), jl_sn (by omega) (jl_sn (by omega) g4), jl_sn (by omega) (jl_sn (by omega) g5), jl_sn (by omega) (jl_sn (by omega) g6), jl_sn (by omega) (jl_ss g7), jl_ss (jl_sn (by omega) g8)⟩
theorem jl_seq {l : Launch} {G : jl_G} {M : jl_M} {u : Nat × Nat} {pc : Nat} {ls : List (Option Value)} {st : List Value} {σ : jl_S} {o : jl_O} {s1 s2 : jl_S} (h : s1 = s2) (k : jl_W l G M u pc ls st σ o s2) : jl_W l G M u pc ls st σ o s1 := h ▸ k
theorem jl_id {σ : jl_S} {a : Nat} {c : jl_C} (h : σ[a]? = some c) : σ.set a c = σ := by
  apply List.ext_getElem?
  intro i
  by_cases hi : a = i
  · subst hi
    rw [jl_ss h, h]
  · rw [List.getElem?_set_ne hi]
theorem jl_id2 {σ : jl_S} {a b : Nat} {c d : jl_C} (h : σ[a]? = some c) (h2 : σ[b]? = some d) : (σ.set a c).set b d = σ := by
  rw [jl_id h, jl_id h2]
