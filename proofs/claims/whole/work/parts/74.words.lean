/-! words of VERIFYING: all METHODS -/
/-- PARAMETERS, RESULT, INSTRUCTIONS, their number, CATCHERS, their number -/
abbrev MDt : Type := Option Nat × Option Nat × Nat × (Nat → Nat) × (Nat → Int32) × Nat × (Nat → Nat) × (Nat → Nat) × (Nat → Nat) × (Nat → Nat) × Nat
def MeD (σ : jl_S) (a : Nat) (d : MDt) (mp : Nat → Int32) (fh : Nat → Bool) : Prop := MeAt σ a d.1 d.2.1 d.2.2.1 d.2.2.2.1 d.2.2.2.2.1 d.2.2.2.2.2.1 d.2.2.2.2.2.2.1 d.2.2.2.2.2.2.2.1 d.2.2.2.2.2.2.2.2.1 d.2.2.2.2.2.2.2.2.2.1 d.2.2.2.2.2.2.2.2.2.2 mp fh
def MdOk (d : MDt) : Prop := tyv d.1 ∧ tyv d.2.1 ∧ tyv (some d.2.2.1) ∧ (∀ j, j < 24 → d.2.2.2.1 j < 26) ∧ d.2.2.2.2.2.1 ≤ 24 ∧ d.2.2.2.2.2.2.2.2.2.2 ≤ 2 ∧ (∀ i, i < 2 → d.2.2.2.2.2.2.1 i < 100 ∧ d.2.2.2.2.2.2.2.1 i < 100 ∧ d.2.2.2.2.2.2.2.2.1 i < 24 ∧ d.2.2.2.2.2.2.2.2.2.1 i < 7) ∧ (d.1 = none → d.2.1 = none)
def s00 : MF := (fun _ => none, fun _ => false)
def VRm (tb : Nat → Bool) (pr : Nat → Option Nat) (ow fi ft : Nat → Nat) (sg : Int32 → Option Sg) (d : MDt) (k : Nat) : Option (Nat × Nat) × MF := vmA tb pr ow fi ft sg d.2.2.2.1 d.2.2.2.2.1 d.2.2.2.2.2.1 d.2.2.2.2.2.2.1 d.2.2.2.2.2.2.2.1 d.2.2.2.2.2.2.2.2.1 d.2.2.2.2.2.2.2.2.2.1 d.2.2.2.2.2.2.2.2.2.2 d.2.2.1 k d.1 d.2.1 s00
def GV (σ : jl_S) (tb : Nat → Bool) (pr : Nat → Option Nat) (ow fi ft : Nat → Nat) (mt : Nat → Option Nat) (sg : Int32 → Option Sg) (D : Nat → MDt) (wr wz : Int32) (bf gv jn : Rw) (MP : Nat → Nat → Int32) (FH : Nat → Nat → Bool) : Prop :=
  WoAt σ tb pr ow fi ft mt ∧ CkAt σ ∧ SgC σ tb pr mt sg ∧ (∀ m a, mt m = some a → MeD σ a (D m) (MP m) (FH m)) ∧ VeAt σ wr wz ∧ σ[10]? = some (.inl (0, 12, .inl fun j => en (bf j))) ∧ σ[11]? = some (.inl (0, 12, .inl fun j => en (gv j))) ∧ σ[12]? = some (.inl (0, 12, .inl fun j => en (jn j)))
/-- each METHOD has cells of its own -/
def MtI (mt : Nat → Option Nat) : Prop := ∀ m m' a, mt m = some a → mt m' = some a → m = m'
def FrV (mt : Nat → Option Nat) (σ σ' : jl_S) : Prop := σ'.length = σ.length ∧ ∀ i, (i < 9 ∨ 12 < i) → (∀ m a, mt m = some a → i ≠ a + 7 ∧ i ≠ a + 8) → σ'[i]? = σ[i]?
theorem FrV.refl {mt : Nat → Option Nat} {σ : jl_S} : FrV mt σ σ := ⟨rfl, fun _ _ _ => rfl⟩
theorem FrV.tr {mt : Nat → Option Nat} {σ σ1 σ2 : jl_S} {m a : Nat} (h : FrV mt σ σ1) (hm : mt m = some a) (h2 : Fr a σ1 σ2) : FrV mt σ σ2 := ⟨h2.1.trans h.1, fun i h3 h4 => (h2.2 i h3 (h4 m a hm).1 (h4 m a hm).2).trans (h.2 i h3 h4)⟩
theorem FrV.trans {mt : Nat → Option Nat} {σ σ1 σ2 : jl_S} (h : FrV mt σ σ1) (h2 : FrV mt σ1 σ2) : FrV mt σ σ2 := ⟨h2.1.trans h.1, fun i h3 h4 => (h2.2 i h3 h4).trans (h.2 i h3 h4)⟩
theorem MeD.fr {σ σ' : jl_S} {a a' : Nat} {d : MDt} {mp : Nat → Int32} {fh : Nat → Bool} (h : MeD σ a' d mp fh) (hf : Fr a σ σ') (ha : 54 ≤ a ∧ (a - 54) % 9 = 0) (ha' : 54 ≤ a' ∧ (a' - 54) % 9 = 0) (hne : a' ≠ a) : MeD σ' a' d mp fh := by
  obtain ⟨hM, g1, g2, g3, g4, g5, g6, g7, g8⟩ := h
  exact ⟨(hf.2 _ (by omega) (by omega) (by omega)).trans hM, (hf.2 _ (by omega) (by omega) (by omega)).trans g1, (hf.2 _ (by omega) (by omega) (by omega)).trans g2, (hf.2 _ (by omega) (by omega) (by omega)).trans g3, (hf.2 _ (by omega) (by omega) (by omega)).trans g4, (hf.2 _ (by omega) (by omega) (by omega)).trans g5, (hf.2 _ (by omega) (by omega) (by omega)).trans g6, (hf.2 _ (by omega) (by omega) (by omega)).trans g7, (hf.2 _ (by omega) (by omega) (by omega)).trans g8⟩
section WGV
variable {σ σ' : jl_S} {tb : Nat → Bool} {pr : Nat → Option Nat} {ow fi ft : Nat → Nat} {mt : Nat → Option Nat} {sg : Int32 → Option Sg} {D : Nat → MDt} {wr wz wr' wz' : Int32} {bf gv jn bf' gv' jn' : Rw} {MP : Nat → Nat → Int32} {FH : Nat → Nat → Bool} {mp : Nat → Int32} {fh : Nat → Bool} {m a : Nat}
theorem GV.vb (h : GV σ tb pr ow fi ft mt sg D wr wz bf gv jn MP FH) (hm : mt m = some a) : VB σ tb pr ow fi ft mt sg a (D m).1 (D m).2.1 (D m).2.2.1 (D m).2.2.2.1 (D m).2.2.2.2.1 (D m).2.2.2.2.2.1 (D m).2.2.2.2.2.2.1 (D m).2.2.2.2.2.2.2.1 (D m).2.2.2.2.2.2.2.2.1 (D m).2.2.2.2.2.2.2.2.2.1 (D m).2.2.2.2.2.2.2.2.2.2 wr wz bf gv jn (MP m) (FH m) := ⟨h.1, h.2.1, h.2.2.1, h.2.2.2.1 m a hm, h.2.2.2.2⟩
theorem GV.of (h : GV σ tb pr ow fi ft mt sg D wr wz bf gv jn MP FH) (hm : mt m = some a) (hmt : MtOk mt) (hI : MtI mt) (hf : Fr a σ σ') (hv : VB σ' tb pr ow fi ft mt sg a (D m).1 (D m).2.1 (D m).2.2.1 (D m).2.2.2.1 (D m).2.2.2.2.1 (D m).2.2.2.2.2.1 (D m).2.2.2.2.2.2.1 (D m).2.2.2.2.2.2.2.1 (D m).2.2.2.2.2.2.2.2.1 (D m).2.2.2.2.2.2.2.2.2.1 (D m).2.2.2.2.2.2.2.2.2.2 wr' wz' bf' gv' jn' mp fh) : GV σ' tb pr ow fi ft mt sg D wr' wz' bf' gv' jn' (va_up MP m mp) (va_up FH m fh) := by
  refine ⟨hv.1, hv.2.1, hv.2.2.1, fun q b hq => ?_, hv.2.2.2.2⟩
  by_cases e : q = m
  · subst e
    rw [hm] at hq
    cases hq
    rw [va_up_self, va_up_self]
    exact hv.2.2.2.1
  · rw [va_up_ne _ _ e, va_up_ne _ _ e]
    exact MeD.fr (h.2.2.2.1 q b hq) hf (hmt m a hm) (hmt q b hq) (fun z => e (hI q m a (z ▸ hq) hm))
theorem GV.s9 (h : GV σ tb pr ow fi ft mt sg D wr wz bf gv jn MP FH) (hmt : MtOk mt) : GV (σ.set 9 (.inr (4, [.ref 1, .ref 8, .ref 10, .ref 11, .ref 12, .int wr', .int wz']))) tb pr ow fi ft mt sg D wr' wz' bf gv jn MP FH := by
  obtain ⟨h1, h2, h3, h4, h5, h6, h7, h8⟩ := h
  exact ⟨h1.sx (by omega), jl_sn (by omega) h2, h3.sx hmt (Or.inl (by omega)), fun q b hq => MeAt.sx (h4 q b hq) (Or.inl (by have := hmt q b hq; omega)), jl_ss h5, jl_sn (by omega) h6, jl_sn (by omega) h7, jl_sn (by omega) h8⟩
end WGV
theorem FrV.s9 {mt : Nat → Option Nat} {σ σ1 : jl_S} {c : jl_C} (h : FrV mt σ σ1) : FrV mt σ (σ1.set 9 c) := ⟨(List.length_set ..).trans h.1, fun i h3 h4 => by rw [List.getElem?_set_ne (by omega)]; exact h.2 i h3 h4⟩
theorem fgM_at {f : Nat → Int32} : ∀ n i j, (∀ q, i ≤ q → q < i + n → j ≠ q * 12 + 6) → fgM n i f j = f j := by
  intro n
  induction n generalizing f with
  | zero => intro i j _; rfl
  | succ n ih =>
    intro i j h
    simp only [fgM]
    rw [ih (i + 1) j (fun q h1 h2 => h q (by omega) (by omega))]
    have := h i (by omega) (by omega)
    simp [upd, this]
theorem fgM_2 {f : Nat → Int32} : ∀ n i q, i ≤ q → q < i + n → fgM n i f (q * 12 + 6) = -2 := by
  intro n
  induction n generalizing f with
  | zero => intro i q h1 h2; omega
  | succ n ih =>
    intro i q h1 h2
    simp only [fgM]
    by_cases e : q = i
    · subst e
      rw [fgM_at _ _ _ (fun z h3 h4 => by omega)]
      simp [upd]
    · exact ih (i + 1) q (by omega) (by omega)
theorem fgF_f {F : Nat → Bool} : ∀ n i, (∀ j, j < i → F j = false) → ∀ j, j < i + n → fgF n i F j = false := by
  intro n
  induction n generalizing F with
  | zero => intro i h j hj; exact h j (by omega)
  | succ n ih =>
    intro i h j hj
    simp only [fgF]
    refine ih (i + 1) (fun q hq => ?_) j (by omega)
    by_cases e : q = i
    · rw [e, va_up_self]
    · rw [va_up_ne _ _ e]; exact h q (by omega)
def empt (mp : Nat → Int32) (fh : Nat → Bool) : Prop := MpC mp (fun _ => none) ∧ frp fh (fun _ => false)
theorem empt_fg {mp : Nat → Int32} {fh : Nat → Bool} : empt (fgM 24 0 mp) (fgF 24 0 fh) := ⟨fun pc hpc => fgM_2 24 0 pc (by omega) (by omega), fun j hj => fgF_f 24 0 (fun q hq => absurd hq (Nat.not_lt_zero _)) j (by omega)⟩
theorem SV00 : SV s00 := ⟨fun _ _ h => (by cases h), fun _ h => (by cases h)⟩
def dne (mt : Nat → Option Nat) (MP : Nat → Nat → Int32) (FH : Nat → Nat → Bool) (i : Nat) : Prop := ∀ m, m < i → mt m ≠ none → empt (MP m) (FH m)
theorem dne.k {mt : Nat → Option Nat} {MP : Nat → Nat → Int32} {FH : Nat → Nat → Bool} {i : Nat} (h : dne mt MP FH i) (e : mt i = none) : dne mt MP FH (i + 1) := by
  intro m hm hn
  by_cases z : m = i
  · subst z; exact absurd e hn
  · exact h m (by omega) hn
theorem dne.s {mt : Nat → Option Nat} {MP : Nat → Nat → Int32} {FH : Nat → Nat → Bool} {i : Nat} (h : dne mt MP FH i) : dne mt (va_up MP i (fgM 24 0 (MP i))) (va_up FH i (fgF 24 0 (FH i))) (i + 1) := by
  intro m hm hn
  by_cases z : m = i
  · rw [z, va_up_self, va_up_self]; exact empt_fg
  · rw [va_up_ne _ _ z, va_up_ne _ _ z]; exact h m (by omega) hn
section WVd
variable {tb : Nat → Bool} {pr : Nat → Option Nat} {ow fi ft : Nat → Nat} {sg : Int32 → Option Sg} {D : Nat → MDt} {mt : Nat → Option Nat} {MP : Nat → Nat → Int32} {FH : Nat → Nat → Bool} {i k sl : Nat} {mp : Nat → Int32} {fh : Nat → Bool}
/-- METHODS below i are without FAULT, with these MAPS -/
def vdn (tb : Nat → Bool) (pr : Nat → Option Nat) (ow fi ft : Nat → Nat) (sg : Int32 → Option Sg) (D : Nat → MDt) (mt : Nat → Option Nat) (MP : Nat → Nat → Int32) (i : Nat) : Prop := ∀ m, m < i → mt m ≠ none → (VRm tb pr ow fi ft sg (D m) (m / 4)).1 = none ∧ MpC (MP m) (VRm tb pr ow fi ft sg (D m) (m / 4)).2.1
def udn (mt : Nat → Option Nat) (MP : Nat → Nat → Int32) (FH : Nat → Nat → Bool) (i : Nat) : Prop := ∀ m, i ≤ m → mt m ≠ none → empt (MP m) (FH m)
theorem vdn.kk (h : vdn tb pr ow fi ft sg D mt MP i) (e : mt i = none) : vdn tb pr ow fi ft sg D mt MP (i + 1) := by
  intro m hm hn
  by_cases z : m = i
  · subst z; exact absurd e hn
  · exact h m (by omega) hn
theorem vdn.s (h : vdn tb pr ow fi ft sg D mt MP i) (e : (VRm tb pr ow fi ft sg (D i) (i / 4)).1 = none) (hm : MpC mp (VRm tb pr ow fi ft sg (D i) (i / 4)).2.1) : vdn tb pr ow fi ft sg D mt (va_up MP i mp) (i + 1) := by
  intro m hm2 hn
  by_cases z : m = i
  · subst z; rw [va_up_self]; exact ⟨e, hm⟩
  · rw [va_up_ne _ _ z]; exact h m (by omega) hn
theorem vdn.n (h : vdn tb pr ow fi ft sg D mt MP i) : vdn tb pr ow fi ft sg D mt (va_up MP i mp) i := by
  intro m hm2 hn
  rw [va_up_ne _ _ (by omega)]; exact h m hm2 hn
theorem udn.kk (h : udn mt MP FH i) : udn mt MP FH (i + 1) := fun m hm hn => h m (by omega) hn
theorem udn.s (h : udn mt MP FH i) : udn mt (va_up MP i mp) (va_up FH i fh) (i + 1) := by
  intro m hm hn
  rw [va_up_ne _ _ (by omega), va_up_ne _ _ (by omega)]
  exact h m (by omega) hn
theorem vdn.c (h : vdn tb pr ow fi ft sg D mt MP (k * 4 + sl)) (e : 4 ≤ sl) (e2 : sl ≤ 4) : vdn tb pr ow fi ft sg D mt MP ((k + 1) * 4 + 0) := by
  rw [show (k + 1) * 4 + 0 = k * 4 + sl by omega]; exact h
theorem udn.c (h : udn mt MP FH (k * 4 + sl)) (e : 4 ≤ sl) (e2 : sl ≤ 4) : udn mt MP FH ((k + 1) * 4 + 0) := by
  rw [show (k + 1) * 4 + 0 = k * 4 + sl by omega]; exact h
theorem vr_k {d : MDt} {x : Option (Nat × Nat) × MF} (hsl : sl < 4) (e : vmA tb pr ow fi ft sg d.2.2.2.1 d.2.2.2.2.1 d.2.2.2.2.2.1 d.2.2.2.2.2.2.1 d.2.2.2.2.2.2.2.1 d.2.2.2.2.2.2.2.2.1 d.2.2.2.2.2.2.2.2.2.1 d.2.2.2.2.2.2.2.2.2.2 d.2.2.1 k d.1 d.2.1 s00 = x) : VRm tb pr ow fi ft sg d ((k * 4 + sl) / 4) = x := by
  unfold VRm
  rw [show (k * 4 + sl) / 4 = k by omega]
  exact e
end WVd
