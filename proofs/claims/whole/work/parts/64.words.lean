/-! words of VERIFYING: MAPS as rows, what an INSTRUCTION gets -/
theorem en_m1 {t : Option Nat} (ht : ob 16 t) : en t = -1 ↔ t = none := by
  cases t with
  | none => exact ⟨fun _ => rfl, fun _ => rfl⟩
  | some a => exact ⟨fun h => absurd h (en_m1ne (by have := ht a rfl; omega)), fun h => by cases h⟩
theorem en_i {x y : Option Nat} (hx : ob 16 x) (hy : ob 16 y) : en x = en y ↔ x = y := en_inj (ob_w hx (by decide)) (ob_w hy (by decide))
/-- a TYPE as the document has it -/
def tyv (x : Option Nat) : Prop := ∀ t, x = some t → t < 16 ∧ (t ≤ 2 ∨ 10 ≤ t)
theorem tyv.ob {x : Option Nat} (h : tyv x) : ob 16 x := fun a ha => (h a ha).1
theorem joinUp_tyv {pr : Nat → Option Nat} (hok : ∀ j, ob 6 (pr j)) {b : Nat} : ∀ n x, ob 6 x → tyv (joinUp pr b n x) := by
  intro n
  induction n with
  | zero => intro x _ t ht; cases ht
  | succ n ih =>
    intro x hx
    cases x with
    | none => intro t ht; cases ht
    | some c =>
      simp only [joinUp]
      split
      · intro t ht; cases ht; have := hx c rfl; omega
      · exact ih _ (hok c)
theorem join_tyv {pr : Nat → Option Nat} (hok : ∀ j, ob 6 (pr j)) {x y : Option Nat} (hx : tyv x) (hy : tyv y) : tyv (join pr x y) := by
  unfold join
  split
  · exact hy
  · split
    · exact hx
    · cases x with
      | none => intro t ht; cases ht
      | some a =>
        cases y with
        | none => intro t ht; cases ht
        | some b =>
          simp only
          split
          · intro t ht; cases ht
          · split
            · intro t ht; cases ht
            · exact joinUp_tyv hok _ _ (hok _)
abbrev Rw : Type := Nat → Option Nat
/-- a row of TYPES with a STACK of height h -/
def rv (r : Rw) (h : Nat) : Prop := r 6 = some h ∧ h ≤ 5 ∧ (∀ j, j ≠ 6 → tyv (r j)) ∧ (∀ j, j < h → r (7 + j) ≠ none) ∧ ∀ j, h ≤ j → j < 5 → r (7 + j) = none
theorem rv.ob {r : Rw} {h : Nat} (hr : rv r h) (j : Nat) : ob 16 (r j) := by
  by_cases e : j = 6
  · subst e
    rw [hr.1]
    exact ob_s (by have := hr.2.1; omega)
  · exact (hr.2.2.1 j e).ob
def jrow (pr : Nat → Option Nat) (r g : Rw) (h : Nat) : Rw := fun i => if i = 6 then some h else if i < 7 + h then join pr (r i) (g i) else none
def mbad (pr : Nat → Option Nat) (r g : Rw) (h : Nat) : Bool := anyC (fun j => (join pr (r (7 + j)) (g (7 + j))).isNone) h 0
def mch (pr : Nat → Option Nat) (r g : Rw) (h : Nat) : Bool := anyC (fun i => decide (i ≠ 6) && decide (join pr (r i) (g i) ≠ r i)) (7 + h) 0
abbrev MF : Type := (Nat → Option Rw) × (Nat → Bool)
/-- INSTRUCTION pc gets a row of height h; none: FAULT 3 -/
def meetA (pr : Nat → Option Nat) (s : MF) (pc : Nat) (g : Rw) (h : Nat) : Option MF := match s.1 pc with
  | none => some (va_up s.1 pc (some g), va_up s.2 pc true)
  | some r => if r 6 = some h then (if mbad pr r g h then none else some (va_up s.1 pc (some (jrow pr r g h)), if mch pr r g h then va_up s.2 pc true else s.2)) else none
theorem anyC_f {p : Nat → Bool} : ∀ n i, anyC p n i = false ↔ ∀ j, i ≤ j → j < i + n → p j = false := by
  intro n
  induction n with
  | zero => intro i; exact ⟨fun _ j h1 h2 => by omega, fun _ => rfl⟩
  | succ n ih =>
    intro i
    simp only [anyC, Bool.or_eq_false_iff, ih]
    constructor
    · rintro ⟨h1, h2⟩ j h3 h4
      by_cases e : j = i
      · rw [e]; exact h1
      · exact h2 j (by omega) (by omega)
    · intro h
      exact ⟨h i (by omega) (by omega), fun j h1 h2 => h j (by omega) (by omega)⟩
theorem anyC_t {p : Nat → Bool} {n i : Nat} : anyC p n i = true ↔ ∃ j, i ≤ j ∧ j < i + n ∧ p j = true := by
  constructor
  · intro h
    apply Classical.byContradiction
    intro q
    have : anyC p n i = false := (anyC_f n i).mpr fun j h1 h2 => by
      cases hp : p j with
      | false => rfl
      | true => exact absurd ⟨j, h1, h2, hp⟩ q
    rw [this] at h
    cases h
  · rintro ⟨j, h1, h2, h3⟩
    cases ha : anyC p n i with
    | true => rfl
    | false => rw [(anyC_f n i).mp ha j h1 h2] at h3; cases h3
/-- MAPS as the class has them -/
def MpC (mp : Nat → Int32) (A : Nat → Option Rw) : Prop := ∀ pc, pc < 24 → match A pc with
  | none => mp (pc * 12 + 6) = -2
  | some r => ∀ i, i < 12 → mp (pc * 12 + i) = en (r i)
theorem MpC.n {mp : Nat → Int32} {A : Nat → Option Rw} (h : MpC mp A) {pc : Nat} (hp : pc < 24) (e : A pc = none) : mp (pc * 12 + 6) = -2 := by
  have := h pc hp
  rw [e] at this
  exact this
theorem MpC.s {mp : Nat → Int32} {A : Nat → Option Rw} (h : MpC mp A) {pc : Nat} (hp : pc < 24) {r : Rw} (e : A pc = some r) : ∀ i, i < 12 → mp (pc * 12 + i) = en (r i) := by
  have := h pc hp
  rw [e] at this
  exact this
theorem MpC.up {mp : Nat → Int32} {A : Nat → Option Rw} (h : MpC mp A) {pc : Nat} (hp : pc < 24) {f : Nat → Int32} {g : Rw} (hf : ∀ i, i < 12 → f i = en (g i)) : MpC (va_cpy f mp 0 (pc * 12) 12) (va_up A pc (some g)) := by
  intro q hq
  by_cases e : q = pc
  · subst e
    rw [va_up_self]
    intro i hi
    unfold va_cpy
    rw [if_pos (by omega), show 0 + (q * 12 + i - q * 12) = i by omega, hf i hi]
  · rw [va_up_ne _ _ e]
    have := h q hq
    cases ha : A q with
    | none =>
      rw [ha] at this
      show va_cpy f mp 0 (pc * 12) 12 (q * 12 + 6) = -2
      unfold va_cpy
      rw [if_neg (by omega)]
      exact this
    | some r =>
      rw [ha] at this
      intro i hi
      unfold va_cpy
      rw [if_neg (by omega)]
      exact this i hi
theorem MpC.same {mp : Nat → Int32} {A : Nat → Option Rw} (h : MpC mp A) {pc : Nat} (hp : pc < 24) {g : Rw} (hf : ∀ i, i < 12 → mp (pc * 12 + i) = en (g i)) : MpC mp (va_up A pc (some g)) := by
  intro q hq
  by_cases e : q = pc
  · subst e
    rw [va_up_self]
    exact hf
  · rw [va_up_ne _ _ e]
    exact h q hq
def frp (fh F : Nat → Bool) : Prop := ∀ j, j < 24 → fh j = F j
theorem frp.up {fh F : Nat → Bool} (h : frp fh F) (pc : Nat) (b : Bool) : frp (va_up fh pc b) (va_up F pc b) := by
  intro j hj
  unfold va_up
  split
  · rfl
  · exact h j hj
/-- all rows are rows -/
def AV (A : Nat → Option Rw) : Prop := ∀ pc r, A pc = some r → ∃ h, rv r h
def VB (σ : jl_S) (tb : Nat → Bool) (pr : Nat → Option Nat) (ow fi ft : Nat → Nat) (mt : Nat → Option Nat) (sg : Int32 → Option Sg) (a : Nat) (q1 q2 : Option Nat) (rs : Nat) (op : Nat → Nat) (ag : Nat → Int32) (sz : Nat) (fr tt tg kd : Nat → Nat) (nc : Nat) (wr wz : Int32) (bf gv jn : Rw) (mp : Nat → Int32) (fh : Nat → Bool) : Prop :=
  WoAt σ tb pr ow fi ft mt ∧ CkAt σ ∧ SgC σ tb pr mt sg ∧ MeAt σ a q1 q2 rs op ag sz fr tt tg kd nc mp fh ∧ VeAt σ wr wz ∧ σ[10]? = some (.inl (0, 12, .inl fun j => en (bf j))) ∧ σ[11]? = some (.inl (0, 12, .inl fun j => en (gv j))) ∧ σ[12]? = some (.inl (0, 12, .inl fun j => en (jn j)))
/-- cells but the verifier's own and the MAPS of the METHOD at a are as they were -/
def Fr (a : Nat) (σ σ' : jl_S) : Prop := σ'.length = σ.length ∧ ∀ i, (i < 9 ∨ 12 < i) → i ≠ a + 7 → i ≠ a + 8 → σ'[i]? = σ[i]?
theorem Fr.refl {a : Nat} {σ : jl_S} : Fr a σ σ := ⟨rfl, fun _ _ _ _ => rfl⟩
theorem Fr.trans {a : Nat} {σ σ1 σ2 : jl_S} (h : Fr a σ σ1) (h2 : Fr a σ1 σ2) : Fr a σ σ2 := ⟨h2.1.trans h.1, fun i h3 h4 h5 => (h2.2 i h3 h4 h5).trans (h.2 i h3 h4 h5)⟩
theorem Fr.set {a b : Nat} {σ σ1 : jl_S} {c : jl_C} (h : Fr a σ σ1) (hb : (9 ≤ b ∧ b ≤ 12) ∨ b = a + 7 ∨ b = a + 8) : Fr a σ (σ1.set b c) := ⟨(List.length_set ..).trans h.1, fun i h3 h4 h5 => by rw [List.getElem?_set_ne (by omega)]; exact h.2 i h3 h4 h5⟩
section WVB
variable {σ : jl_S} {tb : Nat → Bool} {pr : Nat → Option Nat} {ow fi ft : Nat → Nat} {mt : Nat → Option Nat} {sg : Int32 → Option Sg} {a : Nat} {q1 q2 : Option Nat} {rs : Nat} {op : Nat → Nat} {ag : Nat → Int32} {sz : Nat} {fr tt tg kd : Nat → Nat} {nc : Nat} {wr wz wr' wz' : Int32} {bf gv jn bf' gv' jn' : Rw} {mp mp' : Nat → Int32} {fh fh' : Nat → Bool}
theorem MeAt.s7 (h : MeAt σ a q1 q2 rs op ag sz fr tt tg kd nc mp fh) : MeAt (σ.set (a + 7) (.inl (0, 288, .inl mp'))) a q1 q2 rs op ag sz fr tt tg kd nc mp' fh := by
  obtain ⟨hM, g1, g2, g3, g4, g5, g6, g7, g8⟩ := h
  exact ⟨jl_sn (by omega) hM, jl_sn (by omega) g1, jl_sn (by omega) g2, jl_sn (by omega) g3, jl_sn (by omega) g4, jl_sn (by omega) g5, jl_sn (by omega) g6, jl_ss g7, jl_sn (by omega) g8⟩
theorem MeAt.s8 (h : MeAt σ a q1 q2 rs op ag sz fr tt tg kd nc mp fh) : MeAt (σ.set (a + 8) (.inl (1, 24, .inl fun j => bi (fh' j)))) a q1 q2 rs op ag sz fr tt tg kd nc mp fh' := by
  obtain ⟨hM, g1, g2, g3, g4, g5, g6, g7, g8⟩ := h
  exact ⟨jl_sn (by omega) hM, jl_sn (by omega) g1, jl_sn (by omega) g2, jl_sn (by omega) g3, jl_sn (by omega) g4, jl_sn (by omega) g5, jl_sn (by omega) g6, jl_sn (by omega) g7, jl_ss g8⟩
theorem VB.s7 (h : VB σ tb pr ow fi ft mt sg a q1 q2 rs op ag sz fr tt tg kd nc wr wz bf gv jn mp fh) (hmt : MtOk mt) (ha : 54 ≤ a ∧ (a - 54) % 9 = 0) : VB (σ.set (a + 7) (.inl (0, 288, .inl mp'))) tb pr ow fi ft mt sg a q1 q2 rs op ag sz fr tt tg kd nc wr wz bf gv jn mp' fh := by
  obtain ⟨h1, h2, h3, h4, h5, h6, h7, h8⟩ := h
  exact ⟨h1.sx (by omega), jl_sn (by omega) h2, h3.sx hmt (by omega), h4.s7, jl_sn (by omega) h5, jl_sn (by omega) h6, jl_sn (by omega) h7, jl_sn (by omega) h8⟩
theorem VB.s8 (h : VB σ tb pr ow fi ft mt sg a q1 q2 rs op ag sz fr tt tg kd nc wr wz bf gv jn mp fh) (hmt : MtOk mt) (ha : 54 ≤ a ∧ (a - 54) % 9 = 0) : VB (σ.set (a + 8) (.inl (1, 24, .inl fun j => bi (fh' j)))) tb pr ow fi ft mt sg a q1 q2 rs op ag sz fr tt tg kd nc wr wz bf gv jn mp fh' := by
  obtain ⟨h1, h2, h3, h4, h5, h6, h7, h8⟩ := h
  exact ⟨h1.sx (by omega), jl_sn (by omega) h2, h3.sx hmt (by omega), h4.s8, jl_sn (by omega) h5, jl_sn (by omega) h6, jl_sn (by omega) h7, jl_sn (by omega) h8⟩
theorem VB.s9 (h : VB σ tb pr ow fi ft mt sg a q1 q2 rs op ag sz fr tt tg kd nc wr wz bf gv jn mp fh) (hmt : MtOk mt) (ha : 54 ≤ a ∧ (a - 54) % 9 = 0) : VB (σ.set 9 (.inr (4, [.ref 1, .ref 8, .ref 10, .ref 11, .ref 12, .int wr', .int wz']))) tb pr ow fi ft mt sg a q1 q2 rs op ag sz fr tt tg kd nc wr' wz' bf gv jn mp fh := by
  obtain ⟨h1, h2, h3, h4, h5, h6, h7, h8⟩ := h
  exact ⟨h1.sx (by omega), jl_sn (by omega) h2, h3.sx hmt (Or.inl (by omega)), MeAt.sx h4 (Or.inl (by omega)), jl_ss h5, jl_sn (by omega) h6, jl_sn (by omega) h7, jl_sn (by omega) h8⟩
theorem VB.s10 (h : VB σ tb pr ow fi ft mt sg a q1 q2 rs op ag sz fr tt tg kd nc wr wz bf gv jn mp fh) (hmt : MtOk mt) (ha : 54 ≤ a ∧ (a - 54) % 9 = 0) : VB (σ.set 10 (.inl (0, 12, .inl fun j => en (bf' j)))) tb pr ow fi ft mt sg a q1 q2 rs op ag sz fr tt tg kd nc wr wz bf' gv jn mp fh := by
  obtain ⟨h1, h2, h3, h4, h5, h6, h7, h8⟩ := h
  exact ⟨h1.sx (by omega), jl_sn (by omega) h2, h3.sx hmt (Or.inl (by omega)), MeAt.sx h4 (Or.inl (by omega)), jl_sn (by omega) h5, jl_ss h6, jl_sn (by omega) h7, jl_sn (by omega) h8⟩
theorem VB.s11 (h : VB σ tb pr ow fi ft mt sg a q1 q2 rs op ag sz fr tt tg kd nc wr wz bf gv jn mp fh) (hmt : MtOk mt) (ha : 54 ≤ a ∧ (a - 54) % 9 = 0) : VB (σ.set 11 (.inl (0, 12, .inl fun j => en (gv' j)))) tb pr ow fi ft mt sg a q1 q2 rs op ag sz fr tt tg kd nc wr wz bf gv' jn mp fh := by
  obtain ⟨h1, h2, h3, h4, h5, h6, h7, h8⟩ := h
  exact ⟨h1.sx (by omega), jl_sn (by omega) h2, h3.sx hmt (Or.inl (by omega)), MeAt.sx h4 (Or.inl (by omega)), jl_sn (by omega) h5, jl_sn (by omega) h6, jl_ss h7, jl_sn (by omega) h8⟩
theorem VB.s12 (h : VB σ tb pr ow fi ft mt sg a q1 q2 rs op ag sz fr tt tg kd nc wr wz bf gv jn mp fh) (hmt : MtOk mt) (ha : 54 ≤ a ∧ (a - 54) % 9 = 0) : VB (σ.set 12 (.inl (0, 12, .inl fun j => en (jn' j)))) tb pr ow fi ft mt sg a q1 q2 rs op ag sz fr tt tg kd nc wr wz bf gv jn' mp fh := by
  obtain ⟨h1, h2, h3, h4, h5, h6, h7, h8⟩ := h
  exact ⟨h1.sx (by omega), jl_sn (by omega) h2, h3.sx hmt (Or.inl (by omega)), MeAt.sx h4 (Or.inl (by omega)), jl_sn (by omega) h5, jl_sn (by omega) h6, jl_sn (by omega) h7, jl_ss h8⟩
end WVB
theorem cpy_en {f g : Rw} {sp dp n : Nat} : va_cpy (fun j => en (f j)) (fun j => en (g j)) sp dp n = fun j => en (va_cpy f g sp dp n j) := by
  funext j
  unfold va_cpy
  split <;> rfl
section JEc
variable {l : Launch} {G : jl_G} {M : jl_M} {u : Nat × Nat} {pc : Nat} {ls : List (Option Value)} {st : List Value} {σ : jl_S} {P : jl_O → jl_S → Prop}
theorem er_callVE {idx n b ci : Nat} {fs As : List Value} {r : vw_C} {M' : jl_M} (hd : decode M.2.1 pc = .ok (.invokevirtual idx, 3)) (hc : jl_cv M M' idx n = true) (hb : σ[b]? = some (.inr (ci, fs))) (hr : jl_cl[ci]? = some r) (hC : r.1 = M'.1.cls) (hn : As.length = n) (hst : (st.map fun v => v.category).sum ≤ 8)
    (h1 : u.1 + M'.2.2.2.2.1.cells ≤ M.2.2.2.2.1.cells) (h2 : u.2 + M'.2.2.2.2.1.slots ≤ M.2.2.2.2.1.slots) (hm : jl_mE l G M' (.ref b :: As) σ (fun o1 σ1 => ∃ v, o1 = .inl v ∧ jl_E l G M (u.1 + M'.2.2.2.2.1.cells, u.2 + M'.2.2.2.2.1.slots) (pc + 3) ls (v.toList ++ st) σ1 P)) : jl_E l G M u pc ls (As.reverse ++ .ref b :: st) σ P := by
  obtain ⟨o1, σ1, ⟨v, rfl, k⟩, hm⟩ := hm
  exact er_callV hd hc hb hr hC hn hst h1 h2 hm k
theorem er_callSE {idx n : Nat} {As : List Value} {M' : jl_M} (hd : decode M.2.1 pc = .ok (.invokestatic idx, 3)) (hc : jl_cz M M' idx n = true) (hn : As.length = n) (hst : (st.map fun v => v.category).sum ≤ 8)
    (h1 : u.1 + M'.2.2.2.2.1.cells ≤ M.2.2.2.2.1.cells) (h2 : u.2 + M'.2.2.2.2.1.slots ≤ M.2.2.2.2.1.slots) (hm : jl_mE l G M' As σ (fun o1 σ1 => ∃ v, o1 = .inl v ∧ jl_E l G M (u.1 + M'.2.2.2.2.1.cells, u.2 + M'.2.2.2.2.1.slots) (pc + 3) ls (v.toList ++ st) σ1 P)) : jl_E l G M u pc ls (As.reverse ++ st) σ P := by
  obtain ⟨o1, σ1, ⟨v, rfl, k⟩, hm⟩ := hm
  exact er_callS hd hc hn hst h1 h2 hm k
theorem er_ialdQ {a n i : Nat} {f : Nat → Int32} {v : Int32} (hd : decode M.2.1 pc = .ok (.iaload, 1)) (ha : σ[a]? = some (.inl (0, n, .inl f))) (hi : i < n) (hn : n < 2 ^ 31) (hv : f i = v) (k : jl_E l G M u (pc + 1) ls (.int v :: st) σ P) : jl_E l G M u pc ls (.int (nI i) :: .ref a :: st) σ P := er_ialdN hd ha hi hn (by rw [hv]; exact k)
theorem er_baldQ {a n i : Nat} {f : Nat → Int32} {v : Int32} (hd : decode M.2.1 pc = .ok (.baload, 1)) (ha : σ[a]? = some (.inl (1, n, .inl f))) (hi : i < n) (hn : n < 2 ^ 31) (hv : f i = v) (k : jl_E l G M u (pc + 1) ls (.int v :: st) σ P) : jl_E l G M u pc ls (.int (nI i) :: .ref a :: st) σ P := er_baldN hd ha hi hn (by rw [hv]; exact k)
theorem er_aaldQ {a n i : Nat} {f : Nat → Option Nat} {v : Option Nat} (hd : decode M.2.1 pc = .ok (.aaload, 1)) (ha : σ[a]? = some (.inl (3, n, .inr (.inr (.inr (.inr f)))))) (hi : i < n) (hn : n < 2 ^ 31) (hv : f i = v) (k : jl_E l G M u (pc + 1) ls (va_rf v :: st) σ P) : jl_E l G M u pc ls (.int (nI i) :: .ref a :: st) σ P := er_aaldN hd ha hi hn (by rw [hv]; exact k)
end JEc
