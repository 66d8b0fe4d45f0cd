/-! the MAPS of a METHOD without FAULT: every INSTRUCTION with a MAP is without FAULT, and what it gives is below what is there -/
def rle (pr : Nat → Option Nat) (g r : Rw) (h : Nat) : Prop := r 6 = some h ∧ ∀ j, j < 7 + h → j ≠ 6 → le pr (g j) (r j)
def Gle (pr : Nat → Option Nat) (A : Nat → Option Rw) (pc : Nat) (g : Rw) (h : Nat) : Prop := ∃ r, A pc = some r ∧ rle pr g r h
def Ale (pr : Nat → Option Nat) (A A' : Nat → Option Rw) : Prop := ∀ pc r h, A pc = some r → rv r h → Gle pr A' pc r h
/-- an INSTRUCTION that isn't new has the MAP that it had -/
def unch (s s' : MF) : Prop := ∀ q, s'.2 q = false → s.2 q = false ∧ (s.1 q = none → s'.1 q = none) ∧ ∀ r, s.1 q = some r → ∃ r', s'.1 q = some r' ∧ req r r'
def fine (tb : Nat → Bool) (pr : Nat → Option Nat) (ow fi ft : Nat → Nat) (sg : Int32 → Option Sg) (op : Nat → Nat) (ag : Nat → Int32) (sz : Nat) (fr tt tg kd : Nat → Nat) (nc rs : Nat) (A : Nat → Option Rw) (pc : Nat) (r : Rw) (h : Nat) : Prop :=
  flt tb pr ow fi ft sg (op pc) (ag pc) sz fr tt tg kd nc rs pc r h = 0 ∧ (∀ i, i < nc → aro fr tt i pc = true → Gle pr A (tg i) (ctr r h (kd i)) (ctrh (kd i))) ∧ (jmp (op pc) = true → Gle pr A (ag pc).toNatClampNeg (actR pr fi ft sg r (op pc) (ag pc) r h) (h - tks sg (op pc) (ag pc) + pts (op pc))) ∧ (fal (op pc) = true → Gle pr A (pc + 1) (actR pr fi ft sg r (op pc) (ag pc) r h) (h - tks sg (op pc) (ag pc) + pts (op pc)))
section WFx
variable {tb : Nat → Bool} {pr : Nat → Option Nat} {ow fi ft : Nat → Nat} {sg : Int32 → Option Sg} {op : Nat → Nat} {ag : Nat → Int32} {sz nc rs pc h n : Nat} {fr tt tg kd : Nat → Nat} {r g bf : Rw} {s s1 s2 : MF} {A A' A2 : Nat → Option Rw}
theorem rv.u {h' : Nat} (h1 : rv r h) (h2 : r 6 = some h') : h = h' := by rw [h1.1] at h2; exact Option.some.inj h2
theorem Ale.refl : Ale pr A A := fun _ r h e hr => ⟨r, e, hr.1, fun _ _ _ => le.refl⟩
theorem Gle.up (hok : WoOk tb pr ow fi) (hg : Gle pr A pc g h) (ha : Ale pr A A') (hA : AV A) (ho : ∀ j, ob 16 (g j)) : Gle pr A' pc g h := by
  obtain ⟨r, e, h6, hr⟩ := hg
  obtain ⟨h', hv⟩ := hA pc r e
  have := hv.u h6
  subst this
  obtain ⟨r', e', h6', hr'⟩ := ha pc r h' e hv
  exact ⟨r', e', h6', fun j hj hn => (hr j hj hn).trans hok (ho j) (hv.ob j) (hr' j hj hn)⟩
theorem Ale.trans (hok : WoOk tb pr ow fi) (h1 : Ale pr A A') (h2 : Ale pr A' A2) (hA : AV A') : Ale pr A A2 := fun pc r h e hr => (h1 pc r h e hr).up hok h2 hA hr.ob
theorem unch.refl : unch s s := fun _ hq => ⟨hq, id, fun r e => ⟨r, e, fun _ _ => rfl⟩⟩
theorem unch.trans (h1 : unch s s1) (h2 : unch s1 s2) : unch s s2 := by
  intro q hq
  obtain ⟨a, b, c⟩ := h2 q hq
  obtain ⟨a', b', c'⟩ := h1 q a
  refine ⟨a', fun e => b (b' e), fun r e => ?_⟩
  obtain ⟨r1, e1, q1⟩ := c' r e
  obtain ⟨r2, e2, q2⟩ := c r1 e1
  exact ⟨r2, e2, q1.t q2⟩
theorem meetA_fix (hok : WoOk tb pr ow fi) (hs : AV s.1) (hg : rv g h) (e : meetA pr s pc g h = some s1) : Ale pr s.1 s1.1 ∧ Gle pr s1.1 pc g h ∧ unch s s1 := by
  unfold meetA at e
  cases hp : s.1 pc with
  | none =>
    rw [hp] at e
    dsimp only at e
    cases e
    refine ⟨fun q r h' hq hr => ?_, ⟨g, va_up_self _ _ _, hg.1, fun _ _ _ => le.refl⟩, fun q hq => ?_⟩
    · by_cases z : q = pc
      · rw [z, hp] at hq; cases hq
      · exact ⟨r, (va_up_ne _ _ z).trans hq, hr.1, fun _ _ _ => le.refl⟩
    · dsimp only at hq ⊢
      by_cases z : q = pc
      · rw [z, va_up_self] at hq; cases hq
      · rw [va_up_ne _ _ z] at hq ⊢
        exact ⟨hq, id, fun r e => ⟨r, e, fun _ _ => rfl⟩⟩
  | some r =>
    rw [hp] at e
    dsimp only at e
    obtain ⟨h', hr⟩ := hs pc r hp
    by_cases h6 : r 6 = some h
    · rw [if_pos h6] at e
      have := hr.u h6
      subst this
      by_cases hb : mbad pr r g h' = true
      · rw [if_pos hb] at e; cases e
      · rw [if_neg hb] at e
        have e' := Option.some.inj e
        have hj6 : jrow pr r g h' 6 = some h' := by unfold jrow; rw [if_pos rfl]
        have hjl : ∀ j, j < 7 + h' → j ≠ 6 → jrow pr r g h' j = join pr (r j) (g j) := fun j hj hn => by unfold jrow; rw [if_neg hn, if_pos hj]
        rw [← e']
        refine ⟨fun q r1 h1 hq hr1 => ?_, ⟨jrow pr r g h', va_up_self _ _ _, hj6, fun j hj hn => ?_⟩, fun q hq => ?_⟩
        · by_cases z : q = pc
          · rw [z, hp] at hq
            cases hq
            have := hr1.u h6
            subst this
            refine ⟨jrow pr r g h1, by rw [z]; exact va_up_self _ _ _, hj6, fun j hj hn => ?_⟩
            rw [hjl j hj hn]
            exact (join_above hok (hr.ob j) (hg.ob j)).1
          · exact ⟨r1, (va_up_ne _ _ z).trans hq, hr1.1, fun _ _ _ => le.refl⟩
        · rw [hjl j hj hn]
          exact (join_above hok (hr.ob j) (hg.ob j)).2
        · dsimp only at hq ⊢
          by_cases z : q = pc
          · subst z
            by_cases hm : mch pr r g h' = true
            · rw [if_pos hm, va_up_self] at hq; cases hq
            · rw [if_neg hm] at hq
              refine ⟨hq, fun q1 => (by rw [hp] at q1; cases q1), fun r1 hr1 => ⟨_, va_up_self _ _ _, fun j hj => ?_⟩⟩
              rw [hp] at hr1
              cases hr1
              by_cases j6 : j = 6
              · rw [j6, hj6, h6]
              · by_cases hjh : j < 7 + h'
                · rw [hjl j hjh j6]
                  have := (anyC_f (7 + h') 0).mp (Bool.eq_false_iff.mpr hm) j (by omega) (by omega)
                  simp only [Bool.and_eq_false_iff, decide_eq_false_iff_not] at this
                  rcases this with z | z
                  · exact absurd j6 z
                  · exact (Decidable.not_not.mp z).symm
                · have := hr.2.2.2.2 (j - 7) (by omega) (by omega)
                  rw [show 7 + (j - 7) = j by omega] at this
                  rw [this]
                  unfold jrow
                  rw [if_neg j6, if_neg hjh]
          · have hq' : s.2 q = false := by
              by_cases hm : mch pr r g h' = true
              · rw [if_pos hm, va_up_ne _ _ z] at hq; exact hq
              · rw [if_neg hm] at hq; exact hq
            rw [va_up_ne _ _ z]
            exact ⟨hq', id, fun r e => ⟨r, e, fun _ _ => rfl⟩⟩
    · rw [if_neg h6] at e; cases e
theorem catA_fix (hok : WoOk tb pr ow fi) (hb : rv bf h) (hk : ∀ i, i < 2 → kd i < 7) : ∀ n i (s s1 : MF), i + n ≤ 2 → SV s → catA pr fr tt tg kd bf h pc n i s = (true, s1) → Ale pr s.1 s1.1 ∧ unch s s1 ∧ ∀ k, i ≤ k → k < i + n → aro fr tt k pc = true → Gle pr s1.1 (tg k) (ctr bf h (kd k)) (ctrh (kd k)) := by
  intro n
  induction n with
  | zero =>
    intro i s s1 _ _ e
    cases e
    exact ⟨Ale.refl, unch.refl, fun k h1 h2 => by omega⟩
  | succ n ih =>
    intro i s s1 hi hs e
    cases ha : aro fr tt i pc with
    | false =>
      rw [catA_k ha] at e
      obtain ⟨a, b, c⟩ := ih (i + 1) s s1 (by omega) hs e
      refine ⟨a, b, fun k h1 h2 h3 => ?_⟩
      by_cases z : k = i
      · rw [z, ha] at h3; cases h3
      · exact c k (by omega) (by omega) h3
    | true =>
      have hv := rv_ctr hb (hk i (by omega))
      cases hm : meetA pr s (tg i) (ctr bf h (kd i)) (ctrh (kd i)) with
      | none => rw [catA_n ha hm] at e; cases e
      | some s0 =>
        rw [catA_s ha hm] at e
        obtain ⟨a1, b1, c1⟩ := meetA_fix hok hs.1 hv hm
        have hs0 := meetA_SV hok.1 hs hv hm
        obtain ⟨a, b, c⟩ := ih (i + 1) s0 s1 (by omega) hs0 e
        refine ⟨a1.trans hok a hs0.1, c1.trans b, fun k h1 h2 h3 => ?_⟩
        by_cases z : k = i
        · subst z
          exact b1.up hok a hs0.1 hv.ob
        · exact c k (by omega) (by omega) h3
theorem nxtA_fix (hok : WoOk tb pr ow fi) {o : Nat} {x : Int32} (hg : rv g h) (hs : SV s) (e : nxtA pr o x pc g h s = (true, s1)) : Ale pr s.1 s1.1 ∧ unch s s1 ∧ (jmp o = true → Gle pr s1.1 x.toNatClampNeg g h) ∧ (fal o = true → Gle pr s1.1 (pc + 1) g h) := by
  have two : ∀ s0 : MF, SV s0 → (if fal o = true then mt2 s0 (meetA pr s0 (pc + 1) g h) else (true, s0)) = (true, s1) → Ale pr s0.1 s1.1 ∧ unch s0 s1 ∧ (fal o = true → Gle pr s1.1 (pc + 1) g h) := by
    intro s0 hs0 e
    by_cases hf : fal o = true
    · rw [if_pos hf] at e
      cases hm : meetA pr s0 (pc + 1) g h with
      | none => rw [hm] at e; cases e
      | some s2 =>
        rw [hm] at e
        cases e
        obtain ⟨a, b, c⟩ := meetA_fix hok hs0.1 hg hm
        exact ⟨a, c, fun _ => b⟩
    · rw [if_neg hf] at e
      cases e
      exact ⟨Ale.refl, unch.refl, fun z => absurd z hf⟩
  unfold nxtA at e
  by_cases hj : jmp o = true
  · rw [if_pos hj] at e
    cases hm : meetA pr s x.toNatClampNeg g h with
    | none => rw [hm] at e; cases e
    | some s0 =>
      rw [hm] at e
      dsimp only [mt2] at e
      rw [if_pos rfl] at e
      obtain ⟨a1, b1, c1⟩ := meetA_fix hok hs.1 hg hm
      have hs0 := meetA_SV hok.1 hs hg hm
      obtain ⟨a, b, c⟩ := two s0 hs0 e
      exact ⟨a1.trans hok a hs0.1, c1.trans b, fun _ => b1.up hok a hs0.1 hg.ob, c⟩
  · rw [if_neg hj] at e
    dsimp only at e
    rw [if_pos rfl] at e
    obtain ⟨a, b, c⟩ := two s hs e
    exact ⟨a, b, fun z => absurd z hj, c⟩
theorem f5_o {o : Nat} {x : Int32} (e : f5 tb ow fi sg o x fr tt kd nc pc = false) : f5o tb ow fi sg o x = false := by
  unfold f5 at e
  rw [Bool.or_eq_false_iff] at e
  exact e.2
theorem ctr_e {k : Nat} {r' : Rw} (h0 : req r r') : req (ctr r h k) (ctr r' h k) := by
  unfold ctr
  by_cases e : k = 6
  · rw [if_pos e, if_pos e]; exact low_e h0
  · rw [if_neg e, if_neg e]; exact psh_e2 (low_e h0)
theorem Gle.e {g' : Rw} (hg : Gle pr A pc g h) (h0 : req g g') (hh : h ≤ 5) : Gle pr A pc g' h := by
  obtain ⟨r, e, h6, hr⟩ := hg
  exact ⟨r, e, h6, fun j hj hn => by rw [← h0 j (by omega)]; exact hr j hj hn⟩
theorem fine.e {r' : Rw} (hf : fine tb pr ow fi ft sg op ag sz fr tt tg kd nc rs A pc r h) (h0 : req r r') (hr : rv r h) (hk : ∀ i, i < 2 → kd i < 7) (hnc : nc ≤ 2) : fine tb pr ow fi ft sg op ag sz fr tt tg kd nc rs A pc r' h := by
  obtain ⟨a, b, c, d⟩ := hf
  have h5 := hr.2.1
  obtain ⟨_, f5', f1', _⟩ := flt0 a
  have h1 := f1_b f1'
  have h5o := f5_o f5'
  exact ⟨(flt_e h0 h5).symm.trans a, fun i hi ha => (b i hi ha).e (ctr_e h0) (by unfold ctrh; split <;> omega), fun z => (c z).e (actR_e2 h0 h5 h5o h0) h1.2, fun z => (d z).e (actR_e2 h0 h5 h5o h0) h1.2⟩
theorem fine.up (hok : WoOk tb pr ow fi) (hf : fine tb pr ow fi ft sg op ag sz fr tt tg kd nc rs A pc r h) (ha : Ale pr A A') (hA : AV A) (hr : rv r h) (hop : op pc < 26) (hk : ∀ i, i < 2 → kd i < 7) (hnc : nc ≤ 2) (hft : ∀ k f, tyv (some (fty pr fi ft k f))) (hsg : ∀ x g, sg x = some g → tyv (some g.2.2)) : fine tb pr ow fi ft sg op ag sz fr tt tg kd nc rs A' pc r h := by
  obtain ⟨a, b, c, d⟩ := hf
  obtain ⟨_, f5', f1', ht⟩ := flt0 a
  have hv := rv_act hop hr hr (f5_o f5') (f1_b f1') ht hft hsg
  exact ⟨a, fun i hi h1 => (b i hi h1).up hok ha hA (rv_ctr hr (hk i (by omega))).ob, fun z => (c z).up hok ha hA hv.ob, fun z => (d z).up hok ha hA hv.ob⟩
theorem lookA_fix (hok : WoOk tb pr ow fi) (hop : op pc < 26) (hnc : nc ≤ 2) (hk : ∀ i, i < 2 → kd i < 7) (hft : ∀ k f, tyv (some (fty pr fi ft k f))) (hsg : ∀ x g, sg x = some g → tyv (some g.2.2)) (hr : rv r h) (hs : SV s) (e : lookA tb pr ow fi ft sg op ag sz fr tt tg kd nc rs pc r h s = (0, s2)) : Ale pr s.1 s2.1 ∧ unch s s2 ∧ fine tb pr ow fi ft sg op ag sz fr tt tg kd nc rs s2.1 pc r h := by
  by_cases a : flt tb pr ow fi ft sg (op pc) (ag pc) sz fr tt tg kd nc rs pc r h = 0
  · obtain ⟨_, f5', f1', ht⟩ := flt0 a
    have hv := rv_act hop hr hr (f5_o f5') (f1_b f1') ht hft hsg
    cases h1 : catA pr fr tt tg kd r h pc nc 0 s with
    | mk b1 s1 =>
      cases b1 with
      | false => rw [lk_c a h1] at e; cases e
      | true =>
        cases h2 : nxtA pr (op pc) (ag pc) pc (actR pr fi ft sg r (op pc) (ag pc) r h) (h - tks sg (op pc) (ag pc) + pts (op pc)) s1 with
        | mk b2 s3 =>
          cases b2 with
          | false => rw [lk_n a h1 h2] at e; cases e
          | true =>
            rw [lk_0 a h1 h2] at e
            cases e
            have hs1 : SV s1 := by have := catA_SV hok.1 hr hk (fr := fr) (tt := tt) (tg := tg) (pc := pc) nc 0 s (by omega) hs; rw [h1] at this; exact this
            obtain ⟨c1, c2, c3⟩ := catA_fix hok hr hk nc 0 s s1 (by omega) hs h1
            obtain ⟨n1, n2, n3, n4⟩ := nxtA_fix hok hv hs1 h2
            exact ⟨c1.trans hok n1 hs1.1, c2.trans n2, a, fun i hi ha => (c3 i (by omega) (by omega) ha).up hok n1 hs1.1 (rv_ctr hr (hk i (by omega))).ob, n3, n4⟩
  · rw [lk_f rfl a] at e
    exact absurd (Prod.mk.inj e).1 a
/-- INSTRUCTIONS that aren't new are without FAULT -/
def allf (tb : Nat → Bool) (pr : Nat → Option Nat) (ow fi ft : Nat → Nat) (sg : Int32 → Option Sg) (op : Nat → Nat) (ag : Nat → Int32) (sz : Nat) (fr tt tg kd : Nat → Nat) (nc rs : Nat) (s : MF) : Prop := ∀ pc, pc < 24 → s.2 pc = false → ∀ r h, s.1 pc = some r → rv r h → fine tb pr ow fi ft sg op ag sz fr tt tg kd nc rs s.1 pc r h
theorem lfr_none {F : Nat → Bool} : ∀ n i, lfr F n i = none → ∀ j, i ≤ j → j < i + n → F j = false := by
  intro n
  induction n with
  | zero => intro i _ j h1 h2; omega
  | succ n ih =>
    intro i e j h1 h2
    simp only [lfr] at e
    by_cases hf : F i = true
    · rw [if_pos hf] at e; cases e
    · rw [if_neg hf] at e
      by_cases z : j = i
      · rw [z]; simpa using hf
      · exact ih (i + 1) e j (by omega) (by omega)
theorem verA_fix (hok : WoOk tb pr ow fi) (hop : ∀ j, j < 24 → op j < 26) (hnc : nc ≤ 2) (hk : ∀ i, i < 2 → kd i < 7) (hft : ∀ k f, tyv (some (fty pr fi ft k f))) (hsg : ∀ x g, sg x = some g → tyv (some g.2.2)) : ∀ n (s s' : MF), wgt s < n → SV s → allf tb pr ow fi ft sg op ag sz fr tt tg kd nc rs s → verA tb pr ow fi ft sg op ag sz fr tt tg kd nc rs n s = (none, s') → SV s' ∧ Ale pr s.1 s'.1 ∧ allf tb pr ow fi ft sg op ag sz fr tt tg kd nc rs s' ∧ ∀ q, q < 24 → s'.2 q = false := by
  intro n
  induction n with
  | zero => intro s s' h; exact absurd h (Nat.not_lt_zero _)
  | succ n ih =>
    intro s s' hw hs ha e
    cases hl : lfr s.2 24 0 with
    | none =>
      rw [ver_n hl] at e
      cases e
      exact ⟨hs, Ale.refl, ha, fun q hq => lfr_none 24 0 hl q (by omega) (by omega)⟩
    | some pc =>
      obtain ⟨_, hp, hfl⟩ := lfr_of 24 0 pc hl
      obtain ⟨r, hr⟩ : ∃ r, s.1 pc = some r := Option.ne_none_iff_exists'.mp (hs.2 pc hfl)
      obtain ⟨h, hv⟩ := hs.1 pc r hr
      cases hz : lookA tb pr ow fi ft sg op ag sz fr tt tg kd nc rs pc r h (s.1, va_up s.2 pc false) with
      | mk f s2 =>
        by_cases hf : f = 0
        · subst hf
          rw [ver_s hl hr hv hz] at e
          have hoff := hs.off pc
          have hw2 := lookA_w hok (hop pc (by omega)) hnc hk hft hsg hv hoff (op := op) (ag := ag) (sz := sz) (fr := fr) (tt := tt) (tg := tg) (rs := rs)
          rw [hz] at hw2
          dsimp only at hw2
          have hwo := off_w (by omega) hfl
          obtain ⟨l1, l2, l3⟩ := lookA_fix hok (hop pc (by omega)) hnc hk hft hsg hv hoff hz
          have ha2 : allf tb pr ow fi ft sg op ag sz fr tt tg kd nc rs s2 := by
            intro q hq hq2 r' h' hr' hv'
            obtain ⟨u1, u2, u3⟩ := l2 q hq2
            dsimp only at u1 u2 u3
            cases hsq : s.1 q with
            | none => rw [u2 hsq] at hr'; cases hr'
            | some r1 =>
              obtain ⟨r2, e2, q2⟩ := u3 r1 hsq
              rw [hr'] at e2
              cases e2
              obtain ⟨h1, hv1⟩ := hs.1 q r1 hsq
              have : h1 = h' := hv1.u ((q2 6 (by decide)).trans hv'.1)
              subst this
              by_cases z : q = pc
              · subst z
                rw [hr] at hsq
                cases hsq
                have := hv.u hv1.1
                subst this
                exact l3.e q2 hv hk hnc
              · rw [va_up_ne _ _ z] at u1
                exact ((ha q hq u1 r1 h1 hsq hv1).up hok l1 hs.1 hv1 (hop q hq) hk hnc hft hsg).e q2 hv1 hk hnc
          obtain ⟨i1, i2, i3, i4⟩ := ih s2 s' (by omega) hw2.2 ha2 e
          exact ⟨i1, l1.trans hok i2 hw2.2.1, i3, i4⟩
        · rw [ver_f hl hr hv hz hf] at e; cases e
theorem VRm_fix {d : MDt} {k : Nat} (hok : WoOk tb pr ow fi) (hd : MdOk d) (hk6 : k < 6) (hft : ∀ k f, tyv (some (fty pr fi ft k f))) (hsg : ∀ x g, sg x = some g → tyv (some g.2.2)) (e : (VRm tb pr ow fi ft sg d k).1 = none) : AV (VRm tb pr ow fi ft sg d k).2.1 ∧ Gle pr (VRm tb pr ow fi ft sg d k).2.1 0 (strt k d.1 d.2.1) 0 ∧ ∀ pc, pc < 24 → ∀ r h, (VRm tb pr ow fi ft sg d k).2.1 pc = some r → rv r h → fine tb pr ow fi ft sg d.2.2.2.1 d.2.2.2.2.1 d.2.2.2.2.2.1 d.2.2.2.2.2.2.1 d.2.2.2.2.2.2.2.1 d.2.2.2.2.2.2.2.2.1 d.2.2.2.2.2.2.2.2.2.1 d.2.2.2.2.2.2.2.2.2.2 d.2.2.1 (VRm tb pr ow fi ft sg d k).2.1 pc r h := by
  obtain ⟨d1, d2, d3, d4, d5, d6, d7, d8⟩ := hd
  have hv0 := rv_strt hk6 d1 d2
  unfold VRm vmA at e ⊢
  by_cases hy : tyAll tb pr ow fi ft k d.1 d.2.1 d.2.2.1 = true
  · rw [if_pos hy] at e ⊢
    have hav : AV (va_up s00.1 0 (some (strt k d.1 d.2.1))) := fun q r z => by
      by_cases e : q = 0
      · rw [e, va_up_self] at z; cases z; exact ⟨0, hv0⟩
      · rw [va_up_ne _ _ e] at z; cases z
    have hwl := wgt_le (s := (va_up s00.1 0 (some (strt k d.1 d.2.1)), va_up s00.2 0 true)) hav
    have hs0 : SV (va_up s00.1 0 (some (strt k d.1 d.2.1)), va_up s00.2 0 true) := SV.st hav (fun _ z => by cases z)
    cases hz : verA tb pr ow fi ft sg d.2.2.2.1 d.2.2.2.2.1 d.2.2.2.2.2.1 d.2.2.2.2.2.2.1 d.2.2.2.2.2.2.2.1 d.2.2.2.2.2.2.2.2.1 d.2.2.2.2.2.2.2.2.2.1 d.2.2.2.2.2.2.2.2.2.2 d.2.2.1 1000000 (va_up s00.1 0 (some (strt k d.1 d.2.1)), va_up s00.2 0 true) with
    | mk a s' =>
      rw [hz] at e
      dsimp only at e ⊢
      subst e
      obtain ⟨i1, i2, i3, i4⟩ := verA_fix hok d4 d6 (fun i hi => (d7 i hi).2.2.2) hft hsg 1000000 _ s' (by omega) hs0 (fun pc _ hpc r h hr _ => by
        dsimp only at hpc hr
        by_cases z : pc = 0
        · rw [z, va_up_self] at hpc; cases hpc
        · rw [va_up_ne _ _ z] at hr; cases hr) hz
      exact ⟨i1.1, i2 0 _ 0 (show va_up s00.1 0 (some (strt k d.1 d.2.1)) 0 = _ from va_up_self _ _ _) hv0, fun pc hpc r h hr hv => i3 pc hpc (i4 pc hpc) r h hr hv⟩
  · rw [if_neg hy] at e; cases e
end WFx
