/-! the law's wrappers (wip/gen/p97zu.py) -/
section JLw
variable {l : Launch} {G : jl_G} {σ : jl_S}
variable {U : Un} {c : Nat} {v : Int32} {f : Nat → Int64} {fs : List Value}
theorem jl_ofHE {M : jl_M} {P : jl_O → jl_S → Prop} {as : List Value} {hh : List (Nat × Nat × Nat × Nat)} (he : M.2.2.2.2.2 = .codeWith M.1 M.2.1 M.2.2.1 M.2.2.2.1 hh) (hpl : plainName M.1.cls = true) (hl : l.stackTraces = false) (hc : ∀ v ∈ as, v.category = 1) (hn : as.length ≤ M.2.2.1) (k : jl_E l G M (0, 0) 0 (as.map some ++ List.replicate (M.2.2.1 - as.length) none) [] σ P) : jl_mE l G M as σ P := by
  obtain ⟨o, σ', hp, k⟩ := k
  exact ⟨o, σ', hp, jl_ofH he hpl hl hc hn k⟩
theorem vp_in0 : vp_in (nI 0) 1 := vp_in_nI (by decide) (by decide)
theorem RC.s53 {d : jl_C} (hU : UI U) (h : RC σ U) : RC (σ.set 53 d) U := by
  obtain ⟨mt, bf, gv, jn, MP, FH, aw, h1, ⟨⟨w1, w2, w3, w4, w5, w6, w7⟩, v2, v3, v4, v5, v6, v7, v8⟩, h3, h4, h5, h6, h7, h8⟩ := h
  have g : ∀ {j : Nat} {c : jl_C}, j < 22 → σ[j]? = some c → (σ.set 53 d)[j]? = some c := fun h1 e => jl_sn (by omega) e
  have hM : ∀ m a, mt m = some a → MeD (σ.set 53 d) a (U.D m) (MP m) (FH m) := fun m a e => (v4 m a e).fr9 (fun i h1 h2 => List.getElem?_set_ne (by have := (h7.1 m a e).1; omega))
  refine ⟨mt, bf, gv, jn, MP, FH, aw, g (by decide) h1, ⟨⟨g (by decide) w1, g (by decide) w2, g (by decide) w3, g (by decide) w4, g (by decide) w5, g (by decide) w6, g (by decide) w7⟩, g (by decide) v2, SgC_of hU h6 hM, hM, g (by decide) v5, g (by decide) v6, g (by decide) v7, g (by decide) v8⟩, h3, h4, h5.fr (fun i h1 h2 => List.getElem?_set_ne (by omega)), h6, ?_, h8⟩
  rw [List.length_set]; exact h7
theorem d_La_define_0 : decode m_La_define.2.1 0 = .ok (.aload_n 3, 1) := by decide +kernel
theorem d_La_define_1 : decode m_La_define.2.1 1 = .ok (.iconst 0, 1) := by decide +kernel
theorem d_La_define_2 : decode m_La_define.2.1 2 = .ok (.aload_n 0, 1) := by decide +kernel
theorem d_La_define_3 : decode m_La_define.2.1 3 = .ok (.iload_n 1, 1) := by decide +kernel
theorem d_La_define_4 : decode m_La_define.2.1 4 = .ok (.iload_n 2, 1) := by decide +kernel
theorem k_La_define_7 : jl_cv m_La_define m_JC_define 7 2 = true := by decide +kernel
theorem d_La_define_5 : decode m_La_define.2.1 5 = .ok (.invokevirtual 7, 3) := by decide +kernel
theorem d_La_define_8 : decode m_La_define.2.1 8 = .ok (.i2l, 1) := by decide +kernel
theorem d_La_define_9 : decode m_La_define.2.1 9 = .ok (.lastore, 1) := by decide +kernel
theorem d_La_define_10 : decode m_La_define.2.1 10 = .ok (.goto 11, 3) := by decide +kernel
theorem d_La_define_21 : decode m_La_define.2.1 21 = .ok (.iconst 0, 1) := by decide +kernel
theorem d_La_define_22 : decode m_La_define.2.1 22 = .ok (.ireturn, 1) := by decide +kernel
theorem d_La_define_13 : decode m_La_define.2.1 13 = .ok (.astore 4, 2) := by decide +kernel
theorem d_La_define_15 : decode m_La_define.2.1 15 = .ok (.iconst 1, 1) := by decide +kernel
theorem d_La_define_16 : decode m_La_define.2.1 16 = .ok (.ireturn, 1) := by decide +kernel
theorem d_La_define_17 : decode m_La_define.2.1 17 = .ok (.astore 4, 2) := by decide +kernel
theorem d_La_define_19 : decode m_La_define.2.1 19 = .ok (.iconst 2, 1) := by decide +kernel
theorem d_La_define_20 : decode m_La_define.2.1 20 = .ok (.ireturn, 1) := by decide +kernel
theorem la_define (hl : l.stackTraces = false) {P : jl_O → jl_S → Prop} {x0 x1 : Int32} (h0 : σ[0]? = some (.inr (6, fs))) (h53 : σ[53]? = some (.inl (2, 1, .inr (.inl f)))) (hU : UI U) (hc : c ≤ [xA, xS].length) (hm : jl_mE l G m_JC_define (.ref 0 :: [.int x0, .int x1]) σ (fun o σ' => o = oc [xA, xS] c v ∧ RC σ' U ∧ FrC σ σ')) (hT : ∀ (g : Nat → Int64) (σ' : jl_S), RC σ' U → (∀ i, 22 ≤ i → i < 53 → σ'[i]? = σ[i]?) → σ'[53]? = some (.inl (2, 1, .inr (.inl g))) → (c = 0 → g 0 = v.toInt64) → P (.inl (some (.int (nI c)))) σ') : jl_mE l G m_La_define [.ref 0, .int (x0), .int (x1), .ref 53] σ P := by
  obtain ⟨o1, σ1, ⟨ho, hrc, hfc⟩, hm⟩ := hm
  have h53' : σ1[53]? = some (.inl (2, 1, .inr (.inl f))) := (hfc.2 53 (by decide) (by decide)).trans h53
  refine jl_ofHE (as := [.ref 0, .int (x0), .int (x1), .ref 53]) rfl (by decide) hl (jl_cc rfl (jl_cc rfl (jl_cc rfl (jl_cc rfl jl_ca)))) (Nat.le_of_ble_eq_true rfl) ?_
  show jl_E l G m_La_define (0, 0) 0 [some (.ref 0), some (.int (x0)), some (.int (x1)), some (.ref 53), none] [] (σ) P
  refine er_aload_n d_La_define_0 rfl ?_
  refine er_iconst ((nI (0))) d_La_define_1 (by decide) ?_
  refine er_aload_n d_La_define_2 rfl ?_
  refine er_iload_n d_La_define_3 rfl ?_
  refine er_iload_n d_La_define_4 rfl ?_
  match c, hc with
  | 0, _ =>
    have ho : o1 = .inl (some (.int v)) := ho
    subst ho
    refine er_callV (As := [.int (x0), .int (x1)]) d_La_define_5 k_La_define_7 h0 rfl rfl rfl (Nat.le_of_ble_eq_true rfl) (by decide) (by decide) hm ?_
    show jl_E l G m_La_define (3, 18) 8 [some (.ref 0), some (.int (x0)), some (.int (x1)), some (.ref 53), none] [.int v, .int (nI 0), .ref 53] σ1 P
    refine er_i2l d_La_define_8 ?_
    refine er_last d_La_define_9 h53' vp_in0 ?_
    refine er_goto 21 d_La_define_10 (by decide) ?_
    refine er_iconst (nI 0) d_La_define_21 (by decide) ?_
    exact er_iret d_La_define_22 rfl (hT _ _ (hrc.s53 hU) (fun i h1 h2 => (List.getElem?_set_ne (by omega)).trans (hfc.2 i h1 (by omega))) (jl_ss h53') (fun _ => rfl)) (by decide) (by decide)
  | 1, _ =>
    have ho : o1 = .inr xA := ho
    subst ho
    refine ⟨_, _, hT f σ1 hrc (fun i h1 h2 => hfc.2 i h1 (by omega)) h53' (fun z => by cases z), ?_⟩
    have hps : ∀ z ∈ ([] : List ExceptionTableEntry), z.catchType ≠ 0 ∧ ∃ nm, Cond.classLink m_La_define.1.cls z.catchType nm ∈ jl_gw ∧ nm ∈ jl_xs ∧ xA ≠ nm := fun z hz => by cases hz
    exact jr_callVC (As := [.int (x0), .int (x1)]) d_La_define_5 k_La_define_7 h0 rfl rfl rfl (Nat.le_of_ble_eq_true rfl) (by decide) (by decide) hm [] ⟨0, 10, 13, 13⟩ [⟨0, 10, 17, 15⟩] rfl (by decide) hps (by decide) (by decide) (by decide +kernel) (fun q => jr_astoreR d_La_define_13 (by decide) (jr_iconst (nI 1) d_La_define_15 (by decide) (jr_iretE d_La_define_16 rfl rfl rfl (by decide) (by decide))))
  | 2, _ =>
    have ho : o1 = .inr xS := ho
    subst ho
    refine ⟨_, _, hT f σ1 hrc (fun i h1 h2 => hfc.2 i h1 (by omega)) h53' (fun z => by cases z), ?_⟩
    have hps : ∀ z ∈ ([⟨0, 10, 13, 13⟩] : List ExceptionTableEntry), z.catchType ≠ 0 ∧ ∃ nm, Cond.classLink m_La_define.1.cls z.catchType nm ∈ jl_gw ∧ nm ∈ jl_xs ∧ xS ≠ nm := fun z hz => by
        rcases List.mem_cons.mp hz with hz | hz
        · subst hz; exact ⟨by decide, xA, by decide +kernel, by decide, by decide⟩
        cases hz
    exact jr_callVC (As := [.int (x0), .int (x1)]) d_La_define_5 k_La_define_7 h0 rfl rfl rfl (Nat.le_of_ble_eq_true rfl) (by decide) (by decide) hm [⟨0, 10, 13, 13⟩] ⟨0, 10, 17, 15⟩ [] rfl (by decide) hps (by decide) (by decide) (by decide +kernel) (fun q => jr_astoreR d_La_define_17 (by decide) (jr_iconst (nI 2) d_La_define_19 (by decide) (jr_iretE d_La_define_20 rfl rfl rfl (by decide) (by decide))))
  | c + 3, h => exact absurd h (by show ¬ c + 3 ≤ 2; omega)
theorem d_La_field_0 : decode m_La_field.2.1 0 = .ok (.aload_n 3, 1) := by decide +kernel
theorem d_La_field_1 : decode m_La_field.2.1 1 = .ok (.iconst 0, 1) := by decide +kernel
theorem d_La_field_2 : decode m_La_field.2.1 2 = .ok (.aload_n 0, 1) := by decide +kernel
theorem d_La_field_3 : decode m_La_field.2.1 3 = .ok (.iload_n 1, 1) := by decide +kernel
theorem d_La_field_4 : decode m_La_field.2.1 4 = .ok (.iload_n 2, 1) := by decide +kernel
theorem k_La_field_17 : jl_cv m_La_field m_JC_field 17 2 = true := by decide +kernel
theorem d_La_field_5 : decode m_La_field.2.1 5 = .ok (.invokevirtual 17, 3) := by decide +kernel
theorem d_La_field_8 : decode m_La_field.2.1 8 = .ok (.i2l, 1) := by decide +kernel
theorem d_La_field_9 : decode m_La_field.2.1 9 = .ok (.lastore, 1) := by decide +kernel
theorem d_La_field_10 : decode m_La_field.2.1 10 = .ok (.goto 15, 3) := by decide +kernel
theorem d_La_field_25 : decode m_La_field.2.1 25 = .ok (.iconst 0, 1) := by decide +kernel
theorem d_La_field_26 : decode m_La_field.2.1 26 = .ok (.ireturn, 1) := by decide +kernel
theorem d_La_field_13 : decode m_La_field.2.1 13 = .ok (.astore 4, 2) := by decide +kernel
theorem d_La_field_15 : decode m_La_field.2.1 15 = .ok (.iconst 1, 1) := by decide +kernel
theorem d_La_field_16 : decode m_La_field.2.1 16 = .ok (.ireturn, 1) := by decide +kernel
theorem d_La_field_17 : decode m_La_field.2.1 17 = .ok (.astore 4, 2) := by decide +kernel
theorem d_La_field_19 : decode m_La_field.2.1 19 = .ok (.iconst 2, 1) := by decide +kernel
theorem d_La_field_20 : decode m_La_field.2.1 20 = .ok (.ireturn, 1) := by decide +kernel
theorem d_La_field_21 : decode m_La_field.2.1 21 = .ok (.astore 4, 2) := by decide +kernel
theorem d_La_field_23 : decode m_La_field.2.1 23 = .ok (.iconst 3, 1) := by decide +kernel
theorem d_La_field_24 : decode m_La_field.2.1 24 = .ok (.ireturn, 1) := by decide +kernel
theorem la_field (hl : l.stackTraces = false) {P : jl_O → jl_S → Prop} {x0 x1 : Int32} (h0 : σ[0]? = some (.inr (6, fs))) (h53 : σ[53]? = some (.inl (2, 1, .inr (.inl f)))) (hU : UI U) (hc : c ≤ [xA, xN, xS].length) (hm : jl_mE l G m_JC_field (.ref 0 :: [.int x0, .int x1]) σ (fun o σ' => o = oc [xA, xN, xS] c v ∧ RC σ' U ∧ FrC σ σ')) (hT : ∀ (g : Nat → Int64) (σ' : jl_S), RC σ' U → (∀ i, 22 ≤ i → i < 53 → σ'[i]? = σ[i]?) → σ'[53]? = some (.inl (2, 1, .inr (.inl g))) → (c = 0 → g 0 = v.toInt64) → P (.inl (some (.int (nI c)))) σ') : jl_mE l G m_La_field [.ref 0, .int (x0), .int (x1), .ref 53] σ P := by
  obtain ⟨o1, σ1, ⟨ho, hrc, hfc⟩, hm⟩ := hm
  have h53' : σ1[53]? = some (.inl (2, 1, .inr (.inl f))) := (hfc.2 53 (by decide) (by decide)).trans h53
  refine jl_ofHE (as := [.ref 0, .int (x0), .int (x1), .ref 53]) rfl (by decide) hl (jl_cc rfl (jl_cc rfl (jl_cc rfl (jl_cc rfl jl_ca)))) (Nat.le_of_ble_eq_true rfl) ?_
  show jl_E l G m_La_field (0, 0) 0 [some (.ref 0), some (.int (x0)), some (.int (x1)), some (.ref 53), none] [] (σ) P
  refine er_aload_n d_La_field_0 rfl ?_
  refine er_iconst ((nI (0))) d_La_field_1 (by decide) ?_
  refine er_aload_n d_La_field_2 rfl ?_
  refine er_iload_n d_La_field_3 rfl ?_
  refine er_iload_n d_La_field_4 rfl ?_
  match c, hc with
  | 0, _ =>
    have ho : o1 = .inl (some (.int v)) := ho
    subst ho
    refine er_callV (As := [.int (x0), .int (x1)]) d_La_field_5 k_La_field_17 h0 rfl rfl rfl (Nat.le_of_ble_eq_true rfl) (by decide) (by decide) hm ?_
    show jl_E l G m_La_field (4, 24) 8 [some (.ref 0), some (.int (x0)), some (.int (x1)), some (.ref 53), none] [.int v, .int (nI 0), .ref 53] σ1 P
    refine er_i2l d_La_field_8 ?_
    refine er_last d_La_field_9 h53' vp_in0 ?_
    refine er_goto 25 d_La_field_10 (by decide) ?_
    refine er_iconst (nI 0) d_La_field_25 (by decide) ?_
    exact er_iret d_La_field_26 rfl (hT _ _ (hrc.s53 hU) (fun i h1 h2 => (List.getElem?_set_ne (by omega)).trans (hfc.2 i h1 (by omega))) (jl_ss h53') (fun _ => rfl)) (by decide) (by decide)
  | 1, _ =>
    have ho : o1 = .inr xA := ho
    subst ho
    refine ⟨_, _, hT f σ1 hrc (fun i h1 h2 => hfc.2 i h1 (by omega)) h53' (fun z => by cases z), ?_⟩
    have hps : ∀ z ∈ ([] : List ExceptionTableEntry), z.catchType ≠ 0 ∧ ∃ nm, Cond.classLink m_La_field.1.cls z.catchType nm ∈ jl_gw ∧ nm ∈ jl_xs ∧ xA ≠ nm := fun z hz => by cases hz
    exact jr_callVC (As := [.int (x0), .int (x1)]) d_La_field_5 k_La_field_17 h0 rfl rfl rfl (Nat.le_of_ble_eq_true rfl) (by decide) (by decide) hm [] ⟨0, 10, 13, 13⟩ [⟨0, 10, 17, 20⟩, ⟨0, 10, 21, 15⟩] rfl (by decide) hps (by decide) (by decide) (by decide +kernel) (fun q => jr_astoreR d_La_field_13 (by decide) (jr_iconst (nI 1) d_La_field_15 (by decide) (jr_iretE d_La_field_16 rfl rfl rfl (by decide) (by decide))))
  | 2, _ =>
    have ho : o1 = .inr xN := ho
    subst ho
    refine ⟨_, _, hT f σ1 hrc (fun i h1 h2 => hfc.2 i h1 (by omega)) h53' (fun z => by cases z), ?_⟩
    have hps : ∀ z ∈ ([⟨0, 10, 13, 13⟩] : List ExceptionTableEntry), z.catchType ≠ 0 ∧ ∃ nm, Cond.classLink m_La_field.1.cls z.catchType nm ∈ jl_gw ∧ nm ∈ jl_xs ∧ xN ≠ nm := fun z hz => by
        rcases List.mem_cons.mp hz with hz | hz
        · subst hz; exact ⟨by decide, xA, by decide +kernel, by decide, by decide⟩
        cases hz
    exact jr_callVC (As := [.int (x0), .int (x1)]) d_La_field_5 k_La_field_17 h0 rfl rfl rfl (Nat.le_of_ble_eq_true rfl) (by decide) (by decide) hm [⟨0, 10, 13, 13⟩] ⟨0, 10, 17, 20⟩ [⟨0, 10, 21, 15⟩] rfl (by decide) hps (by decide) (by decide) (by decide +kernel) (fun q => jr_astoreR d_La_field_17 (by decide) (jr_iconst (nI 2) d_La_field_19 (by decide) (jr_iretE d_La_field_20 rfl rfl rfl (by decide) (by decide))))
  | 3, _ =>
    have ho : o1 = .inr xS := ho
    subst ho
    refine ⟨_, _, hT f σ1 hrc (fun i h1 h2 => hfc.2 i h1 (by omega)) h53' (fun z => by cases z), ?_⟩
    have hps : ∀ z ∈ ([⟨0, 10, 13, 13⟩, ⟨0, 10, 17, 20⟩] : List ExceptionTableEntry), z.catchType ≠ 0 ∧ ∃ nm, Cond.classLink m_La_field.1.cls z.catchType nm ∈ jl_gw ∧ nm ∈ jl_xs ∧ xS ≠ nm := fun z hz => by
        rcases List.mem_cons.mp hz with hz | hz
        · subst hz; exact ⟨by decide, xA, by decide +kernel, by decide, by decide⟩
        rcases List.mem_cons.mp hz with hz | hz
        · subst hz; exact ⟨by decide, xN, by decide +kernel, by decide, by decide⟩
        cases hz
    exact jr_callVC (As := [.int (x0), .int (x1)]) d_La_field_5 k_La_field_17 h0 rfl rfl rfl (Nat.le_of_ble_eq_true rfl) (by decide) (by decide) hm [⟨0, 10, 13, 13⟩, ⟨0, 10, 17, 20⟩] ⟨0, 10, 21, 15⟩ [] rfl (by decide) hps (by decide) (by decide) (by decide +kernel) (fun q => jr_astoreR d_La_field_21 (by decide) (jr_iconst (nI 3) d_La_field_23 (by decide) (jr_iretE d_La_field_24 rfl rfl rfl (by decide) (by decide))))
  | c + 4, h => exact absurd h (by show ¬ c + 4 ≤ 3; omega)
theorem d_La_method_0 : decode m_La_method.2.1 0 = .ok (.aload 6, 2) := by decide +kernel
theorem d_La_method_2 : decode m_La_method.2.1 2 = .ok (.iconst 0, 1) := by decide +kernel
theorem d_La_method_3 : decode m_La_method.2.1 3 = .ok (.aload_n 0, 1) := by decide +kernel
theorem d_La_method_4 : decode m_La_method.2.1 4 = .ok (.iload_n 1, 1) := by decide +kernel
theorem d_La_method_5 : decode m_La_method.2.1 5 = .ok (.iload_n 2, 1) := by decide +kernel
theorem d_La_method_6 : decode m_La_method.2.1 6 = .ok (.iload_n 3, 1) := by decide +kernel
theorem d_La_method_7 : decode m_La_method.2.1 7 = .ok (.iload 4, 2) := by decide +kernel
theorem d_La_method_9 : decode m_La_method.2.1 9 = .ok (.iload 5, 2) := by decide +kernel
theorem k_La_method_22 : jl_cv m_La_method m_JC_method 22 5 = true := by decide +kernel
theorem d_La_method_11 : decode m_La_method.2.1 11 = .ok (.invokevirtual 22, 3) := by decide +kernel
theorem d_La_method_14 : decode m_La_method.2.1 14 = .ok (.i2l, 1) := by decide +kernel
theorem d_La_method_15 : decode m_La_method.2.1 15 = .ok (.lastore, 1) := by decide +kernel
theorem d_La_method_16 : decode m_La_method.2.1 16 = .ok (.goto 15, 3) := by decide +kernel
theorem d_La_method_31 : decode m_La_method.2.1 31 = .ok (.iconst 0, 1) := by decide +kernel
theorem d_La_method_32 : decode m_La_method.2.1 32 = .ok (.ireturn, 1) := by decide +kernel
theorem d_La_method_19 : decode m_La_method.2.1 19 = .ok (.astore 7, 2) := by decide +kernel
theorem d_La_method_21 : decode m_La_method.2.1 21 = .ok (.iconst 1, 1) := by decide +kernel
theorem d_La_method_22 : decode m_La_method.2.1 22 = .ok (.ireturn, 1) := by decide +kernel
theorem d_La_method_23 : decode m_La_method.2.1 23 = .ok (.astore 7, 2) := by decide +kernel
theorem d_La_method_25 : decode m_La_method.2.1 25 = .ok (.iconst 2, 1) := by decide +kernel
theorem d_La_method_26 : decode m_La_method.2.1 26 = .ok (.ireturn, 1) := by decide +kernel
theorem d_La_method_27 : decode m_La_method.2.1 27 = .ok (.astore 7, 2) := by decide +kernel
theorem d_La_method_29 : decode m_La_method.2.1 29 = .ok (.iconst 3, 1) := by decide +kernel
theorem d_La_method_30 : decode m_La_method.2.1 30 = .ok (.ireturn, 1) := by decide +kernel
theorem la_method (hl : l.stackTraces = false) {P : jl_O → jl_S → Prop} {x0 x1 x2 x3 x4 : Int32} (h0 : σ[0]? = some (.inr (6, fs))) (h53 : σ[53]? = some (.inl (2, 1, .inr (.inl f)))) (hU : UI U) (hc : c ≤ [xA, xN, xS].length) (hm : jl_mE l G m_JC_method (.ref 0 :: [.int x0, .int x1, .int x2, .int x3, .int x4]) σ (fun o σ' => o = oc [xA, xN, xS] c v ∧ RC σ' U ∧ FrC σ σ')) (hT : ∀ (g : Nat → Int64) (σ' : jl_S), RC σ' U → (∀ i, 22 ≤ i → i < 53 → σ'[i]? = σ[i]?) → σ'[53]? = some (.inl (2, 1, .inr (.inl g))) → (c = 0 → g 0 = v.toInt64) → P (.inl (some (.int (nI c)))) σ') : jl_mE l G m_La_method [.ref 0, .int (x0), .int (x1), .int (x2), .int (x3), .int (x4), .ref 53] σ P := by
  obtain ⟨o1, σ1, ⟨ho, hrc, hfc⟩, hm⟩ := hm
  have h53' : σ1[53]? = some (.inl (2, 1, .inr (.inl f))) := (hfc.2 53 (by decide) (by decide)).trans h53
  refine jl_ofHE (as := [.ref 0, .int (x0), .int (x1), .int (x2), .int (x3), .int (x4), .ref 53]) rfl (by decide) hl (jl_cc rfl (jl_cc rfl (jl_cc rfl (jl_cc rfl (jl_cc rfl (jl_cc rfl (jl_cc rfl jl_ca))))))) (Nat.le_of_ble_eq_true rfl) ?_
  show jl_E l G m_La_method (0, 0) 0 [some (.ref 0), some (.int (x0)), some (.int (x1)), some (.int (x2)), some (.int (x3)), some (.int (x4)), some (.ref 53), none] [] (σ) P
  refine er_aload d_La_method_0 rfl ?_
  refine er_iconst ((nI (0))) d_La_method_2 (by decide) ?_
  refine er_aload_n d_La_method_3 rfl ?_
  refine er_iload_n d_La_method_4 rfl ?_
  refine er_iload_n d_La_method_5 rfl ?_
  refine er_iload_n d_La_method_6 rfl ?_
  refine er_iload d_La_method_7 rfl ?_
  refine er_iload d_La_method_9 rfl ?_
  match c, hc with
  | 0, _ =>
    have ho : o1 = .inl (some (.int v)) := ho
    subst ho
    refine er_callV (As := [.int (x0), .int (x1), .int (x2), .int (x3), .int (x4)]) d_La_method_11 k_La_method_22 h0 rfl rfl rfl (Nat.le_of_ble_eq_true rfl) (by decide) (by decide) hm ?_
    show jl_E l G m_La_method (15, 417) 14 [some (.ref 0), some (.int (x0)), some (.int (x1)), some (.int (x2)), some (.int (x3)), some (.int (x4)), some (.ref 53), none] [.int v, .int (nI 0), .ref 53] σ1 P
    refine er_i2l d_La_method_14 ?_
    refine er_last d_La_method_15 h53' vp_in0 ?_
    refine er_goto 31 d_La_method_16 (by decide) ?_
    refine er_iconst (nI 0) d_La_method_31 (by decide) ?_
    exact er_iret d_La_method_32 rfl (hT _ _ (hrc.s53 hU) (fun i h1 h2 => (List.getElem?_set_ne (by omega)).trans (hfc.2 i h1 (by omega))) (jl_ss h53') (fun _ => rfl)) (by decide) (by decide)
  | 1, _ =>
    have ho : o1 = .inr xA := ho
    subst ho
    refine ⟨_, _, hT f σ1 hrc (fun i h1 h2 => hfc.2 i h1 (by omega)) h53' (fun z => by cases z), ?_⟩
    have hps : ∀ z ∈ ([] : List ExceptionTableEntry), z.catchType ≠ 0 ∧ ∃ nm, Cond.classLink m_La_method.1.cls z.catchType nm ∈ jl_gw ∧ nm ∈ jl_xs ∧ xA ≠ nm := fun z hz => by cases hz
    exact jr_callVC (As := [.int (x0), .int (x1), .int (x2), .int (x3), .int (x4)]) d_La_method_11 k_La_method_22 h0 rfl rfl rfl (Nat.le_of_ble_eq_true rfl) (by decide) (by decide) hm [] ⟨0, 16, 19, 13⟩ [⟨0, 16, 23, 20⟩, ⟨0, 16, 27, 15⟩] rfl (by decide) hps (by decide) (by decide) (by decide +kernel) (fun q => jr_astoreR d_La_method_19 (by decide) (jr_iconst (nI 1) d_La_method_21 (by decide) (jr_iretE d_La_method_22 rfl rfl rfl (by decide) (by decide))))
  | 2, _ =>
    have ho : o1 = .inr xN := ho
    subst ho
    refine ⟨_, _, hT f σ1 hrc (fun i h1 h2 => hfc.2 i h1 (by omega)) h53' (fun z => by cases z), ?_⟩
    have hps : ∀ z ∈ ([⟨0, 16, 19, 13⟩] : List ExceptionTableEntry), z.catchType ≠ 0 ∧ ∃ nm, Cond.classLink m_La_method.1.cls z.catchType nm ∈ jl_gw ∧ nm ∈ jl_xs ∧ xN ≠ nm := fun z hz => by
        rcases List.mem_cons.mp hz with hz | hz
        · subst hz; exact ⟨by decide, xA, by decide +kernel, by decide, by decide⟩
        cases hz
    exact jr_callVC (As := [.int (x0), .int (x1), .int (x2), .int (x3), .int (x4)]) d_La_method_11 k_La_method_22 h0 rfl rfl rfl (Nat.le_of_ble_eq_true rfl) (by decide) (by decide) hm [⟨0, 16, 19, 13⟩] ⟨0, 16, 23, 20⟩ [⟨0, 16, 27, 15⟩] rfl (by decide) hps (by decide) (by decide) (by decide +kernel) (fun q => jr_astoreR d_La_method_23 (by decide) (jr_iconst (nI 2) d_La_method_25 (by decide) (jr_iretE d_La_method_26 rfl rfl rfl (by decide) (by decide))))
  | 3, _ =>
    have ho : o1 = .inr xS := ho
    subst ho
    refine ⟨_, _, hT f σ1 hrc (fun i h1 h2 => hfc.2 i h1 (by omega)) h53' (fun z => by cases z), ?_⟩
    have hps : ∀ z ∈ ([⟨0, 16, 19, 13⟩, ⟨0, 16, 23, 20⟩] : List ExceptionTableEntry), z.catchType ≠ 0 ∧ ∃ nm, Cond.classLink m_La_method.1.cls z.catchType nm ∈ jl_gw ∧ nm ∈ jl_xs ∧ xS ≠ nm := fun z hz => by
        rcases List.mem_cons.mp hz with hz | hz
        · subst hz; exact ⟨by decide, xA, by decide +kernel, by decide, by decide⟩
        rcases List.mem_cons.mp hz with hz | hz
        · subst hz; exact ⟨by decide, xN, by decide +kernel, by decide, by decide⟩
        cases hz
    exact jr_callVC (As := [.int (x0), .int (x1), .int (x2), .int (x3), .int (x4)]) d_La_method_11 k_La_method_22 h0 rfl rfl rfl (Nat.le_of_ble_eq_true rfl) (by decide) (by decide) hm [⟨0, 16, 19, 13⟩, ⟨0, 16, 23, 20⟩] ⟨0, 16, 27, 15⟩ [] rfl (by decide) hps (by decide) (by decide) (by decide +kernel) (fun q => jr_astoreR d_La_method_27 (by decide) (jr_iconst (nI 3) d_La_method_29 (by decide) (jr_iretE d_La_method_30 rfl rfl rfl (by decide) (by decide))))
  | c + 4, h => exact absurd h (by show ¬ c + 4 ≤ 3; omega)
theorem d_La_code_0 : decode m_La_code.2.1 0 = .ok (.aload 5, 2) := by decide +kernel
theorem d_La_code_2 : decode m_La_code.2.1 2 = .ok (.iconst 0, 1) := by decide +kernel
theorem d_La_code_3 : decode m_La_code.2.1 3 = .ok (.aload_n 0, 1) := by decide +kernel
theorem d_La_code_4 : decode m_La_code.2.1 4 = .ok (.iload_n 1, 1) := by decide +kernel
theorem d_La_code_5 : decode m_La_code.2.1 5 = .ok (.iload_n 2, 1) := by decide +kernel
theorem d_La_code_6 : decode m_La_code.2.1 6 = .ok (.iload_n 3, 1) := by decide +kernel
theorem d_La_code_7 : decode m_La_code.2.1 7 = .ok (.iload 4, 2) := by decide +kernel
theorem k_La_code_26 : jl_cv m_La_code m_JC_code 26 4 = true := by decide +kernel
theorem d_La_code_9 : decode m_La_code.2.1 9 = .ok (.invokevirtual 26, 3) := by decide +kernel
theorem d_La_code_12 : decode m_La_code.2.1 12 = .ok (.i2l, 1) := by decide +kernel
theorem d_La_code_13 : decode m_La_code.2.1 13 = .ok (.lastore, 1) := by decide +kernel
theorem d_La_code_14 : decode m_La_code.2.1 14 = .ok (.goto 15, 3) := by decide +kernel
theorem d_La_code_29 : decode m_La_code.2.1 29 = .ok (.iconst 0, 1) := by decide +kernel
theorem d_La_code_30 : decode m_La_code.2.1 30 = .ok (.ireturn, 1) := by decide +kernel
theorem d_La_code_17 : decode m_La_code.2.1 17 = .ok (.astore 6, 2) := by decide +kernel
theorem d_La_code_19 : decode m_La_code.2.1 19 = .ok (.iconst 1, 1) := by decide +kernel
theorem d_La_code_20 : decode m_La_code.2.1 20 = .ok (.ireturn, 1) := by decide +kernel
theorem d_La_code_21 : decode m_La_code.2.1 21 = .ok (.astore 6, 2) := by decide +kernel
theorem d_La_code_23 : decode m_La_code.2.1 23 = .ok (.iconst 2, 1) := by decide +kernel
theorem d_La_code_24 : decode m_La_code.2.1 24 = .ok (.ireturn, 1) := by decide +kernel
theorem d_La_code_25 : decode m_La_code.2.1 25 = .ok (.astore 6, 2) := by decide +kernel
theorem d_La_code_27 : decode m_La_code.2.1 27 = .ok (.iconst 3, 1) := by decide +kernel
theorem d_La_code_28 : decode m_La_code.2.1 28 = .ok (.ireturn, 1) := by decide +kernel
theorem la_code (hl : l.stackTraces = false) {P : jl_O → jl_S → Prop} {x0 x1 x2 x3 : Int32} (h0 : σ[0]? = some (.inr (6, fs))) (h53 : σ[53]? = some (.inl (2, 1, .inr (.inl f)))) (hU : UI U) (hc : c ≤ [xA, xN, xS].length) (hm : jl_mE l G m_JC_code (.ref 0 :: [.int x0, .int x1, .int x2, .int x3]) σ (fun o σ' => o = oc [xA, xN, xS] c v ∧ RC σ' U ∧ FrC σ σ')) (hT : ∀ (g : Nat → Int64) (σ' : jl_S), RC σ' U → (∀ i, 22 ≤ i → i < 53 → σ'[i]? = σ[i]?) → σ'[53]? = some (.inl (2, 1, .inr (.inl g))) → (c = 0 → g 0 = v.toInt64) → P (.inl (some (.int (nI c)))) σ') : jl_mE l G m_La_code [.ref 0, .int (x0), .int (x1), .int (x2), .int (x3), .ref 53] σ P := by
  obtain ⟨o1, σ1, ⟨ho, hrc, hfc⟩, hm⟩ := hm
  have h53' : σ1[53]? = some (.inl (2, 1, .inr (.inl f))) := (hfc.2 53 (by decide) (by decide)).trans h53
  refine jl_ofHE (as := [.ref 0, .int (x0), .int (x1), .int (x2), .int (x3), .ref 53]) rfl (by decide) hl (jl_cc rfl (jl_cc rfl (jl_cc rfl (jl_cc rfl (jl_cc rfl (jl_cc rfl jl_ca)))))) (Nat.le_of_ble_eq_true rfl) ?_
  show jl_E l G m_La_code (0, 0) 0 [some (.ref 0), some (.int (x0)), some (.int (x1)), some (.int (x2)), some (.int (x3)), some (.ref 53), none] [] (σ) P
  refine er_aload d_La_code_0 rfl ?_
  refine er_iconst ((nI (0))) d_La_code_2 (by decide) ?_
  refine er_aload_n d_La_code_3 rfl ?_
  refine er_iload_n d_La_code_4 rfl ?_
  refine er_iload_n d_La_code_5 rfl ?_
  refine er_iload_n d_La_code_6 rfl ?_
  refine er_iload d_La_code_7 rfl ?_
  match c, hc with
  | 0, _ =>
    have ho : o1 = .inl (some (.int v)) := ho
    subst ho
    refine er_callV (As := [.int (x0), .int (x1), .int (x2), .int (x3)]) d_La_code_9 k_La_code_26 h0 rfl rfl rfl (Nat.le_of_ble_eq_true rfl) (by decide) (by decide) hm ?_
    show jl_E l G m_La_code (5, 30) 12 [some (.ref 0), some (.int (x0)), some (.int (x1)), some (.int (x2)), some (.int (x3)), some (.ref 53), none] [.int v, .int (nI 0), .ref 53] σ1 P
    refine er_i2l d_La_code_12 ?_
    refine er_last d_La_code_13 h53' vp_in0 ?_
    refine er_goto 29 d_La_code_14 (by decide) ?_
    refine er_iconst (nI 0) d_La_code_29 (by decide) ?_
    exact er_iret d_La_code_30 rfl (hT _ _ (hrc.s53 hU) (fun i h1 h2 => (List.getElem?_set_ne (by omega)).trans (hfc.2 i h1 (by omega))) (jl_ss h53') (fun _ => rfl)) (by decide) (by decide)
  | 1, _ =>
    have ho : o1 = .inr xA := ho
    subst ho
    refine ⟨_, _, hT f σ1 hrc (fun i h1 h2 => hfc.2 i h1 (by omega)) h53' (fun z => by cases z), ?_⟩
    have hps : ∀ z ∈ ([] : List ExceptionTableEntry), z.catchType ≠ 0 ∧ ∃ nm, Cond.classLink m_La_code.1.cls z.catchType nm ∈ jl_gw ∧ nm ∈ jl_xs ∧ xA ≠ nm := fun z hz => by cases hz
    exact jr_callVC (As := [.int (x0), .int (x1), .int (x2), .int (x3)]) d_La_code_9 k_La_code_26 h0 rfl rfl rfl (Nat.le_of_ble_eq_true rfl) (by decide) (by decide) hm [] ⟨0, 14, 17, 13⟩ [⟨0, 14, 21, 20⟩, ⟨0, 14, 25, 15⟩] rfl (by decide) hps (by decide) (by decide) (by decide +kernel) (fun q => jr_astoreR d_La_code_17 (by decide) (jr_iconst (nI 1) d_La_code_19 (by decide) (jr_iretE d_La_code_20 rfl rfl rfl (by decide) (by decide))))
  | 2, _ =>
    have ho : o1 = .inr xN := ho
    subst ho
    refine ⟨_, _, hT f σ1 hrc (fun i h1 h2 => hfc.2 i h1 (by omega)) h53' (fun z => by cases z), ?_⟩
    have hps : ∀ z ∈ ([⟨0, 14, 17, 13⟩] : List ExceptionTableEntry), z.catchType ≠ 0 ∧ ∃ nm, Cond.classLink m_La_code.1.cls z.catchType nm ∈ jl_gw ∧ nm ∈ jl_xs ∧ xN ≠ nm := fun z hz => by
        rcases List.mem_cons.mp hz with hz | hz
        · subst hz; exact ⟨by decide, xA, by decide +kernel, by decide, by decide⟩
        cases hz
    exact jr_callVC (As := [.int (x0), .int (x1), .int (x2), .int (x3)]) d_La_code_9 k_La_code_26 h0 rfl rfl rfl (Nat.le_of_ble_eq_true rfl) (by decide) (by decide) hm [⟨0, 14, 17, 13⟩] ⟨0, 14, 21, 20⟩ [⟨0, 14, 25, 15⟩] rfl (by decide) hps (by decide) (by decide) (by decide +kernel) (fun q => jr_astoreR d_La_code_21 (by decide) (jr_iconst (nI 2) d_La_code_23 (by decide) (jr_iretE d_La_code_24 rfl rfl rfl (by decide) (by decide))))
  | 3, _ =>
    have ho : o1 = .inr xS := ho
    subst ho
    refine ⟨_, _, hT f σ1 hrc (fun i h1 h2 => hfc.2 i h1 (by omega)) h53' (fun z => by cases z), ?_⟩
    have hps : ∀ z ∈ ([⟨0, 14, 17, 13⟩, ⟨0, 14, 21, 20⟩] : List ExceptionTableEntry), z.catchType ≠ 0 ∧ ∃ nm, Cond.classLink m_La_code.1.cls z.catchType nm ∈ jl_gw ∧ nm ∈ jl_xs ∧ xS ≠ nm := fun z hz => by
        rcases List.mem_cons.mp hz with hz | hz
        · subst hz; exact ⟨by decide, xA, by decide +kernel, by decide, by decide⟩
        rcases List.mem_cons.mp hz with hz | hz
        · subst hz; exact ⟨by decide, xN, by decide +kernel, by decide, by decide⟩
        cases hz
    exact jr_callVC (As := [.int (x0), .int (x1), .int (x2), .int (x3)]) d_La_code_9 k_La_code_26 h0 rfl rfl rfl (Nat.le_of_ble_eq_true rfl) (by decide) (by decide) hm [⟨0, 14, 17, 13⟩, ⟨0, 14, 21, 20⟩] ⟨0, 14, 25, 15⟩ [] rfl (by decide) hps (by decide) (by decide) (by decide +kernel) (fun q => jr_astoreR d_La_code_25 (by decide) (jr_iconst (nI 3) d_La_code_27 (by decide) (jr_iretE d_La_code_28 rfl rfl rfl (by decide) (by decide))))
  | c + 4, h => exact absurd h (by show ¬ c + 4 ≤ 3; omega)
theorem d_La_catcher_0 : decode m_La_catcher.2.1 0 = .ok (.aload 6, 2) := by decide +kernel
theorem d_La_catcher_2 : decode m_La_catcher.2.1 2 = .ok (.iconst 0, 1) := by decide +kernel
theorem d_La_catcher_3 : decode m_La_catcher.2.1 3 = .ok (.aload_n 0, 1) := by decide +kernel
theorem d_La_catcher_4 : decode m_La_catcher.2.1 4 = .ok (.iload_n 1, 1) := by decide +kernel
theorem d_La_catcher_5 : decode m_La_catcher.2.1 5 = .ok (.iload_n 2, 1) := by decide +kernel
theorem d_La_catcher_6 : decode m_La_catcher.2.1 6 = .ok (.iload_n 3, 1) := by decide +kernel
theorem d_La_catcher_7 : decode m_La_catcher.2.1 7 = .ok (.iload 4, 2) := by decide +kernel
theorem d_La_catcher_9 : decode m_La_catcher.2.1 9 = .ok (.iload 5, 2) := by decide +kernel
theorem k_La_catcher_30 : jl_cv m_La_catcher m_JC_catcher 30 5 = true := by decide +kernel
theorem d_La_catcher_11 : decode m_La_catcher.2.1 11 = .ok (.invokevirtual 30, 3) := by decide +kernel
theorem d_La_catcher_14 : decode m_La_catcher.2.1 14 = .ok (.i2l, 1) := by decide +kernel
theorem d_La_catcher_15 : decode m_La_catcher.2.1 15 = .ok (.lastore, 1) := by decide +kernel
theorem d_La_catcher_16 : decode m_La_catcher.2.1 16 = .ok (.goto 15, 3) := by decide +kernel
theorem d_La_catcher_31 : decode m_La_catcher.2.1 31 = .ok (.iconst 0, 1) := by decide +kernel
theorem d_La_catcher_32 : decode m_La_catcher.2.1 32 = .ok (.ireturn, 1) := by decide +kernel
theorem d_La_catcher_19 : decode m_La_catcher.2.1 19 = .ok (.astore 7, 2) := by decide +kernel
theorem d_La_catcher_21 : decode m_La_catcher.2.1 21 = .ok (.iconst 1, 1) := by decide +kernel
theorem d_La_catcher_22 : decode m_La_catcher.2.1 22 = .ok (.ireturn, 1) := by decide +kernel
theorem d_La_catcher_23 : decode m_La_catcher.2.1 23 = .ok (.astore 7, 2) := by decide +kernel
theorem d_La_catcher_25 : decode m_La_catcher.2.1 25 = .ok (.iconst 2, 1) := by decide +kernel
theorem d_La_catcher_26 : decode m_La_catcher.2.1 26 = .ok (.ireturn, 1) := by decide +kernel
theorem d_La_catcher_27 : decode m_La_catcher.2.1 27 = .ok (.astore 7, 2) := by decide +kernel
theorem d_La_catcher_29 : decode m_La_catcher.2.1 29 = .ok (.iconst 3, 1) := by decide +kernel
theorem d_La_catcher_30 : decode m_La_catcher.2.1 30 = .ok (.ireturn, 1) := by decide +kernel
theorem la_catcher (hl : l.stackTraces = false) {P : jl_O → jl_S → Prop} {x0 x1 x2 x3 x4 : Int32} (h0 : σ[0]? = some (.inr (6, fs))) (h53 : σ[53]? = some (.inl (2, 1, .inr (.inl f)))) (hU : UI U) (hc : c ≤ [xA, xN, xS].length) (hm : jl_mE l G m_JC_catcher (.ref 0 :: [.int x0, .int x1, .int x2, .int x3, .int x4]) σ (fun o σ' => o = oc [xA, xN, xS] c v ∧ RC σ' U ∧ FrC σ σ')) (hT : ∀ (g : Nat → Int64) (σ' : jl_S), RC σ' U → (∀ i, 22 ≤ i → i < 53 → σ'[i]? = σ[i]?) → σ'[53]? = some (.inl (2, 1, .inr (.inl g))) → (c = 0 → g 0 = v.toInt64) → P (.inl (some (.int (nI c)))) σ') : jl_mE l G m_La_catcher [.ref 0, .int (x0), .int (x1), .int (x2), .int (x3), .int (x4), .ref 53] σ P := by
  obtain ⟨o1, σ1, ⟨ho, hrc, hfc⟩, hm⟩ := hm
  have h53' : σ1[53]? = some (.inl (2, 1, .inr (.inl f))) := (hfc.2 53 (by decide) (by decide)).trans h53
  refine jl_ofHE (as := [.ref 0, .int (x0), .int (x1), .int (x2), .int (x3), .int (x4), .ref 53]) rfl (by decide) hl (jl_cc rfl (jl_cc rfl (jl_cc rfl (jl_cc rfl (jl_cc rfl (jl_cc rfl (jl_cc rfl jl_ca))))))) (Nat.le_of_ble_eq_true rfl) ?_
  show jl_E l G m_La_catcher (0, 0) 0 [some (.ref 0), some (.int (x0)), some (.int (x1)), some (.int (x2)), some (.int (x3)), some (.int (x4)), some (.ref 53), none] [] (σ) P
  refine er_aload d_La_catcher_0 rfl ?_
  refine er_iconst ((nI (0))) d_La_catcher_2 (by decide) ?_
  refine er_aload_n d_La_catcher_3 rfl ?_
  refine er_iload_n d_La_catcher_4 rfl ?_
  refine er_iload_n d_La_catcher_5 rfl ?_
  refine er_iload_n d_La_catcher_6 rfl ?_
  refine er_iload d_La_catcher_7 rfl ?_
  refine er_iload d_La_catcher_9 rfl ?_
  match c, hc with
  | 0, _ =>
    have ho : o1 = .inl (some (.int v)) := ho
    subst ho
    refine er_callV (As := [.int (x0), .int (x1), .int (x2), .int (x3), .int (x4)]) d_La_catcher_11 k_La_catcher_30 h0 rfl rfl rfl (Nat.le_of_ble_eq_true rfl) (by decide) (by decide) hm ?_
    show jl_E l G m_La_catcher (7, 42) 14 [some (.ref 0), some (.int (x0)), some (.int (x1)), some (.int (x2)), some (.int (x3)), some (.int (x4)), some (.ref 53), none] [.int v, .int (nI 0), .ref 53] σ1 P
    refine er_i2l d_La_catcher_14 ?_
    refine er_last d_La_catcher_15 h53' vp_in0 ?_
    refine er_goto 31 d_La_catcher_16 (by decide) ?_
    refine er_iconst (nI 0) d_La_catcher_31 (by decide) ?_
    exact er_iret d_La_catcher_32 rfl (hT _ _ (hrc.s53 hU) (fun i h1 h2 => (List.getElem?_set_ne (by omega)).trans (hfc.2 i h1 (by omega))) (jl_ss h53') (fun _ => rfl)) (by decide) (by decide)
  | 1, _ =>
    have ho : o1 = .inr xA := ho
    subst ho
    refine ⟨_, _, hT f σ1 hrc (fun i h1 h2 => hfc.2 i h1 (by omega)) h53' (fun z => by cases z), ?_⟩
    have hps : ∀ z ∈ ([] : List ExceptionTableEntry), z.catchType ≠ 0 ∧ ∃ nm, Cond.classLink m_La_catcher.1.cls z.catchType nm ∈ jl_gw ∧ nm ∈ jl_xs ∧ xA ≠ nm := fun z hz => by cases hz
    exact jr_callVC (As := [.int (x0), .int (x1), .int (x2), .int (x3), .int (x4)]) d_La_catcher_11 k_La_catcher_30 h0 rfl rfl rfl (Nat.le_of_ble_eq_true rfl) (by decide) (by decide) hm [] ⟨0, 16, 19, 13⟩ [⟨0, 16, 23, 20⟩, ⟨0, 16, 27, 15⟩] rfl (by decide) hps (by decide) (by decide) (by decide +kernel) (fun q => jr_astoreR d_La_catcher_19 (by decide) (jr_iconst (nI 1) d_La_catcher_21 (by decide) (jr_iretE d_La_catcher_22 rfl rfl rfl (by decide) (by decide))))
  | 2, _ =>
    have ho : o1 = .inr xN := ho
    subst ho
    refine ⟨_, _, hT f σ1 hrc (fun i h1 h2 => hfc.2 i h1 (by omega)) h53' (fun z => by cases z), ?_⟩
    have hps : ∀ z ∈ ([⟨0, 16, 19, 13⟩] : List ExceptionTableEntry), z.catchType ≠ 0 ∧ ∃ nm, Cond.classLink m_La_catcher.1.cls z.catchType nm ∈ jl_gw ∧ nm ∈ jl_xs ∧ xN ≠ nm := fun z hz => by
        rcases List.mem_cons.mp hz with hz | hz
        · subst hz; exact ⟨by decide, xA, by decide +kernel, by decide, by decide⟩
        cases hz
    exact jr_callVC (As := [.int (x0), .int (x1), .int (x2), .int (x3), .int (x4)]) d_La_catcher_11 k_La_catcher_30 h0 rfl rfl rfl (Nat.le_of_ble_eq_true rfl) (by decide) (by decide) hm [⟨0, 16, 19, 13⟩] ⟨0, 16, 23, 20⟩ [⟨0, 16, 27, 15⟩] rfl (by decide) hps (by decide) (by decide) (by decide +kernel) (fun q => jr_astoreR d_La_catcher_23 (by decide) (jr_iconst (nI 2) d_La_catcher_25 (by decide) (jr_iretE d_La_catcher_26 rfl rfl rfl (by decide) (by decide))))
  | 3, _ =>
    have ho : o1 = .inr xS := ho
    subst ho
    refine ⟨_, _, hT f σ1 hrc (fun i h1 h2 => hfc.2 i h1 (by omega)) h53' (fun z => by cases z), ?_⟩
    have hps : ∀ z ∈ ([⟨0, 16, 19, 13⟩, ⟨0, 16, 23, 20⟩] : List ExceptionTableEntry), z.catchType ≠ 0 ∧ ∃ nm, Cond.classLink m_La_catcher.1.cls z.catchType nm ∈ jl_gw ∧ nm ∈ jl_xs ∧ xS ≠ nm := fun z hz => by
        rcases List.mem_cons.mp hz with hz | hz
        · subst hz; exact ⟨by decide, xA, by decide +kernel, by decide, by decide⟩
        rcases List.mem_cons.mp hz with hz | hz
        · subst hz; exact ⟨by decide, xN, by decide +kernel, by decide, by decide⟩
        cases hz
    exact jr_callVC (As := [.int (x0), .int (x1), .int (x2), .int (x3), .int (x4)]) d_La_catcher_11 k_La_catcher_30 h0 rfl rfl rfl (Nat.le_of_ble_eq_true rfl) (by decide) (by decide) hm [⟨0, 16, 19, 13⟩, ⟨0, 16, 23, 20⟩] ⟨0, 16, 27, 15⟩ [] rfl (by decide) hps (by decide) (by decide) (by decide +kernel) (fun q => jr_astoreR d_La_catcher_27 (by decide) (jr_iconst (nI 3) d_La_catcher_29 (by decide) (jr_iretE d_La_catcher_30 rfl rfl rfl (by decide) (by decide))))
  | c + 4, h => exact absurd h (by show ¬ c + 4 ≤ 3; omega)
theorem d_La_verify_0 : decode m_La_verify.2.1 0 = .ok (.aload_n 1, 1) := by decide +kernel
theorem d_La_verify_1 : decode m_La_verify.2.1 1 = .ok (.iconst 0, 1) := by decide +kernel
theorem d_La_verify_2 : decode m_La_verify.2.1 2 = .ok (.aload_n 0, 1) := by decide +kernel
theorem k_La_verify_33 : jl_cv m_La_verify m_JC_verify 33 0 = true := by decide +kernel
theorem d_La_verify_3 : decode m_La_verify.2.1 3 = .ok (.invokevirtual 33, 3) := by decide +kernel
theorem d_La_verify_6 : decode m_La_verify.2.1 6 = .ok (.i2l, 1) := by decide +kernel
theorem d_La_verify_7 : decode m_La_verify.2.1 7 = .ok (.lastore, 1) := by decide +kernel
theorem d_La_verify_8 : decode m_La_verify.2.1 8 = .ok (.goto 6, 3) := by decide +kernel
theorem d_La_verify_14 : decode m_La_verify.2.1 14 = .ok (.iconst 0, 1) := by decide +kernel
theorem d_La_verify_15 : decode m_La_verify.2.1 15 = .ok (.ireturn, 1) := by decide +kernel
theorem d_La_verify_11 : decode m_La_verify.2.1 11 = .ok (.astore_n 2, 1) := by decide +kernel
theorem d_La_verify_12 : decode m_La_verify.2.1 12 = .ok (.iconst 1, 1) := by decide +kernel
theorem d_La_verify_13 : decode m_La_verify.2.1 13 = .ok (.ireturn, 1) := by decide +kernel
theorem la_verify (hl : l.stackTraces = false) {P : jl_O → jl_S → Prop} {xx : Int32} (h0 : σ[0]? = some (.inr (6, fs))) (h53 : σ[53]? = some (.inl (2, 1, .inr (.inl f)))) (hU : UI U) (hc : c ≤ [xU].length) (hm : jl_mE l G m_JC_verify (.ref 0 :: []) σ (fun o σ' => o = oc [xU] c v ∧ RC σ' U ∧ FrC σ σ')) (hT : ∀ (g : Nat → Int64) (σ' : jl_S), RC σ' U → (∀ i, 22 ≤ i → i < 53 → σ'[i]? = σ[i]?) → σ'[53]? = some (.inl (2, 1, .inr (.inl g))) → (c = 0 → g 0 = v.toInt64) → P (.inl (some (.int (nI c)))) σ') : jl_mE l G m_La_verify [.ref 0, .ref 53] σ P := by
  obtain ⟨o1, σ1, ⟨ho, hrc, hfc⟩, hm⟩ := hm
  have h53' : σ1[53]? = some (.inl (2, 1, .inr (.inl f))) := (hfc.2 53 (by decide) (by decide)).trans h53
  refine jl_ofHE (as := [.ref 0, .ref 53]) rfl (by decide) hl (jl_cc rfl (jl_cc rfl jl_ca)) (Nat.le_of_ble_eq_true rfl) ?_
  show jl_E l G m_La_verify (0, 0) 0 [some (.ref 0), some (.ref 53), none] [] (σ) P
  refine er_aload_n d_La_verify_0 rfl ?_
  refine er_iconst ((nI (0))) d_La_verify_1 (by decide) ?_
  refine er_aload_n d_La_verify_2 rfl ?_
  match c, hc with
  | 0, _ =>
    have ho : o1 = .inl (some (.int v)) := ho
    subst ho
    refine er_callV (As := []) d_La_verify_3 k_La_verify_33 h0 rfl rfl rfl (Nat.le_of_ble_eq_true rfl) (by decide) (by decide) hm ?_
    show jl_E l G m_La_verify (1, 6) 6 [some (.ref 0), some (.ref 53), none] [.int v, .int (nI 0), .ref 53] σ1 P
    refine er_i2l d_La_verify_6 ?_
    refine er_last d_La_verify_7 h53' vp_in0 ?_
    refine er_goto 14 d_La_verify_8 (by decide) ?_
    refine er_iconst (nI 0) d_La_verify_14 (by decide) ?_
    exact er_iret d_La_verify_15 rfl (hT _ _ (hrc.s53 hU) (fun i h1 h2 => (List.getElem?_set_ne (by omega)).trans (hfc.2 i h1 (by omega))) (jl_ss h53') (fun _ => rfl)) (by decide) (by decide)
  | 1, _ =>
    have ho : o1 = .inr xU := ho
    subst ho
    refine ⟨_, _, hT f σ1 hrc (fun i h1 h2 => hfc.2 i h1 (by omega)) h53' (fun z => by cases z), ?_⟩
    have hps : ∀ z ∈ ([] : List ExceptionTableEntry), z.catchType ≠ 0 ∧ ∃ nm, Cond.classLink m_La_verify.1.cls z.catchType nm ∈ jl_gw ∧ nm ∈ jl_xs ∧ xU ≠ nm := fun z hz => by cases hz
    exact jr_callVC (As := []) d_La_verify_3 k_La_verify_33 h0 rfl rfl rfl (Nat.le_of_ble_eq_true rfl) (by decide) (by decide) hm [] ⟨0, 8, 11, 37⟩ [] rfl (by decide) hps (by decide) (by decide) (by decide +kernel) (fun q => jr_astore_nR d_La_verify_11 (by decide) (jr_iconst (nI 1) d_La_verify_12 (by decide) (jr_iretE d_La_verify_13 rfl rfl rfl (by decide) (by decide))))
  | c + 2, h => exact absurd h (by show ¬ c + 2 ≤ 1; omega)
theorem d_La_map_0 : decode m_La_map.2.1 0 = .ok (.aload 5, 2) := by decide +kernel
theorem d_La_map_2 : decode m_La_map.2.1 2 = .ok (.iconst 0, 1) := by decide +kernel
theorem d_La_map_3 : decode m_La_map.2.1 3 = .ok (.aload_n 0, 1) := by decide +kernel
theorem d_La_map_4 : decode m_La_map.2.1 4 = .ok (.iload_n 1, 1) := by decide +kernel
theorem d_La_map_5 : decode m_La_map.2.1 5 = .ok (.iload_n 2, 1) := by decide +kernel
theorem d_La_map_6 : decode m_La_map.2.1 6 = .ok (.iload_n 3, 1) := by decide +kernel
theorem d_La_map_7 : decode m_La_map.2.1 7 = .ok (.iload 4, 2) := by decide +kernel
theorem k_La_map_39 : jl_cv m_La_map m_JC_map 39 4 = true := by decide +kernel
theorem d_La_map_9 : decode m_La_map.2.1 9 = .ok (.invokevirtual 39, 3) := by decide +kernel
theorem d_La_map_12 : decode m_La_map.2.1 12 = .ok (.i2l, 1) := by decide +kernel
theorem d_La_map_13 : decode m_La_map.2.1 13 = .ok (.lastore, 1) := by decide +kernel
theorem d_La_map_14 : decode m_La_map.2.1 14 = .ok (.goto 11, 3) := by decide +kernel
theorem d_La_map_25 : decode m_La_map.2.1 25 = .ok (.iconst 0, 1) := by decide +kernel
theorem d_La_map_26 : decode m_La_map.2.1 26 = .ok (.ireturn, 1) := by decide +kernel
theorem d_La_map_17 : decode m_La_map.2.1 17 = .ok (.astore 6, 2) := by decide +kernel
theorem d_La_map_19 : decode m_La_map.2.1 19 = .ok (.iconst 1, 1) := by decide +kernel
theorem d_La_map_20 : decode m_La_map.2.1 20 = .ok (.ireturn, 1) := by decide +kernel
theorem d_La_map_21 : decode m_La_map.2.1 21 = .ok (.astore 6, 2) := by decide +kernel
theorem d_La_map_23 : decode m_La_map.2.1 23 = .ok (.iconst 2, 1) := by decide +kernel
theorem d_La_map_24 : decode m_La_map.2.1 24 = .ok (.ireturn, 1) := by decide +kernel
theorem la_map (hl : l.stackTraces = false) {P : jl_O → jl_S → Prop} {x0 x1 x2 x3 : Int32} (h0 : σ[0]? = some (.inr (6, fs))) (h53 : σ[53]? = some (.inl (2, 1, .inr (.inl f)))) (hU : UI U) (hc : c ≤ [xA, xN].length) (hm : jl_mE l G m_JC_map (.ref 0 :: [.int x0, .int x1, .int x2, .int x3]) σ (fun o σ' => o = oc [xA, xN] c v ∧ RC σ' U ∧ FrC σ σ')) (hT : ∀ (g : Nat → Int64) (σ' : jl_S), RC σ' U → (∀ i, 22 ≤ i → i < 53 → σ'[i]? = σ[i]?) → σ'[53]? = some (.inl (2, 1, .inr (.inl g))) → (c = 0 → g 0 = v.toInt64) → P (.inl (some (.int (nI c)))) σ') : jl_mE l G m_La_map [.ref 0, .int (x0), .int (x1), .int (x2), .int (x3), .ref 53] σ P := by
  obtain ⟨o1, σ1, ⟨ho, hrc, hfc⟩, hm⟩ := hm
  have h53' : σ1[53]? = some (.inl (2, 1, .inr (.inl f))) := (hfc.2 53 (by decide) (by decide)).trans h53
  refine jl_ofHE (as := [.ref 0, .int (x0), .int (x1), .int (x2), .int (x3), .ref 53]) rfl (by decide) hl (jl_cc rfl (jl_cc rfl (jl_cc rfl (jl_cc rfl (jl_cc rfl (jl_cc rfl jl_ca)))))) (Nat.le_of_ble_eq_true rfl) ?_
  show jl_E l G m_La_map (0, 0) 0 [some (.ref 0), some (.int (x0)), some (.int (x1)), some (.int (x2)), some (.int (x3)), some (.ref 53), none] [] (σ) P
  refine er_aload d_La_map_0 rfl ?_
  refine er_iconst ((nI (0))) d_La_map_2 (by decide) ?_
  refine er_aload_n d_La_map_3 rfl ?_
  refine er_iload_n d_La_map_4 rfl ?_
  refine er_iload_n d_La_map_5 rfl ?_
  refine er_iload_n d_La_map_6 rfl ?_
  refine er_iload d_La_map_7 rfl ?_
  match c, hc with
  | 0, _ =>
    have ho : o1 = .inl (some (.int v)) := ho
    subst ho
    refine er_callV (As := [.int (x0), .int (x1), .int (x2), .int (x3)]) d_La_map_9 k_La_map_39 h0 rfl rfl rfl (Nat.le_of_ble_eq_true rfl) (by decide) (by decide) hm ?_
    show jl_E l G m_La_map (5, 30) 12 [some (.ref 0), some (.int (x0)), some (.int (x1)), some (.int (x2)), some (.int (x3)), some (.ref 53), none] [.int v, .int (nI 0), .ref 53] σ1 P
    refine er_i2l d_La_map_12 ?_
    refine er_last d_La_map_13 h53' vp_in0 ?_
    refine er_goto 25 d_La_map_14 (by decide) ?_
    refine er_iconst (nI 0) d_La_map_25 (by decide) ?_
    exact er_iret d_La_map_26 rfl (hT _ _ (hrc.s53 hU) (fun i h1 h2 => (List.getElem?_set_ne (by omega)).trans (hfc.2 i h1 (by omega))) (jl_ss h53') (fun _ => rfl)) (by decide) (by decide)
  | 1, _ =>
    have ho : o1 = .inr xA := ho
    subst ho
    refine ⟨_, _, hT f σ1 hrc (fun i h1 h2 => hfc.2 i h1 (by omega)) h53' (fun z => by cases z), ?_⟩
    have hps : ∀ z ∈ ([] : List ExceptionTableEntry), z.catchType ≠ 0 ∧ ∃ nm, Cond.classLink m_La_map.1.cls z.catchType nm ∈ jl_gw ∧ nm ∈ jl_xs ∧ xA ≠ nm := fun z hz => by cases hz
    exact jr_callVC (As := [.int (x0), .int (x1), .int (x2), .int (x3)]) d_La_map_9 k_La_map_39 h0 rfl rfl rfl (Nat.le_of_ble_eq_true rfl) (by decide) (by decide) hm [] ⟨0, 14, 17, 13⟩ [⟨0, 14, 21, 20⟩] rfl (by decide) hps (by decide) (by decide) (by decide +kernel) (fun q => jr_astoreR d_La_map_17 (by decide) (jr_iconst (nI 1) d_La_map_19 (by decide) (jr_iretE d_La_map_20 rfl rfl rfl (by decide) (by decide))))
  | 2, _ =>
    have ho : o1 = .inr xN := ho
    subst ho
    refine ⟨_, _, hT f σ1 hrc (fun i h1 h2 => hfc.2 i h1 (by omega)) h53' (fun z => by cases z), ?_⟩
    have hps : ∀ z ∈ ([⟨0, 14, 17, 13⟩] : List ExceptionTableEntry), z.catchType ≠ 0 ∧ ∃ nm, Cond.classLink m_La_map.1.cls z.catchType nm ∈ jl_gw ∧ nm ∈ jl_xs ∧ xN ≠ nm := fun z hz => by
        rcases List.mem_cons.mp hz with hz | hz
        · subst hz; exact ⟨by decide, xA, by decide +kernel, by decide, by decide⟩
        cases hz
    exact jr_callVC (As := [.int (x0), .int (x1), .int (x2), .int (x3)]) d_La_map_9 k_La_map_39 h0 rfl rfl rfl (Nat.le_of_ble_eq_true rfl) (by decide) (by decide) hm [⟨0, 14, 17, 13⟩] ⟨0, 14, 21, 20⟩ [] rfl (by decide) hps (by decide) (by decide) (by decide +kernel) (fun q => jr_astoreR d_La_map_21 (by decide) (jr_iconst (nI 2) d_La_map_23 (by decide) (jr_iretE d_La_map_24 rfl rfl rfl (by decide) (by decide))))
  | c + 3, h => exact absurd h (by show ¬ c + 3 ≤ 2; omega)
theorem d_La_run_0 : decode m_La_run.2.1 0 = .ok (.aload 6, 2) := by decide +kernel
theorem d_La_run_2 : decode m_La_run.2.1 2 = .ok (.iconst 0, 1) := by decide +kernel
theorem d_La_run_3 : decode m_La_run.2.1 3 = .ok (.aload_n 0, 1) := by decide +kernel
theorem d_La_run_4 : decode m_La_run.2.1 4 = .ok (.iload_n 1, 1) := by decide +kernel
theorem d_La_run_5 : decode m_La_run.2.1 5 = .ok (.iload_n 2, 1) := by decide +kernel
theorem d_La_run_6 : decode m_La_run.2.1 6 = .ok (.iload_n 3, 1) := by decide +kernel
theorem d_La_run_7 : decode m_La_run.2.1 7 = .ok (.iload 4, 2) := by decide +kernel
theorem d_La_run_9 : decode m_La_run.2.1 9 = .ok (.iload 5, 2) := by decide +kernel
theorem k_La_run_42 : jl_cv m_La_run m_JC_run 42 5 = true := by decide +kernel
theorem d_La_run_11 : decode m_La_run.2.1 11 = .ok (.invokevirtual 42, 3) := by decide +kernel
theorem d_La_run_14 : decode m_La_run.2.1 14 = .ok (.i2l, 1) := by decide +kernel
theorem d_La_run_15 : decode m_La_run.2.1 15 = .ok (.lastore, 1) := by decide +kernel
theorem d_La_run_16 : decode m_La_run.2.1 16 = .ok (.goto 23, 3) := by decide +kernel
theorem d_La_run_39 : decode m_La_run.2.1 39 = .ok (.iconst 0, 1) := by decide +kernel
theorem d_La_run_40 : decode m_La_run.2.1 40 = .ok (.ireturn, 1) := by decide +kernel
theorem d_La_run_19 : decode m_La_run.2.1 19 = .ok (.astore 7, 2) := by decide +kernel
theorem d_La_run_21 : decode m_La_run.2.1 21 = .ok (.iconst 1, 1) := by decide +kernel
theorem d_La_run_22 : decode m_La_run.2.1 22 = .ok (.ireturn, 1) := by decide +kernel
theorem d_La_run_23 : decode m_La_run.2.1 23 = .ok (.astore 7, 2) := by decide +kernel
theorem d_La_run_25 : decode m_La_run.2.1 25 = .ok (.iconst 2, 1) := by decide +kernel
theorem d_La_run_26 : decode m_La_run.2.1 26 = .ok (.ireturn, 1) := by decide +kernel
theorem d_La_run_27 : decode m_La_run.2.1 27 = .ok (.astore 7, 2) := by decide +kernel
theorem d_La_run_29 : decode m_La_run.2.1 29 = .ok (.iconst 3, 1) := by decide +kernel
theorem d_La_run_30 : decode m_La_run.2.1 30 = .ok (.ireturn, 1) := by decide +kernel
theorem d_La_run_31 : decode m_La_run.2.1 31 = .ok (.astore 7, 2) := by decide +kernel
theorem d_La_run_33 : decode m_La_run.2.1 33 = .ok (.iconst 4, 1) := by decide +kernel
theorem d_La_run_34 : decode m_La_run.2.1 34 = .ok (.ireturn, 1) := by decide +kernel
theorem d_La_run_35 : decode m_La_run.2.1 35 = .ok (.astore 7, 2) := by decide +kernel
theorem d_La_run_37 : decode m_La_run.2.1 37 = .ok (.iconst 5, 1) := by decide +kernel
theorem d_La_run_38 : decode m_La_run.2.1 38 = .ok (.ireturn, 1) := by decide +kernel
theorem la_run (hl : l.stackTraces = false) {P : jl_O → jl_S → Prop} {x0 x1 x2 x3 x4 : Int32} (h0 : σ[0]? = some (.inr (6, fs))) (h53 : σ[53]? = some (.inl (2, 1, .inr (.inl f)))) (hU : UI U) (hc : c ≤ [xA, xN, xS, xU, xB].length) (hm : jl_mE l G m_JC_run (.ref 0 :: [.int x0, .int x1, .int x2, .int x3, .int x4]) σ (fun o σ' => o = oc [xA, xN, xS, xU, xB] c v ∧ RC σ' U ∧ FrC σ σ')) (hT : ∀ (g : Nat → Int64) (σ' : jl_S), RC σ' U → (∀ i, 22 ≤ i → i < 53 → σ'[i]? = σ[i]?) → σ'[53]? = some (.inl (2, 1, .inr (.inl g))) → (c = 0 → g 0 = v.toInt64) → P (.inl (some (.int (nI c)))) σ') : jl_mE l G m_La_run [.ref 0, .int (x0), .int (x1), .int (x2), .int (x3), .int (x4), .ref 53] σ P := by
  obtain ⟨o1, σ1, ⟨ho, hrc, hfc⟩, hm⟩ := hm
  have h53' : σ1[53]? = some (.inl (2, 1, .inr (.inl f))) := (hfc.2 53 (by decide) (by decide)).trans h53
  refine jl_ofHE (as := [.ref 0, .int (x0), .int (x1), .int (x2), .int (x3), .int (x4), .ref 53]) rfl (by decide) hl (jl_cc rfl (jl_cc rfl (jl_cc rfl (jl_cc rfl (jl_cc rfl (jl_cc rfl (jl_cc rfl jl_ca))))))) (Nat.le_of_ble_eq_true rfl) ?_
  show jl_E l G m_La_run (0, 0) 0 [some (.ref 0), some (.int (x0)), some (.int (x1)), some (.int (x2)), some (.int (x3)), some (.int (x4)), some (.ref 53), none] [] (σ) P
  refine er_aload d_La_run_0 rfl ?_
  refine er_iconst ((nI (0))) d_La_run_2 (by decide) ?_
  refine er_aload_n d_La_run_3 rfl ?_
  refine er_iload_n d_La_run_4 rfl ?_
  refine er_iload_n d_La_run_5 rfl ?_
  refine er_iload_n d_La_run_6 rfl ?_
  refine er_iload d_La_run_7 rfl ?_
  refine er_iload d_La_run_9 rfl ?_
  match c, hc with
  | 0, _ =>
    have ho : o1 = .inl (some (.int v)) := ho
    subst ho
    refine er_callV (As := [.int (x0), .int (x1), .int (x2), .int (x3), .int (x4)]) d_La_run_11 k_La_run_42 h0 rfl rfl rfl (Nat.le_of_ble_eq_true rfl) (by decide) (by decide) hm ?_
    show jl_E l G m_La_run (6, 36) 14 [some (.ref 0), some (.int (x0)), some (.int (x1)), some (.int (x2)), some (.int (x3)), some (.int (x4)), some (.ref 53), none] [.int v, .int (nI 0), .ref 53] σ1 P
    refine er_i2l d_La_run_14 ?_
    refine er_last d_La_run_15 h53' vp_in0 ?_
    refine er_goto 39 d_La_run_16 (by decide) ?_
    refine er_iconst (nI 0) d_La_run_39 (by decide) ?_
    exact er_iret d_La_run_40 rfl (hT _ _ (hrc.s53 hU) (fun i h1 h2 => (List.getElem?_set_ne (by omega)).trans (hfc.2 i h1 (by omega))) (jl_ss h53') (fun _ => rfl)) (by decide) (by decide)
  | 1, _ =>
    have ho : o1 = .inr xA := ho
    subst ho
    refine ⟨_, _, hT f σ1 hrc (fun i h1 h2 => hfc.2 i h1 (by omega)) h53' (fun z => by cases z), ?_⟩
    have hps : ∀ z ∈ ([] : List ExceptionTableEntry), z.catchType ≠ 0 ∧ ∃ nm, Cond.classLink m_La_run.1.cls z.catchType nm ∈ jl_gw ∧ nm ∈ jl_xs ∧ xA ≠ nm := fun z hz => by cases hz
    exact jr_callVC (As := [.int (x0), .int (x1), .int (x2), .int (x3), .int (x4)]) d_La_run_11 k_La_run_42 h0 rfl rfl rfl (Nat.le_of_ble_eq_true rfl) (by decide) (by decide) hm [] ⟨0, 16, 19, 13⟩ [⟨0, 16, 23, 20⟩, ⟨0, 16, 27, 15⟩, ⟨0, 16, 31, 37⟩, ⟨0, 16, 35, 46⟩] rfl (by decide) hps (by decide) (by decide) (by decide +kernel) (fun q => jr_astoreR d_La_run_19 (by decide) (jr_iconst (nI 1) d_La_run_21 (by decide) (jr_iretE d_La_run_22 rfl rfl rfl (by decide) (by decide))))
  | 2, _ =>
    have ho : o1 = .inr xN := ho
    subst ho
    refine ⟨_, _, hT f σ1 hrc (fun i h1 h2 => hfc.2 i h1 (by omega)) h53' (fun z => by cases z), ?_⟩
    have hps : ∀ z ∈ ([⟨0, 16, 19, 13⟩] : List ExceptionTableEntry), z.catchType ≠ 0 ∧ ∃ nm, Cond.classLink m_La_run.1.cls z.catchType nm ∈ jl_gw ∧ nm ∈ jl_xs ∧ xN ≠ nm := fun z hz => by
        rcases List.mem_cons.mp hz with hz | hz
        · subst hz; exact ⟨by decide, xA, by decide +kernel, by decide, by decide⟩
        cases hz
    exact jr_callVC (As := [.int (x0), .int (x1), .int (x2), .int (x3), .int (x4)]) d_La_run_11 k_La_run_42 h0 rfl rfl rfl (Nat.le_of_ble_eq_true rfl) (by decide) (by decide) hm [⟨0, 16, 19, 13⟩] ⟨0, 16, 23, 20⟩ [⟨0, 16, 27, 15⟩, ⟨0, 16, 31, 37⟩, ⟨0, 16, 35, 46⟩] rfl (by decide) hps (by decide) (by decide) (by decide +kernel) (fun q => jr_astoreR d_La_run_23 (by decide) (jr_iconst (nI 2) d_La_run_25 (by decide) (jr_iretE d_La_run_26 rfl rfl rfl (by decide) (by decide))))
  | 3, _ =>
    have ho : o1 = .inr xS := ho
    subst ho
    refine ⟨_, _, hT f σ1 hrc (fun i h1 h2 => hfc.2 i h1 (by omega)) h53' (fun z => by cases z), ?_⟩
    have hps : ∀ z ∈ ([⟨0, 16, 19, 13⟩, ⟨0, 16, 23, 20⟩] : List ExceptionTableEntry), z.catchType ≠ 0 ∧ ∃ nm, Cond.classLink m_La_run.1.cls z.catchType nm ∈ jl_gw ∧ nm ∈ jl_xs ∧ xS ≠ nm := fun z hz => by
        rcases List.mem_cons.mp hz with hz | hz
        · subst hz; exact ⟨by decide, xA, by decide +kernel, by decide, by decide⟩
        rcases List.mem_cons.mp hz with hz | hz
        · subst hz; exact ⟨by decide, xN, by decide +kernel, by decide, by decide⟩
        cases hz
    exact jr_callVC (As := [.int (x0), .int (x1), .int (x2), .int (x3), .int (x4)]) d_La_run_11 k_La_run_42 h0 rfl rfl rfl (Nat.le_of_ble_eq_true rfl) (by decide) (by decide) hm [⟨0, 16, 19, 13⟩, ⟨0, 16, 23, 20⟩] ⟨0, 16, 27, 15⟩ [⟨0, 16, 31, 37⟩, ⟨0, 16, 35, 46⟩] rfl (by decide) hps (by decide) (by decide) (by decide +kernel) (fun q => jr_astoreR d_La_run_27 (by decide) (jr_iconst (nI 3) d_La_run_29 (by decide) (jr_iretE d_La_run_30 rfl rfl rfl (by decide) (by decide))))
  | 4, _ =>
    have ho : o1 = .inr xU := ho
    subst ho
    refine ⟨_, _, hT f σ1 hrc (fun i h1 h2 => hfc.2 i h1 (by omega)) h53' (fun z => by cases z), ?_⟩
    have hps : ∀ z ∈ ([⟨0, 16, 19, 13⟩, ⟨0, 16, 23, 20⟩, ⟨0, 16, 27, 15⟩] : List ExceptionTableEntry), z.catchType ≠ 0 ∧ ∃ nm, Cond.classLink m_La_run.1.cls z.catchType nm ∈ jl_gw ∧ nm ∈ jl_xs ∧ xU ≠ nm := fun z hz => by
        rcases List.mem_cons.mp hz with hz | hz
        · subst hz; exact ⟨by decide, xA, by decide +kernel, by decide, by decide⟩
        rcases List.mem_cons.mp hz with hz | hz
        · subst hz; exact ⟨by decide, xN, by decide +kernel, by decide, by decide⟩
        rcases List.mem_cons.mp hz with hz | hz
        · subst hz; exact ⟨by decide, xS, by decide +kernel, by decide, by decide⟩
        cases hz
    exact jr_callVC (As := [.int (x0), .int (x1), .int (x2), .int (x3), .int (x4)]) d_La_run_11 k_La_run_42 h0 rfl rfl rfl (Nat.le_of_ble_eq_true rfl) (by decide) (by decide) hm [⟨0, 16, 19, 13⟩, ⟨0, 16, 23, 20⟩, ⟨0, 16, 27, 15⟩] ⟨0, 16, 31, 37⟩ [⟨0, 16, 35, 46⟩] rfl (by decide) hps (by decide) (by decide) (by decide +kernel) (fun q => jr_astoreR d_La_run_31 (by decide) (jr_iconst (nI 4) d_La_run_33 (by decide) (jr_iretE d_La_run_34 rfl rfl rfl (by decide) (by decide))))
  | 5, _ =>
    have ho : o1 = .inr xB := ho
    subst ho
    refine ⟨_, _, hT f σ1 hrc (fun i h1 h2 => hfc.2 i h1 (by omega)) h53' (fun z => by cases z), ?_⟩
    have hps : ∀ z ∈ ([⟨0, 16, 19, 13⟩, ⟨0, 16, 23, 20⟩, ⟨0, 16, 27, 15⟩, ⟨0, 16, 31, 37⟩] : List ExceptionTableEntry), z.catchType ≠ 0 ∧ ∃ nm, Cond.classLink m_La_run.1.cls z.catchType nm ∈ jl_gw ∧ nm ∈ jl_xs ∧ xB ≠ nm := fun z hz => by
        rcases List.mem_cons.mp hz with hz | hz
        · subst hz; exact ⟨by decide, xA, by decide +kernel, by decide, by decide⟩
        rcases List.mem_cons.mp hz with hz | hz
        · subst hz; exact ⟨by decide, xN, by decide +kernel, by decide, by decide⟩
        rcases List.mem_cons.mp hz with hz | hz
        · subst hz; exact ⟨by decide, xS, by decide +kernel, by decide, by decide⟩
        rcases List.mem_cons.mp hz with hz | hz
        · subst hz; exact ⟨by decide, xU, by decide +kernel, by decide, by decide⟩
        cases hz
    exact jr_callVC (As := [.int (x0), .int (x1), .int (x2), .int (x3), .int (x4)]) d_La_run_11 k_La_run_42 h0 rfl rfl rfl (Nat.le_of_ble_eq_true rfl) (by decide) (by decide) hm [⟨0, 16, 19, 13⟩, ⟨0, 16, 23, 20⟩, ⟨0, 16, 27, 15⟩, ⟨0, 16, 31, 37⟩] ⟨0, 16, 35, 46⟩ [] rfl (by decide) hps (by decide) (by decide) (by decide +kernel) (fun q => jr_astoreR d_La_run_35 (by decide) (jr_iconst (nI 5) d_La_run_37 (by decide) (jr_iretE d_La_run_38 rfl rfl rfl (by decide) (by decide))))
  | c + 6, h => exact absurd h (by show ¬ c + 6 ≤ 5; omega)
theorem d_La_outcome_0 : decode m_La_outcome.2.1 0 = .ok (.aload_n 2, 1) := by decide +kernel
theorem d_La_outcome_1 : decode m_La_outcome.2.1 1 = .ok (.iconst 0, 1) := by decide +kernel
theorem d_La_outcome_2 : decode m_La_outcome.2.1 2 = .ok (.aload_n 0, 1) := by decide +kernel
theorem d_La_outcome_3 : decode m_La_outcome.2.1 3 = .ok (.iload_n 1, 1) := by decide +kernel
theorem k_La_outcome_48 : jl_cv m_La_outcome m_JC_outcome 48 1 = true := by decide +kernel
theorem d_La_outcome_4 : decode m_La_outcome.2.1 4 = .ok (.invokevirtual 48, 3) := by decide +kernel
theorem d_La_outcome_7 : decode m_La_outcome.2.1 7 = .ok (.i2l, 1) := by decide +kernel
theorem d_La_outcome_8 : decode m_La_outcome.2.1 8 = .ok (.lastore, 1) := by decide +kernel
theorem d_La_outcome_9 : decode m_La_outcome.2.1 9 = .ok (.goto 6, 3) := by decide +kernel
theorem d_La_outcome_15 : decode m_La_outcome.2.1 15 = .ok (.iconst 0, 1) := by decide +kernel
theorem d_La_outcome_16 : decode m_La_outcome.2.1 16 = .ok (.ireturn, 1) := by decide +kernel
theorem d_La_outcome_12 : decode m_La_outcome.2.1 12 = .ok (.astore_n 3, 1) := by decide +kernel
theorem d_La_outcome_13 : decode m_La_outcome.2.1 13 = .ok (.iconst 1, 1) := by decide +kernel
theorem d_La_outcome_14 : decode m_La_outcome.2.1 14 = .ok (.ireturn, 1) := by decide +kernel
theorem la_outcome (hl : l.stackTraces = false) {P : jl_O → jl_S → Prop} {x0 : Int32} (h0 : σ[0]? = some (.inr (6, fs))) (h53 : σ[53]? = some (.inl (2, 1, .inr (.inl f)))) (hU : UI U) (hc : c ≤ [xA].length) (hm : jl_mE l G m_JC_outcome (.ref 0 :: [.int x0]) σ (fun o σ' => o = oc [xA] c v ∧ RC σ' U ∧ FrC σ σ')) (hT : ∀ (g : Nat → Int64) (σ' : jl_S), RC σ' U → (∀ i, 22 ≤ i → i < 53 → σ'[i]? = σ[i]?) → σ'[53]? = some (.inl (2, 1, .inr (.inl g))) → (c = 0 → g 0 = v.toInt64) → P (.inl (some (.int (nI c)))) σ') : jl_mE l G m_La_outcome [.ref 0, .int (x0), .ref 53] σ P := by
  obtain ⟨o1, σ1, ⟨ho, hrc, hfc⟩, hm⟩ := hm
  have h53' : σ1[53]? = some (.inl (2, 1, .inr (.inl f))) := (hfc.2 53 (by decide) (by decide)).trans h53
  refine jl_ofHE (as := [.ref 0, .int (x0), .ref 53]) rfl (by decide) hl (jl_cc rfl (jl_cc rfl (jl_cc rfl jl_ca))) (Nat.le_of_ble_eq_true rfl) ?_
  show jl_E l G m_La_outcome (0, 0) 0 [some (.ref 0), some (.int (x0)), some (.ref 53), none] [] (σ) P
  refine er_aload_n d_La_outcome_0 rfl ?_
  refine er_iconst ((nI (0))) d_La_outcome_1 (by decide) ?_
  refine er_aload_n d_La_outcome_2 rfl ?_
  refine er_iload_n d_La_outcome_3 rfl ?_
  match c, hc with
  | 0, _ =>
    have ho : o1 = .inl (some (.int v)) := ho
    subst ho
    refine er_callV (As := [.int (x0)]) d_La_outcome_4 k_La_outcome_48 h0 rfl rfl rfl (Nat.le_of_ble_eq_true rfl) (by decide) (by decide) hm ?_
    show jl_E l G m_La_outcome (1, 6) 7 [some (.ref 0), some (.int (x0)), some (.ref 53), none] [.int v, .int (nI 0), .ref 53] σ1 P
    refine er_i2l d_La_outcome_7 ?_
    refine er_last d_La_outcome_8 h53' vp_in0 ?_
    refine er_goto 15 d_La_outcome_9 (by decide) ?_
    refine er_iconst (nI 0) d_La_outcome_15 (by decide) ?_
    exact er_iret d_La_outcome_16 rfl (hT _ _ (hrc.s53 hU) (fun i h1 h2 => (List.getElem?_set_ne (by omega)).trans (hfc.2 i h1 (by omega))) (jl_ss h53') (fun _ => rfl)) (by decide) (by decide)
  | 1, _ =>
    have ho : o1 = .inr xA := ho
    subst ho
    refine ⟨_, _, hT f σ1 hrc (fun i h1 h2 => hfc.2 i h1 (by omega)) h53' (fun z => by cases z), ?_⟩
    have hps : ∀ z ∈ ([] : List ExceptionTableEntry), z.catchType ≠ 0 ∧ ∃ nm, Cond.classLink m_La_outcome.1.cls z.catchType nm ∈ jl_gw ∧ nm ∈ jl_xs ∧ xA ≠ nm := fun z hz => by cases hz
    exact jr_callVC (As := [.int (x0)]) d_La_outcome_4 k_La_outcome_48 h0 rfl rfl rfl (Nat.le_of_ble_eq_true rfl) (by decide) (by decide) hm [] ⟨0, 9, 12, 13⟩ [] rfl (by decide) hps (by decide) (by decide) (by decide +kernel) (fun q => jr_astore_nR d_La_outcome_12 (by decide) (jr_iconst (nI 1) d_La_outcome_13 (by decide) (jr_iretE d_La_outcome_14 rfl rfl rfl (by decide) (by decide))))
  | c + 2, h => exact absurd h (by show ¬ c + 2 ≤ 1; omega)
theorem d_La_heap_0 : decode m_La_heap.2.1 0 = .ok (.aload_n 3, 1) := by decide +kernel
theorem d_La_heap_1 : decode m_La_heap.2.1 1 = .ok (.iconst 0, 1) := by decide +kernel
theorem d_La_heap_2 : decode m_La_heap.2.1 2 = .ok (.aload_n 0, 1) := by decide +kernel
theorem d_La_heap_3 : decode m_La_heap.2.1 3 = .ok (.iload_n 1, 1) := by decide +kernel
theorem d_La_heap_4 : decode m_La_heap.2.1 4 = .ok (.iload_n 2, 1) := by decide +kernel
theorem k_La_heap_52 : jl_cv m_La_heap m_JC_heap 52 2 = true := by decide +kernel
theorem d_La_heap_5 : decode m_La_heap.2.1 5 = .ok (.invokevirtual 52, 3) := by decide +kernel
theorem d_La_heap_8 : decode m_La_heap.2.1 8 = .ok (.i2l, 1) := by decide +kernel
theorem d_La_heap_9 : decode m_La_heap.2.1 9 = .ok (.lastore, 1) := by decide +kernel
theorem d_La_heap_10 : decode m_La_heap.2.1 10 = .ok (.goto 7, 3) := by decide +kernel
theorem d_La_heap_17 : decode m_La_heap.2.1 17 = .ok (.iconst 0, 1) := by decide +kernel
theorem d_La_heap_18 : decode m_La_heap.2.1 18 = .ok (.ireturn, 1) := by decide +kernel
theorem d_La_heap_13 : decode m_La_heap.2.1 13 = .ok (.astore 4, 2) := by decide +kernel
theorem d_La_heap_15 : decode m_La_heap.2.1 15 = .ok (.iconst 1, 1) := by decide +kernel
theorem d_La_heap_16 : decode m_La_heap.2.1 16 = .ok (.ireturn, 1) := by decide +kernel
theorem la_heap (hl : l.stackTraces = false) {P : jl_O → jl_S → Prop} {x0 x1 : Int32} (h0 : σ[0]? = some (.inr (6, fs))) (h53 : σ[53]? = some (.inl (2, 1, .inr (.inl f)))) (hU : UI U) (hc : c ≤ [xB].length) (hm : jl_mE l G m_JC_heap (.ref 0 :: [.int x0, .int x1]) σ (fun o σ' => o = oc [xB] c v ∧ RC σ' U ∧ FrC σ σ')) (hT : ∀ (g : Nat → Int64) (σ' : jl_S), RC σ' U → (∀ i, 22 ≤ i → i < 53 → σ'[i]? = σ[i]?) → σ'[53]? = some (.inl (2, 1, .inr (.inl g))) → (c = 0 → g 0 = v.toInt64) → P (.inl (some (.int (nI c)))) σ') : jl_mE l G m_La_heap [.ref 0, .int (x0), .int (x1), .ref 53] σ P := by
  obtain ⟨o1, σ1, ⟨ho, hrc, hfc⟩, hm⟩ := hm
  have h53' : σ1[53]? = some (.inl (2, 1, .inr (.inl f))) := (hfc.2 53 (by decide) (by decide)).trans h53
  refine jl_ofHE (as := [.ref 0, .int (x0), .int (x1), .ref 53]) rfl (by decide) hl (jl_cc rfl (jl_cc rfl (jl_cc rfl (jl_cc rfl jl_ca)))) (Nat.le_of_ble_eq_true rfl) ?_
  show jl_E l G m_La_heap (0, 0) 0 [some (.ref 0), some (.int (x0)), some (.int (x1)), some (.ref 53), none] [] (σ) P
  refine er_aload_n d_La_heap_0 rfl ?_
  refine er_iconst ((nI (0))) d_La_heap_1 (by decide) ?_
  refine er_aload_n d_La_heap_2 rfl ?_
  refine er_iload_n d_La_heap_3 rfl ?_
  refine er_iload_n d_La_heap_4 rfl ?_
  match c, hc with
  | 0, _ =>
    have ho : o1 = .inl (some (.int v)) := ho
    subst ho
    refine er_callV (As := [.int (x0), .int (x1)]) d_La_heap_5 k_La_heap_52 h0 rfl rfl rfl (Nat.le_of_ble_eq_true rfl) (by decide) (by decide) hm ?_
    show jl_E l G m_La_heap (1, 6) 8 [some (.ref 0), some (.int (x0)), some (.int (x1)), some (.ref 53), none] [.int v, .int (nI 0), .ref 53] σ1 P
    refine er_i2l d_La_heap_8 ?_
    refine er_last d_La_heap_9 h53' vp_in0 ?_
    refine er_goto 17 d_La_heap_10 (by decide) ?_
    refine er_iconst (nI 0) d_La_heap_17 (by decide) ?_
    exact er_iret d_La_heap_18 rfl (hT _ _ (hrc.s53 hU) (fun i h1 h2 => (List.getElem?_set_ne (by omega)).trans (hfc.2 i h1 (by omega))) (jl_ss h53') (fun _ => rfl)) (by decide) (by decide)
  | 1, _ =>
    have ho : o1 = .inr xB := ho
    subst ho
    refine ⟨_, _, hT f σ1 hrc (fun i h1 h2 => hfc.2 i h1 (by omega)) h53' (fun z => by cases z), ?_⟩
    have hps : ∀ z ∈ ([] : List ExceptionTableEntry), z.catchType ≠ 0 ∧ ∃ nm, Cond.classLink m_La_heap.1.cls z.catchType nm ∈ jl_gw ∧ nm ∈ jl_xs ∧ xB ≠ nm := fun z hz => by cases hz
    exact jr_callVC (As := [.int (x0), .int (x1)]) d_La_heap_5 k_La_heap_52 h0 rfl rfl rfl (Nat.le_of_ble_eq_true rfl) (by decide) (by decide) hm [] ⟨0, 10, 13, 46⟩ [] rfl (by decide) hps (by decide) (by decide) (by decide +kernel) (fun q => jr_astoreR d_La_heap_13 (by decide) (jr_iconst (nI 1) d_La_heap_15 (by decide) (jr_iretE d_La_heap_16 rfl rfl rfl (by decide) (by decide))))
  | c + 2, h => exact absurd h (by show ¬ c + 2 ≤ 1; omega)
theorem d_La_about_0 : decode m_La_about.2.1 0 = .ok (.aload_n 3, 1) := by decide +kernel
theorem d_La_about_1 : decode m_La_about.2.1 1 = .ok (.iconst 0, 1) := by decide +kernel
theorem d_La_about_2 : decode m_La_about.2.1 2 = .ok (.aload_n 0, 1) := by decide +kernel
theorem d_La_about_3 : decode m_La_about.2.1 3 = .ok (.iload_n 1, 1) := by decide +kernel
theorem d_La_about_4 : decode m_La_about.2.1 4 = .ok (.iload_n 2, 1) := by decide +kernel
theorem k_La_about_55 : jl_cv m_La_about m_JC_about 55 2 = true := by decide +kernel
theorem d_La_about_5 : decode m_La_about.2.1 5 = .ok (.invokevirtual 55, 3) := by decide +kernel
theorem d_La_about_8 : decode m_La_about.2.1 8 = .ok (.i2l, 1) := by decide +kernel
theorem d_La_about_9 : decode m_La_about.2.1 9 = .ok (.lastore, 1) := by decide +kernel
theorem d_La_about_10 : decode m_La_about.2.1 10 = .ok (.goto 7, 3) := by decide +kernel
theorem d_La_about_17 : decode m_La_about.2.1 17 = .ok (.iconst 0, 1) := by decide +kernel
theorem d_La_about_18 : decode m_La_about.2.1 18 = .ok (.ireturn, 1) := by decide +kernel
theorem d_La_about_13 : decode m_La_about.2.1 13 = .ok (.astore 4, 2) := by decide +kernel
theorem d_La_about_15 : decode m_La_about.2.1 15 = .ok (.iconst 1, 1) := by decide +kernel
theorem d_La_about_16 : decode m_La_about.2.1 16 = .ok (.ireturn, 1) := by decide +kernel
theorem la_about (hl : l.stackTraces = false) {P : jl_O → jl_S → Prop} {x0 x1 : Int32} (h0 : σ[0]? = some (.inr (6, fs))) (h53 : σ[53]? = some (.inl (2, 1, .inr (.inl f)))) (hU : UI U) (hc : c ≤ [xA].length) (hm : jl_mE l G m_JC_about (.ref 0 :: [.int x0, .int x1]) σ (fun o σ' => o = oc [xA] c v ∧ RC σ' U ∧ FrC σ σ')) (hT : ∀ (g : Nat → Int64) (σ' : jl_S), RC σ' U → (∀ i, 22 ≤ i → i < 53 → σ'[i]? = σ[i]?) → σ'[53]? = some (.inl (2, 1, .inr (.inl g))) → (c = 0 → g 0 = v.toInt64) → P (.inl (some (.int (nI c)))) σ') : jl_mE l G m_La_about [.ref 0, .int (x0), .int (x1), .ref 53] σ P := by
  obtain ⟨o1, σ1, ⟨ho, hrc, hfc⟩, hm⟩ := hm
  have h53' : σ1[53]? = some (.inl (2, 1, .inr (.inl f))) := (hfc.2 53 (by decide) (by decide)).trans h53
  refine jl_ofHE (as := [.ref 0, .int (x0), .int (x1), .ref 53]) rfl (by decide) hl (jl_cc rfl (jl_cc rfl (jl_cc rfl (jl_cc rfl jl_ca)))) (Nat.le_of_ble_eq_true rfl) ?_
  show jl_E l G m_La_about (0, 0) 0 [some (.ref 0), some (.int (x0)), some (.int (x1)), some (.ref 53), none] [] (σ) P
  refine er_aload_n d_La_about_0 rfl ?_
  refine er_iconst ((nI (0))) d_La_about_1 (by decide) ?_
  refine er_aload_n d_La_about_2 rfl ?_
  refine er_iload_n d_La_about_3 rfl ?_
  refine er_iload_n d_La_about_4 rfl ?_
  match c, hc with
  | 0, _ =>
    have ho : o1 = .inl (some (.int v)) := ho
    subst ho
    refine er_callV (As := [.int (x0), .int (x1)]) d_La_about_5 k_La_about_55 h0 rfl rfl rfl (Nat.le_of_ble_eq_true rfl) (by decide) (by decide) hm ?_
    show jl_E l G m_La_about (2, 12) 8 [some (.ref 0), some (.int (x0)), some (.int (x1)), some (.ref 53), none] [.int v, .int (nI 0), .ref 53] σ1 P
    refine er_i2l d_La_about_8 ?_
    refine er_last d_La_about_9 h53' vp_in0 ?_
    refine er_goto 17 d_La_about_10 (by decide) ?_
    refine er_iconst (nI 0) d_La_about_17 (by decide) ?_
    exact er_iret d_La_about_18 rfl (hT _ _ (hrc.s53 hU) (fun i h1 h2 => (List.getElem?_set_ne (by omega)).trans (hfc.2 i h1 (by omega))) (jl_ss h53') (fun _ => rfl)) (by decide) (by decide)
  | 1, _ =>
    have ho : o1 = .inr xA := ho
    subst ho
    refine ⟨_, _, hT f σ1 hrc (fun i h1 h2 => hfc.2 i h1 (by omega)) h53' (fun z => by cases z), ?_⟩
    have hps : ∀ z ∈ ([] : List ExceptionTableEntry), z.catchType ≠ 0 ∧ ∃ nm, Cond.classLink m_La_about.1.cls z.catchType nm ∈ jl_gw ∧ nm ∈ jl_xs ∧ xA ≠ nm := fun z hz => by cases hz
    exact jr_callVC (As := [.int (x0), .int (x1)]) d_La_about_5 k_La_about_55 h0 rfl rfl rfl (Nat.le_of_ble_eq_true rfl) (by decide) (by decide) hm [] ⟨0, 10, 13, 13⟩ [] rfl (by decide) hps (by decide) (by decide) (by decide +kernel) (fun q => jr_astoreR d_La_about_13 (by decide) (jr_iconst (nI 1) d_La_about_15 (by decide) (jr_iretE d_La_about_16 rfl rfl rfl (by decide) (by decide))))
  | c + 2, h => exact absurd h (by show ¬ c + 2 ≤ 1; omega)
end JLw
