/-! the model: verify (wip/gen/p91.py) -/
section JNf
variable {l : Launch} {G : jl_G} {σ : jl_S}
variable {tb : Nat → Bool} {pr : Nat → Option Nat} {ow fi ft : Nat → Nat} {hs : Nat → Bool} {fa vf wh wy hg dp md ov oh dn an : Int32}
variable {u1 u2 : Nat → Option Nat} {ur ul uo : Nat → Nat} {ua : Nat → Int32} {uc us ut uk : Nat → Nat}
variable {lo sk kp : Rw} {mm : Nat → Int32} {fm : Nat → Bool}
variable {sg : Int32 → Option Sg}
def VRM (tb : Nat → Bool) (pr : Nat → Option Nat) (ow fi ft : Nat → Nat) (sg : Int32 → Option Sg) (u1 u2 : Nat → Option Nat) (ur ul uo : Nat → Nat) (ua : Nat → Int32) (uc us ut uk : Nat → Nat) (m : Nat) : Option (Nat × Nat) × MF := vmA tb pr ow fi ft sg (fun j => uo (24 * m + j)) (fun j => ua (24 * m + j)) (ul m) (fun i => us (2 * m + i) / 32) (fun i => us (2 * m + i) % 32) (fun i => ut (2 * m + i)) (fun i => uk (2 * m + i)) (uc m) (ur m) (m / 4) (u1 m) (u2 m) s00
def thr (tb hs : Nat → Bool) (m : Nat) : Bool := tb (m / 4) && hs m
/-- METHODS below i are without FAULT, with these MAPS; the others have none -/
def vdm (tb : Nat → Bool) (pr : Nat → Option Nat) (ow fi ft : Nat → Nat) (sg : Int32 → Option Sg) (hs : Nat → Bool) (u1 u2 : Nat → Option Nat) (ur ul uo : Nat → Nat) (ua : Nat → Int32) (uc us ut uk : Nat → Nat) (mm : Nat → Int32) (i : Nat) : Prop := ∀ q, q < 24 → if q < i ∧ thr tb hs q = true then (VRM tb pr ow fi ft sg u1 u2 ur ul uo ua uc us ut uk q).1 = none ∧ MpM mm q (VRM tb pr ow fi ft sg u1 u2 ur ul uo ua uc us ut uk q).2.1 else MpM mm q (fun _ => none)
theorem MpM.mf {m q : Nat} {mm mm' : Nat → Int32} {A : Nat → Option Rw} (hf : MmF m mm mm') (hq : q ≠ m) (h : MpM mm q A) : MpM mm' q A := by
  intro pc hpc
  have := h pc hpc
  cases ha : A pc with
  | none => rw [ha] at this; show mm' _ = -2; rw [hf _ (by omega)]; exact this
  | some r => rw [ha] at this; intro i hi; rw [hf _ (by omega)]; exact this i hi
theorem vdm_k {mm : Nat → Int32} {i : Nat} (h : vdm tb pr ow fi ft sg hs u1 u2 ur ul uo ua uc us ut uk mm i) (e : thr tb hs i = false) : vdm tb pr ow fi ft sg hs u1 u2 ur ul uo ua uc us ut uk mm (i + 1) := by
  intro q hq
  have := h q hq
  by_cases z : q = i
  · subst z
    rw [if_neg (by rw [e]; simp)] at this ⊢
    exact this
  · by_cases y : q < i ∧ thr tb hs q = true
    · rw [if_pos y] at this; rw [if_pos ⟨by omega, y.2⟩]; exact this
    · rw [if_neg y] at this; rw [if_neg (fun w => y ⟨by omega, w.2⟩)]; exact this
theorem vdm_s {mm mm' : Nat → Int32} {i : Nat} (h : vdm tb pr ow fi ft sg hs u1 u2 ur ul uo ua uc us ut uk mm i) (e : thr tb hs i = true) (hf : MmF i mm mm') (h1 : (VRM tb pr ow fi ft sg u1 u2 ur ul uo ua uc us ut uk i).1 = none) (h2 : MpM mm' i (VRM tb pr ow fi ft sg u1 u2 ur ul uo ua uc us ut uk i).2.1) : vdm tb pr ow fi ft sg hs u1 u2 ur ul uo ua uc us ut uk mm' (i + 1) := by
  intro q hq
  have := h q hq
  by_cases z : q = i
  · subst z
    rw [if_pos ⟨by omega, e⟩]
    exact ⟨h1, h2⟩
  · by_cases y : q < i ∧ thr tb hs q = true
    · rw [if_pos y] at this; rw [if_pos ⟨by omega, y.2⟩]; exact ⟨this.1, this.2.mf hf z⟩
    · rw [if_neg y] at this; rw [if_neg (fun w => y ⟨by omega, w.2⟩)]; exact this.mf hf z
theorem cn_s {p : Nat → Bool} {n m N : Nat} (h : n + cnt p (24 - m) m = N) (hm : m < 24) (e : p m = true) : n + 1 + cnt p (24 - (m + 1)) (m + 1) = N := by
  rw [show 24 - m = (24 - (m + 1)) + 1 by omega] at h
  simp only [cnt] at h
  rw [if_pos e] at h
  omega
theorem cn_k {p : Nat → Bool} {n m N : Nat} (h : n + cnt p (24 - m) m = N) (hm : m < 24) (e : p m = false) : n + cnt p (24 - (m + 1)) (m + 1) = N := by
  rw [show 24 - m = (24 - (m + 1)) + 1 by omega] at h
  simp only [cnt] at h
  rw [if_neg (by rw [e]; decide)] at h
  omega
theorem cn_z {p : Nat → Bool} {n m N : Nat} (h : n + cnt p (24 - m) m = N) (hm : 24 ≤ m) : n = N := by
  rw [show 24 - m = 0 by omega] at h
  exact h
theorem d_Mo_verify_37 : decode m_Mo_verify.2.1 37 = .ok (.iload_n 2, 1) := by decide +kernel
theorem d_Mo_verify_38 : decode m_Mo_verify.2.1 38 = .ok (.bipush 24, 2) := by decide +kernel
theorem d_Mo_verify_40 : decode m_Mo_verify.2.1 40 = .ok (.if_icmp .ge 49, 3) := by decide +kernel
theorem d_Mo_verify_89 : decode m_Mo_verify.2.1 89 = .ok (.aload_n 0, 1) := by decide +kernel
theorem d_Mo_verify_90 : decode m_Mo_verify.2.1 90 = .ok (.iconst (-1), 1) := by decide +kernel
theorem p_Mo_verify_56 : jl_fp m_Mo_verify 56 7 17 = true := by decide +kernel
theorem d_Mo_verify_91 : decode m_Mo_verify.2.1 91 = .ok (.putfield 56, 3) := by decide +kernel
theorem d_Mo_verify_94 : decode m_Mo_verify.2.1 94 = .ok (.aload_n 0, 1) := by decide +kernel
theorem d_Mo_verify_95 : decode m_Mo_verify.2.1 95 = .ok (.iconst (-1), 1) := by decide +kernel
theorem p_Mo_verify_60 : jl_fp m_Mo_verify 60 7 18 = true := by decide +kernel
theorem d_Mo_verify_96 : decode m_Mo_verify.2.1 96 = .ok (.putfield 60, 3) := by decide +kernel
theorem d_Mo_verify_99 : decode m_Mo_verify.2.1 99 = .ok (.aload_n 0, 1) := by decide +kernel
theorem d_Mo_verify_100 : decode m_Mo_verify.2.1 100 = .ok (.iconst 1, 1) := by decide +kernel
theorem p_Mo_verify_122 : jl_fp m_Mo_verify 122 7 16 = true := by decide +kernel
theorem d_Mo_verify_101 : decode m_Mo_verify.2.1 101 = .ok (.putfield 122, 3) := by decide +kernel
theorem d_Mo_verify_104 : decode m_Mo_verify.2.1 104 = .ok (.iload_n 1, 1) := by decide +kernel
theorem d_Mo_verify_105 : decode m_Mo_verify.2.1 105 = .ok (.ireturn, 1) := by decide +kernel
theorem d_Mo_verify_43 : decode m_Mo_verify.2.1 43 = .ok (.aload_n 0, 1) := by decide +kernel
theorem f_Mo_verify_7 : jl_fd m_Mo_verify 7 7 1 = true := by decide +kernel
theorem d_Mo_verify_44 : decode m_Mo_verify.2.1 44 = .ok (.getfield 7, 3) := by decide +kernel
theorem d_Mo_verify_47 : decode m_Mo_verify.2.1 47 = .ok (.iload_n 2, 1) := by decide +kernel
theorem d_Mo_verify_48 : decode m_Mo_verify.2.1 48 = .ok (.iconst 4, 1) := by decide +kernel
theorem d_Mo_verify_49 : decode m_Mo_verify.2.1 49 = .ok (.idiv, 1) := by decide +kernel
theorem d_Mo_verify_50 : decode m_Mo_verify.2.1 50 = .ok (.baload, 1) := by decide +kernel
theorem d_Mo_verify_51 : decode m_Mo_verify.2.1 51 = .ok (.ifCond .eq 32, 3) := by decide +kernel
theorem d_Mo_verify_83 : decode m_Mo_verify.2.1 83 = .ok (.iinc 2 1, 3) := by decide +kernel
theorem d_Mo_verify_86 : decode m_Mo_verify.2.1 86 = .ok (.goto (-49), 3) := by decide +kernel
theorem d_Mo_verify_54 : decode m_Mo_verify.2.1 54 = .ok (.aload_n 0, 1) := by decide +kernel
theorem f_Mo_verify_23 : jl_fd m_Mo_verify 23 7 5 = true := by decide +kernel
theorem d_Mo_verify_55 : decode m_Mo_verify.2.1 55 = .ok (.getfield 23, 3) := by decide +kernel
theorem d_Mo_verify_58 : decode m_Mo_verify.2.1 58 = .ok (.iload_n 2, 1) := by decide +kernel
theorem d_Mo_verify_59 : decode m_Mo_verify.2.1 59 = .ok (.baload, 1) := by decide +kernel
theorem d_Mo_verify_60 : decode m_Mo_verify.2.1 60 = .ok (.ifCond .ne 6, 3) := by decide +kernel
theorem d_Mo_verify_66 : decode m_Mo_verify.2.1 66 = .ok (.iinc 1 1, 3) := by decide +kernel
theorem d_Mo_verify_69 : decode m_Mo_verify.2.1 69 = .ok (.aload_n 0, 1) := by decide +kernel
theorem d_Mo_verify_70 : decode m_Mo_verify.2.1 70 = .ok (.iload_n 2, 1) := by decide +kernel
theorem k_Mo_verify_218 : jl_cv m_Mo_verify m_Mo_verifyMethod 218 1 = true := by decide +kernel
theorem d_Mo_verify_71 : decode m_Mo_verify.2.1 71 = .ok (.invokevirtual 218, 3) := by decide +kernel
theorem d_Mo_verify_74 : decode m_Mo_verify.2.1 74 = .ok (.ifCond .ne 9, 3) := by decide +kernel
theorem d_Mo_verify_77 : decode m_Mo_verify.2.1 77 = .ok (.aload_n 0, 1) := by decide +kernel
theorem d_Mo_verify_78 : decode m_Mo_verify.2.1 78 = .ok (.iconst 1, 1) := by decide +kernel
theorem k_Mo_verify_118 : jl_cv m_Mo_verify m_Mo_fail 118 1 = true := by decide +kernel
theorem d_Mo_verify_79 : decode m_Mo_verify.2.1 79 = .ok (.invokevirtual 118, 3) := by decide +kernel
theorem d_Mo_verify_82 : decode m_Mo_verify.2.1 82 = .ok (.ireturn, 1) := by decide +kernel
theorem d_Mo_verify_63 : decode m_Mo_verify.2.1 63 = .ok (.goto 20, 3) := by decide +kernel
theorem mo_ver_2 (hl : l.stackTraces = false) {P : jl_O → jl_S → Prop} {σ0 : jl_S}  (hok : WoOk tb pr ow fi) (hK : MoK u1 u2 ur ul uo uc us ut uk) (hsg : SgM tb pr hs u1 u2 ur sg) (hft : ∀ k f, tyv (some (fty pr fi ft k f))) (hsgv : ∀ x g, sg x = some g → tyv (some g.2.2)) (hqs : ∀ m, m < 24 → tyv (u1 m) ∧ tyv (u2 m) ∧ tyv (some (ur m))) (hT : ∀ lo' sk' kp' hg' mm' fm' σ', (∀ j, ob 16 (lo' j)) → (∀ j, ob 16 (sk' j)) → vdm tb pr ow fi ft sg hs u1 u2 ur ul uo ua uc us ut uk mm' 24 → MB σ' tb pr ow ft hs u1 u2 ur ul uo ua uc us ut uk (nI 0) (nI 1) (-1) (-1) hg' dp md ov oh dn an lo' sk' kp' mm' fm' → FrM σ0 σ' → P (.inl (some (.int (nI (cnt (thr tb hs) 24 0))))) σ') (hN : ∀ m pc f lo' sk' kp' hg' mm' fm' σ', (∀ j, ob 16 (lo' j)) → (∀ j, ob 16 (sk' j)) → m < 24 → thr tb hs m = true → (VRM tb pr ow fi ft sg u1 u2 ur ul uo ua uc us ut uk m).1 = some (pc, f) → (∀ q, q < 24 → q ≠ m → if q < m ∧ thr tb hs q = true then (VRM tb pr ow fi ft sg u1 u2 ur ul uo ua uc us ut uk q).1 = none ∧ MpM mm' q (VRM tb pr ow fi ft sg u1 u2 ur ul uo ua uc us ut uk q).2.1 else MpM mm' q (fun _ => none)) → MpM mm' m (VRM tb pr ow fi ft sg u1 u2 ur ul uo ua uc us ut uk m).2.1 → MB σ' tb pr ow ft hs u1 u2 ur ul uo ua uc us ut uk (nI 1) (nI 0) (nI (1000 * (m / 4) + 100 * (m % 4) + pc)) (nI f) hg' dp md ov oh dn an lo' sk' kp' mm' fm' → FrM σ0 σ' → P (.inl (some (.int (nI 0)))) σ') : ∀ (nn : Nat) (m n : Nat) (σ : jl_S) (lo sk kp : Rw) (hg wh wy : Int32) (mm : Nat → Int32) (fm : Nat → Bool), 24 - m < nn → m ≤ 24 → n + cnt (thr tb hs) (24 - m) m = cnt (thr tb hs) 24 0 → MB σ tb pr ow ft hs u1 u2 ur ul uo ua uc us ut uk (nI 0) (nI 0) wh wy hg dp md ov oh dn an lo sk kp mm fm → FrM σ0 σ → (∀ j, ob 16 (lo j)) → (∀ j, ob 16 (sk j)) → vdm tb pr ow fi ft sg hs u1 u2 ur ul uo ua uc us ut uk mm m → jl_E l G m_Mo_verify (0, 0) 37 [some (.ref 22), some (.int (nI n)), some (.int (nI m))] [] σ P := by
  intro nn
  induction nn with
  | zero => intro m n σ lo sk kp hg wh wy mm fm hnn; exact absurd hnn (Nat.not_lt_zero _)
  | succ nn ihn =>
    intro m n σ lo sk kp hg wh wy mm fm hnn hm hn hmb hfr hlo hsk hvd
    obtain ⟨hO, hw, hu, hr, hkp, hmp, hfm⟩ := id hmb; obtain ⟨r1, r2⟩ := id hr
    obtain ⟨h23, h24, h25, h26, h27⟩ := id hw
    obtain ⟨h28, h29, h30, h31, h32, h33, h34, h35, h36, h37⟩ := id hu
    refine er_iload_n d_Mo_verify_37 rfl ?_
    refine er_bipush ((nI (24))) d_Mo_verify_38 (by decide) ?_
    refine er_icmp_geN 89 d_Mo_verify_40 (by decide) (by omega) (by omega) (fun c1 => ?_) (fun c1 => ?_)
    · refine er_aload_n d_Mo_verify_89 rfl ?_
      refine er_iconst ((-1)) d_Mo_verify_90 (by decide) ?_
      refine er_putf d_Mo_verify_91 p_Mo_verify_56 hO (Nat.le_of_ble_eq_true rfl) jl_fit_int ?_
      show jl_E l G m_Mo_verify (0, 0) 94 [some (.ref 22), some (.int (nI n)), some (.int (nI m))] [] (σ.set (22) (.inr (7, [.int (nI 0), .ref 23, .ref 24, .ref 25, .ref 26, .ref 27, .ref 28, .ref 29, .ref 30, .ref 31, .ref 32, .ref 33, .ref 34, .ref 35, .ref 36, .ref 37, .int (nI 0), .int (-1), .int (wy), .ref 38, .ref 39, .ref 40, .ref 41, .int (hg), .ref 42, .ref 43, .ref 44, .ref 45, .ref 46, .ref 47, .ref 48, .ref 49, .int (dp), .ref 50, .ref 51, .ref 52, .int (md), .int (ov), .int (oh), .int (dn), .int (an)]))) P
      refine er_aload_n d_Mo_verify_94 rfl ?_
      refine er_iconst ((-1)) d_Mo_verify_95 (by decide) ?_
      refine er_putf d_Mo_verify_96 p_Mo_verify_60 (jl_ss hO) (Nat.le_of_ble_eq_true rfl) jl_fit_int ?_
      show jl_E l G m_Mo_verify (0, 0) 99 [some (.ref 22), some (.int (nI n)), some (.int (nI m))] [] ((σ.set (22) (.inr (7, [.int (nI 0), .ref 23, .ref 24, .ref 25, .ref 26, .ref 27, .ref 28, .ref 29, .ref 30, .ref 31, .ref 32, .ref 33, .ref 34, .ref 35, .ref 36, .ref 37, .int (nI 0), .int (-1), .int (wy), .ref 38, .ref 39, .ref 40, .ref 41, .int (hg), .ref 42, .ref 43, .ref 44, .ref 45, .ref 46, .ref 47, .ref 48, .ref 49, .int (dp), .ref 50, .ref 51, .ref 52, .int (md), .int (ov), .int (oh), .int (dn), .int (an)]))).set (22) (.inr (7, [.int (nI 0), .ref 23, .ref 24, .ref 25, .ref 26, .ref 27, .ref 28, .ref 29, .ref 30, .ref 31, .ref 32, .ref 33, .ref 34, .ref 35, .ref 36, .ref 37, .int (nI 0), .int (-1), .int (-1), .ref 38, .ref 39, .ref 40, .ref 41, .int (hg), .ref 42, .ref 43, .ref 44, .ref 45, .ref 46, .ref 47, .ref 48, .ref 49, .int (dp), .ref 50, .ref 51, .ref 52, .int (md), .int (ov), .int (oh), .int (dn), .int (an)]))) P
      refine er_aload_n d_Mo_verify_99 rfl ?_
      refine er_iconst ((nI (1))) d_Mo_verify_100 (by decide) ?_
      refine er_putf d_Mo_verify_101 p_Mo_verify_122 (jl_ss (jl_ss hO)) (Nat.le_of_ble_eq_true rfl) jl_fit_b1 ?_
      show jl_E l G m_Mo_verify (0, 0) 104 [some (.ref 22), some (.int (nI n)), some (.int (nI m))] [] (((σ.set (22) (.inr (7, [.int (nI 0), .ref 23, .ref 24, .ref 25, .ref 26, .ref 27, .ref 28, .ref 29, .ref 30, .ref 31, .ref 32, .ref 33, .ref 34, .ref 35, .ref 36, .ref 37, .int (nI 0), .int (-1), .int (wy), .ref 38, .ref 39, .ref 40, .ref 41, .int (hg), .ref 42, .ref 43, .ref 44, .ref 45, .ref 46, .ref 47, .ref 48, .ref 49, .int (dp), .ref 50, .ref 51, .ref 52, .int (md), .int (ov), .int (oh), .int (dn), .int (an)]))).set (22) (.inr (7, [.int (nI 0), .ref 23, .ref 24, .ref 25, .ref 26, .ref 27, .ref 28, .ref 29, .ref 30, .ref 31, .ref 32, .ref 33, .ref 34, .ref 35, .ref 36, .ref 37, .int (nI 0), .int (-1), .int (-1), .ref 38, .ref 39, .ref 40, .ref 41, .int (hg), .ref 42, .ref 43, .ref 44, .ref 45, .ref 46, .ref 47, .ref 48, .ref 49, .int (dp), .ref 50, .ref 51, .ref 52, .int (md), .int (ov), .int (oh), .int (dn), .int (an)]))).set (22) (.inr (7, [.int (nI 0), .ref 23, .ref 24, .ref 25, .ref 26, .ref 27, .ref 28, .ref 29, .ref 30, .ref 31, .ref 32, .ref 33, .ref 34, .ref 35, .ref 36, .ref 37, .int (nI 1), .int (-1), .int (-1), .ref 38, .ref 39, .ref 40, .ref 41, .int (hg), .ref 42, .ref 43, .ref 44, .ref 45, .ref 46, .ref 47, .ref 48, .ref 49, .int (dp), .ref 50, .ref 51, .ref 52, .int (md), .int (ov), .int (oh), .int (dn), .int (an)]))) P
      refine er_iload_n d_Mo_verify_104 rfl ?_
      exact er_iret d_Mo_verify_105 rfl (by rw [cn_z hn (by omega)]; exact hT lo sk kp hg mm fm _ hlo hsk (by have z := hvd; rw [show m = 24 by omega] at z; exact z) hmb.s22.s22.s22 (((hfr.set (by omega)).set (by omega)).set (by omega))) (by decide) (by decide)
    · refine er_aload_n d_Mo_verify_43 rfl ?_
      refine er_getf d_Mo_verify_44 f_Mo_verify_7 hO rfl ?_
      refine er_iload_n d_Mo_verify_47 rfl ?_
      refine er_iconst ((nI (4))) d_Mo_verify_48 (by decide) ?_
      refine er_idivN d_Mo_verify_49 (by omega) (by omega) (by omega) ?_
      refine er_baldN d_Mo_verify_50 h23 (by omega) (by omega) ?_
      refine er_if_eq 83 d_Mo_verify_51 (by decide) (fun c2 => ?_) (fun c2 => ?_)
      · refine er_iinc ((nI (m + 1))) d_Mo_verify_83 (by decide) rfl (jl_inc _) ?_
        show jl_E l G m_Mo_verify (0, 0) 86 [some (.ref 22), some (.int (nI n)), some (.int (nI (m + 1)))] [] (σ) P
        refine er_goto 37 d_Mo_verify_86 (by decide) ?_
        exact ihn (m + 1) n σ lo sk kp hg wh wy mm fm (by omega) (by omega) (cn_k hn (by omega) (by unfold thr; rw [bi_0.mp c2]; rfl)) hmb hfr hlo hsk (vdm_k hvd (by unfold thr; rw [bi_0.mp c2]; rfl))
      · refine er_aload_n d_Mo_verify_54 rfl ?_
        refine er_getf d_Mo_verify_55 f_Mo_verify_23 hO rfl ?_
        refine er_iload_n d_Mo_verify_58 rfl ?_
        refine er_baldN d_Mo_verify_59 h27 (by omega) (by omega) ?_
        refine er_if_ne 66 d_Mo_verify_60 (by decide) (fun c3 => ?_) (fun c3 => ?_)
        · refine er_iinc ((nI (n + 1))) d_Mo_verify_66 (by decide) rfl (jl_inc _) ?_
          show jl_E l G m_Mo_verify (0, 0) 69 [some (.ref 22), some (.int (nI (n + 1))), some (.int (nI m))] [] (σ) P
          refine er_aload_n d_Mo_verify_69 rfl ?_
          refine er_iload_n d_Mo_verify_70 rfl ?_
          have htr : thr tb hs m = true := by unfold thr; rw [bi_nf c2, bi_nf c3]; rfl
          have hem : MpM mm m s00.1 := by have z := hvd m (by omega); rw [if_neg (by omega)] at z; exact z
          obtain ⟨q1, q2, q3⟩ := hqs m (by omega)
          refine er_callVE (As := [.int (nI m)]) d_Mo_verify_71 k_Mo_verify_218 hO rfl rfl rfl (Nat.le_of_ble_eq_true rfl) (by decide) (by decide) (mo_vm hl hmb hok hK (by omega) hsg hft hsgv q1 q2 q3 hem hlo hsk (fun s1 e lo sk kp hg wy mm9 fm σ hlo hsk hA hmf hmb hfr1 => ⟨_, rfl, ?_⟩) (fun pc f s1 e lo sk kp hg mm9 fm σ hlo hsk hA hmf hmb hfr1 => ⟨_, rfl, ?_⟩))
          · skip
            have hfr := hfr.trans hfr1
            show jl_E l G m_Mo_verify (0, 0) 74 [some (.ref 22), some (.int (nI (n + 1))), some (.int (nI m))] [.int (nI 1)] (σ) P
            refine er_if_ne 83 d_Mo_verify_74 (by decide) (fun _ => ?_) (fun z => absurd z (by decide))
            refine er_iinc ((nI (m + 1))) d_Mo_verify_83 (by decide) rfl (jl_inc _) ?_
            show jl_E l G m_Mo_verify (0, 0) 86 [some (.ref 22), some (.int (nI (n + 1))), some (.int (nI (m + 1)))] [] (σ) P
            refine er_goto 37 d_Mo_verify_86 (by decide) ?_
            exact ihn (m + 1) (n + 1) σ lo sk kp hg _ _ mm9 fm (by omega) (by omega) (cn_s hn (by omega) htr) hmb hfr hlo hsk (vdm_s hvd htr hmf (by unfold VRM; rw [e]) (by unfold VRM; rw [e]; exact hA))
          · skip
            have hfr := hfr.trans hfr1
            obtain ⟨hO, hw, hu, hr, hkp, hmp, hfm⟩ := id hmb; obtain ⟨r1, r2⟩ := id hr
            obtain ⟨h23, h24, h25, h26, h27⟩ := id hw
            obtain ⟨h28, h29, h30, h31, h32, h33, h34, h35, h36, h37⟩ := id hu
            show jl_E l G m_Mo_verify (0, 0) 74 [some (.ref 22), some (.int (nI (n + 1))), some (.int (nI m))] [.int (nI 0)] (σ) P
            refine er_if_ne 83 d_Mo_verify_74 (by decide) (fun z => absurd rfl z) (fun _ => ?_)
            refine er_aload_n d_Mo_verify_77 rfl ?_
            refine er_iconst ((nI (1))) d_Mo_verify_78 (by decide) ?_
            refine er_callV (As := [.int (nI 1)]) d_Mo_verify_79 k_Mo_verify_118 hO rfl rfl rfl (Nat.le_of_ble_eq_true rfl) (by decide) (by decide) (mo_fail hl hO hw) ?_
            show jl_E l G m_Mo_verify (0, 0) 82 [some (.ref 22), some (.int (nI (n + 1))), some (.int (nI m))] [.int (nI 0)] (σ.set (22) (.inr (7, [.int (nI 1), .ref 23, .ref 24, .ref 25, .ref 26, .ref 27, .ref 28, .ref 29, .ref 30, .ref 31, .ref 32, .ref 33, .ref 34, .ref 35, .ref 36, .ref 37, .int (nI 0), .int (nI (1000 * (m / 4) + 100 * (m % 4) + pc)), .int (nI f), .ref 38, .ref 39, .ref 40, .ref 41, .int (hg), .ref 42, .ref 43, .ref 44, .ref 45, .ref 46, .ref 47, .ref 48, .ref 49, .int (dp), .ref 50, .ref 51, .ref 52, .int (md), .int (ov), .int (oh), .int (dn), .int (an)]))) P
            exact er_iret d_Mo_verify_82 rfl (hN m pc f lo sk kp hg mm9 fm _ hlo hsk (by omega) htr (by unfold VRM; rw [e]) (fun q hq hne => by have z := hvd q hq; by_cases y : q < m ∧ thr tb hs q = true; (rw [if_pos y] at z ⊢; exact ⟨z.1, z.2.mf hmf hne⟩); rw [if_neg y] at z ⊢; exact z.mf hmf hne) (by unfold VRM; rw [e]; exact hA) hmb.s22 (hfr.set (by omega))) (by decide) (by decide)
        · refine er_goto 83 d_Mo_verify_63 (by decide) ?_
          refine er_iinc ((nI (m + 1))) d_Mo_verify_83 (by decide) rfl (jl_inc _) ?_
          show jl_E l G m_Mo_verify (0, 0) 86 [some (.ref 22), some (.int (nI n)), some (.int (nI (m + 1)))] [] (σ) P
          refine er_goto 37 d_Mo_verify_86 (by decide) ?_
          exact ihn (m + 1) n σ lo sk kp hg wh wy mm fm (by omega) (by omega) (cn_k hn (by omega) (by unfold thr; rw [bi_0.mp c3]; exact Bool.and_false _)) hmb hfr hlo hsk (vdm_k hvd (by unfold thr; rw [bi_0.mp c3]; exact Bool.and_false _))
theorem d_Mo_verify_12 : decode m_Mo_verify.2.1 12 = .ok (.iload_n 1, 1) := by decide +kernel
theorem d_Mo_verify_13 : decode m_Mo_verify.2.1 13 = .ok (.sipush 6912, 3) := by decide +kernel
theorem d_Mo_verify_16 : decode m_Mo_verify.2.1 16 = .ok (.if_icmp .ge 17, 3) := by decide +kernel
theorem d_Mo_verify_33 : decode m_Mo_verify.2.1 33 = .ok (.iconst 0, 1) := by decide +kernel
theorem d_Mo_verify_34 : decode m_Mo_verify.2.1 34 = .ok (.istore_n 1, 1) := by decide +kernel
theorem d_Mo_verify_35 : decode m_Mo_verify.2.1 35 = .ok (.iconst 0, 1) := by decide +kernel
theorem d_Mo_verify_36 : decode m_Mo_verify.2.1 36 = .ok (.istore_n 2, 1) := by decide +kernel
theorem d_Mo_verify_19 : decode m_Mo_verify.2.1 19 = .ok (.aload_n 0, 1) := by decide +kernel
theorem f_Mo_verify_63 : jl_fd m_Mo_verify 63 7 19 = true := by decide +kernel
theorem d_Mo_verify_20 : decode m_Mo_verify.2.1 20 = .ok (.getfield 63, 3) := by decide +kernel
theorem d_Mo_verify_23 : decode m_Mo_verify.2.1 23 = .ok (.iload_n 1, 1) := by decide +kernel
theorem d_Mo_verify_24 : decode m_Mo_verify.2.1 24 = .ok (.bipush (-2), 2) := by decide +kernel
theorem d_Mo_verify_26 : decode m_Mo_verify.2.1 26 = .ok (.iastore, 1) := by decide +kernel
theorem d_Mo_verify_27 : decode m_Mo_verify.2.1 27 = .ok (.iinc 1 1, 3) := by decide +kernel
theorem d_Mo_verify_30 : decode m_Mo_verify.2.1 30 = .ok (.goto (-18), 3) := by decide +kernel
theorem mo_ver_1 (hl : l.stackTraces = false) {P : jl_O → jl_S → Prop} {σ0 : jl_S}  (hok : WoOk tb pr ow fi) (hK : MoK u1 u2 ur ul uo uc us ut uk) (hsg : SgM tb pr hs u1 u2 ur sg) (hft : ∀ k f, tyv (some (fty pr fi ft k f))) (hsgv : ∀ x g, sg x = some g → tyv (some g.2.2)) (hqs : ∀ m, m < 24 → tyv (u1 m) ∧ tyv (u2 m) ∧ tyv (some (ur m))) (hlo : ∀ j, ob 16 (lo j)) (hsk : ∀ j, ob 16 (sk j)) (hT : ∀ lo' sk' kp' hg' mm' fm' σ', (∀ j, ob 16 (lo' j)) → (∀ j, ob 16 (sk' j)) → vdm tb pr ow fi ft sg hs u1 u2 ur ul uo ua uc us ut uk mm' 24 → MB σ' tb pr ow ft hs u1 u2 ur ul uo ua uc us ut uk (nI 0) (nI 1) (-1) (-1) hg' dp md ov oh dn an lo' sk' kp' mm' fm' → FrM σ0 σ' → P (.inl (some (.int (nI (cnt (thr tb hs) 24 0))))) σ') (hN : ∀ m pc f lo' sk' kp' hg' mm' fm' σ', (∀ j, ob 16 (lo' j)) → (∀ j, ob 16 (sk' j)) → m < 24 → thr tb hs m = true → (VRM tb pr ow fi ft sg u1 u2 ur ul uo ua uc us ut uk m).1 = some (pc, f) → (∀ q, q < 24 → q ≠ m → if q < m ∧ thr tb hs q = true then (VRM tb pr ow fi ft sg u1 u2 ur ul uo ua uc us ut uk q).1 = none ∧ MpM mm' q (VRM tb pr ow fi ft sg u1 u2 ur ul uo ua uc us ut uk q).2.1 else MpM mm' q (fun _ => none)) → MpM mm' m (VRM tb pr ow fi ft sg u1 u2 ur ul uo ua uc us ut uk m).2.1 → MB σ' tb pr ow ft hs u1 u2 ur ul uo ua uc us ut uk (nI 1) (nI 0) (nI (1000 * (m / 4) + 100 * (m % 4) + pc)) (nI f) hg' dp md ov oh dn an lo' sk' kp' mm' fm' → FrM σ0 σ' → P (.inl (some (.int (nI 0)))) σ') : ∀ (nn : Nat) (i : Nat) (σ : jl_S) (mm : Nat → Int32), 6912 - i < nn → i ≤ 6912 → MB σ tb pr ow ft hs u1 u2 ur ul uo ua uc us ut uk (nI 0) (nI 0) wh wy hg dp md ov oh dn an lo sk kp mm fm → FrM σ0 σ → (∀ j, j < i → mm j = -2) → jl_E l G m_Mo_verify (0, 0) 12 [some (.ref 22), some (.int (nI i)), none] [] σ P := by
  intro nn
  induction nn with
  | zero => intro i σ mm hnn; exact absurd hnn (Nat.not_lt_zero _)
  | succ nn ihn =>
    intro i σ mm hnn hi hmb hfr hz
    obtain ⟨hO, hw, hu, hr, hkp, hmp, hfm⟩ := id hmb; obtain ⟨r1, r2⟩ := id hr
    obtain ⟨h23, h24, h25, h26, h27⟩ := id hw
    obtain ⟨h28, h29, h30, h31, h32, h33, h34, h35, h36, h37⟩ := id hu
    refine er_iload_n d_Mo_verify_12 rfl ?_
    refine er_sipush ((nI (6912))) d_Mo_verify_13 (by decide) ?_
    refine er_icmp_geN 33 d_Mo_verify_16 (by decide) (by omega) (by omega) (fun c1 => ?_) (fun c1 => ?_)
    · refine er_iconst ((nI (0))) d_Mo_verify_33 (by decide) ?_
      refine er_istore_n d_Mo_verify_34 (by decide) ?_
      show jl_E l G m_Mo_verify (0, 0) 35 [some (.ref 22), some (.int (nI 0)), none] [] (σ) P
      refine er_iconst ((nI (0))) d_Mo_verify_35 (by decide) ?_
      refine er_istore_n d_Mo_verify_36 (by decide) ?_
      show jl_E l G m_Mo_verify (0, 0) 37 [some (.ref 22), some (.int (nI 0)), some (.int (nI 0))] [] (σ) P
      exact mo_ver_2 hl hok hK hsg hft hsgv hqs hT hN 25 0 0 σ lo sk kp hg wh wy mm fm (by omega) (by omega) (by rw [Nat.zero_add]) hmb hfr hlo hsk (fun q hq => by rw [if_neg (by omega)]; exact fun pc hpc => hz _ (by omega))
    · refine er_aload_n d_Mo_verify_19 rfl ?_
      refine er_getf d_Mo_verify_20 f_Mo_verify_63 hO rfl ?_
      refine er_iload_n d_Mo_verify_23 rfl ?_
      refine er_bipush ((-2)) d_Mo_verify_24 (by decide) ?_
      refine er_iastN d_Mo_verify_26 hmp (by omega) (by omega) ?_
      show jl_E l G m_Mo_verify (0, 0) 27 [some (.ref 22), some (.int (nI i)), none] [] (σ.set (38) (.inl (0, 6912, .inl (upd (mm) (i) ((-2)))))) P
      refine er_iinc ((nI (i + 1))) d_Mo_verify_27 (by decide) rfl (jl_inc _) ?_
      show jl_E l G m_Mo_verify (0, 0) 30 [some (.ref 22), some (.int (nI (i + 1))), none] [] (σ.set (38) (.inl (0, 6912, .inl (upd (mm) (i) ((-2)))))) P
      refine er_goto 12 d_Mo_verify_30 (by decide) ?_
      exact ihn (i + 1) _ _ (by omega) (by omega) hmb.s38 (hfr.set (by omega)) (fun j hj => by simp only [upd]; by_cases e : j = i; (rw [if_pos e]); rw [if_neg e]; exact hz j (by omega))
theorem d_Mo_verify_0 : decode m_Mo_verify.2.1 0 = .ok (.aload_n 0, 1) := by decide +kernel
theorem d_Mo_verify_1 : decode m_Mo_verify.2.1 1 = .ok (.iconst 0, 1) := by decide +kernel
theorem p_Mo_verify_111 : jl_fp m_Mo_verify 111 7 0 = true := by decide +kernel
theorem d_Mo_verify_2 : decode m_Mo_verify.2.1 2 = .ok (.putfield 111, 3) := by decide +kernel
theorem d_Mo_verify_5 : decode m_Mo_verify.2.1 5 = .ok (.aload_n 0, 1) := by decide +kernel
theorem d_Mo_verify_6 : decode m_Mo_verify.2.1 6 = .ok (.iconst 0, 1) := by decide +kernel
theorem d_Mo_verify_7 : decode m_Mo_verify.2.1 7 = .ok (.putfield 122, 3) := by decide +kernel
theorem d_Mo_verify_10 : decode m_Mo_verify.2.1 10 = .ok (.iconst 0, 1) := by decide +kernel
theorem d_Mo_verify_11 : decode m_Mo_verify.2.1 11 = .ok (.istore_n 1, 1) := by decide +kernel
theorem mo_verify (hl : l.stackTraces = false) {P : jl_O → jl_S → Prop}  (hmb : MB σ tb pr ow ft hs u1 u2 ur ul uo ua uc us ut uk fa vf wh wy hg dp md ov oh dn an lo sk kp mm fm) (hok : WoOk tb pr ow fi) (hK : MoK u1 u2 ur ul uo uc us ut uk) (hsg : SgM tb pr hs u1 u2 ur sg) (hft : ∀ k f, tyv (some (fty pr fi ft k f))) (hsgv : ∀ x g, sg x = some g → tyv (some g.2.2)) (hqs : ∀ m, m < 24 → tyv (u1 m) ∧ tyv (u2 m) ∧ tyv (some (ur m))) (hlo : ∀ j, ob 16 (lo j)) (hsk : ∀ j, ob 16 (sk j)) (hT : ∀ lo' sk' kp' hg' mm' fm' σ', (∀ j, ob 16 (lo' j)) → (∀ j, ob 16 (sk' j)) → vdm tb pr ow fi ft sg hs u1 u2 ur ul uo ua uc us ut uk mm' 24 → MB σ' tb pr ow ft hs u1 u2 ur ul uo ua uc us ut uk (nI 0) (nI 1) (-1) (-1) hg' dp md ov oh dn an lo' sk' kp' mm' fm' → FrM σ σ' → P (.inl (some (.int (nI (cnt (thr tb hs) 24 0))))) σ') (hN : ∀ m pc f lo' sk' kp' hg' mm' fm' σ', (∀ j, ob 16 (lo' j)) → (∀ j, ob 16 (sk' j)) → m < 24 → thr tb hs m = true → (VRM tb pr ow fi ft sg u1 u2 ur ul uo ua uc us ut uk m).1 = some (pc, f) → (∀ q, q < 24 → q ≠ m → if q < m ∧ thr tb hs q = true then (VRM tb pr ow fi ft sg u1 u2 ur ul uo ua uc us ut uk q).1 = none ∧ MpM mm' q (VRM tb pr ow fi ft sg u1 u2 ur ul uo ua uc us ut uk q).2.1 else MpM mm' q (fun _ => none)) → MpM mm' m (VRM tb pr ow fi ft sg u1 u2 ur ul uo ua uc us ut uk m).2.1 → MB σ' tb pr ow ft hs u1 u2 ur ul uo ua uc us ut uk (nI 1) (nI 0) (nI (1000 * (m / 4) + 100 * (m % 4) + pc)) (nI f) hg' dp md ov oh dn an lo' sk' kp' mm' fm' → FrM σ σ' → P (.inl (some (.int (nI 0)))) σ') : jl_mE l G m_Mo_verify [.ref 22] σ P := by
  obtain ⟨hO, hw, hu, hr, hkp, hmp, hfm⟩ := id hmb; obtain ⟨r1, r2⟩ := id hr
  obtain ⟨h23, h24, h25, h26, h27⟩ := id hw
  obtain ⟨h28, h29, h30, h31, h32, h33, h34, h35, h36, h37⟩ := id hu
  refine jl_ofE (as := [.ref 22]) rfl (by decide) hl (jl_cc rfl jl_ca) (Nat.le_of_ble_eq_true rfl) ?_
  show jl_E l G m_Mo_verify (0, 0) 0 [some (.ref 22), none, none] [] (σ) P
  refine er_aload_n d_Mo_verify_0 rfl ?_
  refine er_iconst ((nI (0))) d_Mo_verify_1 (by decide) ?_
  refine er_putf d_Mo_verify_2 p_Mo_verify_111 hO (Nat.le_of_ble_eq_true rfl) jl_fit_int ?_
  show jl_E l G m_Mo_verify (0, 0) 5 [some (.ref 22), none, none] [] (σ.set (22) (.inr (7, [.int (nI 0), .ref 23, .ref 24, .ref 25, .ref 26, .ref 27, .ref 28, .ref 29, .ref 30, .ref 31, .ref 32, .ref 33, .ref 34, .ref 35, .ref 36, .ref 37, .int (vf), .int (wh), .int (wy), .ref 38, .ref 39, .ref 40, .ref 41, .int (hg), .ref 42, .ref 43, .ref 44, .ref 45, .ref 46, .ref 47, .ref 48, .ref 49, .int (dp), .ref 50, .ref 51, .ref 52, .int (md), .int (ov), .int (oh), .int (dn), .int (an)]))) P
  refine er_aload_n d_Mo_verify_5 rfl ?_
  refine er_iconst ((nI (0))) d_Mo_verify_6 (by decide) ?_
  refine er_putf d_Mo_verify_7 p_Mo_verify_122 (jl_ss hO) (Nat.le_of_ble_eq_true rfl) jl_fit_b0 ?_
  show jl_E l G m_Mo_verify (0, 0) 10 [some (.ref 22), none, none] [] ((σ.set (22) (.inr (7, [.int (nI 0), .ref 23, .ref 24, .ref 25, .ref 26, .ref 27, .ref 28, .ref 29, .ref 30, .ref 31, .ref 32, .ref 33, .ref 34, .ref 35, .ref 36, .ref 37, .int (vf), .int (wh), .int (wy), .ref 38, .ref 39, .ref 40, .ref 41, .int (hg), .ref 42, .ref 43, .ref 44, .ref 45, .ref 46, .ref 47, .ref 48, .ref 49, .int (dp), .ref 50, .ref 51, .ref 52, .int (md), .int (ov), .int (oh), .int (dn), .int (an)]))).set (22) (.inr (7, [.int (nI 0), .ref 23, .ref 24, .ref 25, .ref 26, .ref 27, .ref 28, .ref 29, .ref 30, .ref 31, .ref 32, .ref 33, .ref 34, .ref 35, .ref 36, .ref 37, .int (nI 0), .int (wh), .int (wy), .ref 38, .ref 39, .ref 40, .ref 41, .int (hg), .ref 42, .ref 43, .ref 44, .ref 45, .ref 46, .ref 47, .ref 48, .ref 49, .int (dp), .ref 50, .ref 51, .ref 52, .int (md), .int (ov), .int (oh), .int (dn), .int (an)]))) P
  refine er_iconst ((nI (0))) d_Mo_verify_10 (by decide) ?_
  refine er_istore_n d_Mo_verify_11 (by decide) ?_
  show jl_E l G m_Mo_verify (0, 0) 12 [some (.ref 22), some (.int (nI 0)), none] [] ((σ.set (22) (.inr (7, [.int (nI 0), .ref 23, .ref 24, .ref 25, .ref 26, .ref 27, .ref 28, .ref 29, .ref 30, .ref 31, .ref 32, .ref 33, .ref 34, .ref 35, .ref 36, .ref 37, .int (vf), .int (wh), .int (wy), .ref 38, .ref 39, .ref 40, .ref 41, .int (hg), .ref 42, .ref 43, .ref 44, .ref 45, .ref 46, .ref 47, .ref 48, .ref 49, .int (dp), .ref 50, .ref 51, .ref 52, .int (md), .int (ov), .int (oh), .int (dn), .int (an)]))).set (22) (.inr (7, [.int (nI 0), .ref 23, .ref 24, .ref 25, .ref 26, .ref 27, .ref 28, .ref 29, .ref 30, .ref 31, .ref 32, .ref 33, .ref 34, .ref 35, .ref 36, .ref 37, .int (nI 0), .int (wh), .int (wy), .ref 38, .ref 39, .ref 40, .ref 41, .int (hg), .ref 42, .ref 43, .ref 44, .ref 45, .ref 46, .ref 47, .ref 48, .ref 49, .int (dp), .ref 50, .ref 51, .ref 52, .int (md), .int (ov), .int (oh), .int (dn), .int (an)]))) P
  exact mo_ver_1 hl hok hK hsg hft hsgv hqs hlo hsk hT hN 6913 0 _ mm (by omega) (by omega) hmb.s22.s22 ((FrM.refl.set (by omega)).set (by omega)) (fun j hj => absurd hj (Nat.not_lt_zero _))
end JNf
