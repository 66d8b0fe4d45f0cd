/-! the model's machine: make, create (wip/gen/p97zc.py) -/
section JNzc
variable {l : Launch} {G : jl_G} {σ : jl_S}
variable {tb : Nat → Bool} {pr : Nat → Option Nat} {ow fi ft : Nat → Nat} {hs : Nat → Bool} {fa vf wh wy hg dp md ov oh dn an : Int32}
variable {u1 u2 : Nat → Option Nat} {ur ul uo : Nat → Nat} {ua : Nat → Int32} {uc us ut uk : Nat → Nat}
variable {σ0 : jl_S} {N t m p h b n : Nat} {R : Rw} {V : Nat → Int32} {fs : List Fm} {H : Hp} {fa vf wh wy hg ov oh dn an x a v : Int32} {y : Option Nat}
variable {mq k : Nat} {ks kv kv0 : Nat → Int32} {kc : Nat → Nat}
/-- the model's machine, what is made told apart -/
def NR (σ0 σ : jl_S) (N t m p h : Nat) (R : Rw) (V : Nat → Int32) (fs : List Fm) (mq : Nat) (ks : Nat → Int32) (kc : Nat → Nat) (kv : Nat → Int32) (fa vf wh wy hg ov oh dn an : Int32) : Prop :=
  ∃ fx fp fh lw lk vl vk lo sk, MoO σ fa vf wh wy hg (nI (t + 1)) (nI mq) ov oh dn an ∧ σ[43]? = some (.inl (0, 13, .inl fun j => nI (fx j))) ∧ σ[44]? = some (.inl (0, 13, .inl fun j => nI (fp j))) ∧ σ[45]? = some (.inl (0, 13, .inl fun j => nI (fh j))) ∧ σ[46]? = some (.inl (0, 78, .inl lw)) ∧ σ[47]? = some (.inl (0, 78, .inl lk)) ∧ σ[48]? = some (.inl (0, 65, .inl vl)) ∧ σ[49]? = some (.inl (0, 65, .inl vk)) ∧ MoH σ ks kc kv ∧ FY fx fp fh lw lk vl vk N t m p h R V fs ∧ (MoR σ lo sk ∧ (∀ j, ob 16 (lo j)) ∧ ∀ j, ob 16 (sk j)) ∧ FrN σ0 σ
theorem NR.nb {H' : Hp} (h1 : NR σ0 σ N t m p h R V fs H'.n ks kc kv fa vf wh wy hg ov oh dn an) (hB : HpB H' ks kc kv) : NB σ0 σ N t m p h R V fs H' fa vf wh wy hg ov oh dn an := by
  obtain ⟨fx, fp, fh, lw, lk, vl, vk, lo, sk, hO, f1, f2, f3, f4, f5, f6, f7, hH, hy1, hR1, hF⟩ := h1
  exact ⟨fx, fp, fh, lw, lk, vl, vk, ks, kc, kv, lo, sk, hO, f1, f2, f3, f4, f5, f6, f7, hH, hB, hy1, hR1, hF⟩
theorem HpB.mk {z : Option Nat} {g : Nat → Int32} {ty : Nat → Option Nat} (hB : HpB H ks kc kv0) (hz : ∀ j, H.sz j ≤ 18) (hn : n ≤ 18) (hw : wrt kv0 kv (18 * H.n) n g) : HpB ⟨H.n + 1, va_up H.sz H.n n, ty, wr H.va (H.n * 18) n g, va_up H.so H.n z⟩ (upd ks H.n (soI z)) (va_up kc H.n n) kv := by
  intro q hq
  have hq : q < H.n + 1 := hq
  show upd ks H.n (soI z) q = soI (va_up H.so H.n z q) ∧ va_up kc H.n n q = va_up H.sz H.n n q ∧ ∀ i, i < va_up H.sz H.n n q → kv (18 * q + i) = wr H.va (H.n * 18) n g (q * 18 + i)
  rw [upd_up]
  by_cases e : q = H.n
  · rw [e, va_up_self, va_up_self, va_up_self, va_up_self]
    refine ⟨rfl, rfl, fun i hi => ?_⟩
    rw [hw, if_pos (by omega), wr_in hi, Nat.add_sub_cancel_left]
  · rw [va_up_ne _ _ e, va_up_ne _ _ e, va_up_ne _ _ e, va_up_ne _ _ e]
    obtain ⟨a, b, c⟩ := hB q (by omega)
    refine ⟨a, b, fun i hi => ?_⟩
    have := hz q
    rw [hw, if_neg (by omega), wr_out (by omega)]
    exact c i hi
theorem d_Mo_make_40 : decode m_Mo_make.2.1 40 = .ok (.iload_n 3, 1) := by decide +kernel
theorem d_Mo_make_41 : decode m_Mo_make.2.1 41 = .ok (.iload_n 2, 1) := by decide +kernel
theorem d_Mo_make_42 : decode m_Mo_make.2.1 42 = .ok (.if_icmp .ge 41, 3) := by decide +kernel
theorem d_Mo_make_83 : decode m_Mo_make.2.1 83 = .ok (.aload_n 0, 1) := by decide +kernel
theorem d_Mo_make_84 : decode m_Mo_make.2.1 84 = .ok (.dup, 1) := by decide +kernel
theorem f_Mo_make_227 : jl_fd m_Mo_make 227 7 36 = true := by decide +kernel
theorem d_Mo_make_85 : decode m_Mo_make.2.1 85 = .ok (.getfield 227, 3) := by decide +kernel
theorem d_Mo_make_88 : decode m_Mo_make.2.1 88 = .ok (.iconst 1, 1) := by decide +kernel
theorem d_Mo_make_89 : decode m_Mo_make.2.1 89 = .ok (.iadd, 1) := by decide +kernel
theorem p_Mo_make_227 : jl_fp m_Mo_make 227 7 36 = true := by decide +kernel
theorem d_Mo_make_90 : decode m_Mo_make.2.1 90 = .ok (.putfield 227, 3) := by decide +kernel
theorem d_Mo_make_93 : decode m_Mo_make.2.1 93 = .ok (.aload_n 0, 1) := by decide +kernel
theorem d_Mo_make_94 : decode m_Mo_make.2.1 94 = .ok (.getfield 227, 3) := by decide +kernel
theorem d_Mo_make_97 : decode m_Mo_make.2.1 97 = .ok (.iconst 1, 1) := by decide +kernel
theorem d_Mo_make_98 : decode m_Mo_make.2.1 98 = .ok (.isub, 1) := by decide +kernel
theorem d_Mo_make_99 : decode m_Mo_make.2.1 99 = .ok (.ireturn, 1) := by decide +kernel
theorem d_Mo_make_45 : decode m_Mo_make.2.1 45 = .ok (.aload_n 0, 1) := by decide +kernel
theorem f_Mo_make_105 : jl_fd m_Mo_make 105 7 35 = true := by decide +kernel
theorem d_Mo_make_46 : decode m_Mo_make.2.1 46 = .ok (.getfield 105, 3) := by decide +kernel
theorem d_Mo_make_49 : decode m_Mo_make.2.1 49 = .ok (.bipush 18, 2) := by decide +kernel
theorem d_Mo_make_51 : decode m_Mo_make.2.1 51 = .ok (.aload_n 0, 1) := by decide +kernel
theorem d_Mo_make_52 : decode m_Mo_make.2.1 52 = .ok (.getfield 227, 3) := by decide +kernel
theorem d_Mo_make_55 : decode m_Mo_make.2.1 55 = .ok (.imul, 1) := by decide +kernel
theorem d_Mo_make_56 : decode m_Mo_make.2.1 56 = .ok (.iload_n 3, 1) := by decide +kernel
theorem d_Mo_make_57 : decode m_Mo_make.2.1 57 = .ok (.iadd, 1) := by decide +kernel
theorem d_Mo_make_58 : decode m_Mo_make.2.1 58 = .ok (.iload_n 1, 1) := by decide +kernel
theorem d_Mo_make_59 : decode m_Mo_make.2.1 59 = .ok (.ifCond .lt 16, 3) := by decide +kernel
theorem d_Mo_make_75 : decode m_Mo_make.2.1 75 = .ok (.iconst 0, 1) := by decide +kernel
theorem d_Mo_make_76 : decode m_Mo_make.2.1 76 = .ok (.iastore, 1) := by decide +kernel
theorem d_Mo_make_77 : decode m_Mo_make.2.1 77 = .ok (.iinc 3 1, 3) := by decide +kernel
theorem d_Mo_make_80 : decode m_Mo_make.2.1 80 = .ok (.goto (-40), 3) := by decide +kernel
theorem mo_mk_rl (hl : l.stackTraces = false) {P : jl_O → jl_S → Prop}   (hm : mq < 40) (hn8 : n ≤ 8) (hT : ∀ kv' σ', wrt kv0 kv' (18 * mq) (n) (fun _ => 0) → NR σ0 σ' N t m p h R V fs (mq + 1) (ks) (kc) (kv') fa vf wh wy hg ov oh dn an → P (.inl (some (.int (nI mq)))) σ') : ∀ (nn : Nat) (i : Nat) (σ : jl_S) (kv : Nat → Int32), n - i < nn → i ≤ n → NR σ0 σ N t m p h R V fs (mq) (ks) (kc) (kv) fa vf wh wy hg ov oh dn an → wrt kv0 kv (18 * mq) i (fun _ => 0) → jl_E l G m_Mo_make (0, 0) 40 [some (.ref 22), some (.int (-2)), some (.int (nI n)), some (.int (nI i))] [] σ P := by
  intro nn
  induction nn with
  | zero => intro i σ kv hnn; exact absurd hnn (Nat.not_lt_zero _)
  | succ nn ihn =>
    intro i σ kv hnn hi hn hwr
    obtain ⟨fx, fp, fh, lw, lk, vl, vk, lo, sk, hO, f1, f2, f3, f4, f5, f6, f7, hH, hy1, hR1, hF⟩ := id hn
    obtain ⟨k1, k2, k3⟩ := id hH
    obtain ⟨⟨r1, r2⟩, hlo, hsk⟩ := id hR1
    refine er_iload_n d_Mo_make_40 rfl ?_
    refine er_iload_n d_Mo_make_41 rfl ?_
    refine er_icmp_geN 83 d_Mo_make_42 (by decide) (by omega) (by omega) (fun c1 => ?_) (fun c1 => ?_)
    · refine er_aload_n d_Mo_make_83 rfl ?_
      refine er_dup d_Mo_make_84 rfl ?_
      refine er_getf d_Mo_make_85 f_Mo_make_227 hO rfl ?_
      refine er_iconst ((nI (1))) d_Mo_make_88 (by decide) ?_
      refine er_iaddN d_Mo_make_89 ?_
      refine er_putf d_Mo_make_90 p_Mo_make_227 hO (Nat.le_of_ble_eq_true rfl) jl_fit_int ?_
      show jl_E l G m_Mo_make (0, 0) 93 [some (.ref 22), some (.int (-2)), some (.int (nI n)), some (.int (nI i))] [] (σ.set (22) (.inr (7, [.int (fa), .ref 23, .ref 24, .ref 25, .ref 26, .ref 27, .ref 28, .ref 29, .ref 30, .ref 31, .ref 32, .ref 33, .ref 34, .ref 35, .ref 36, .ref 37, .int (vf), .int (wh), .int (wy), .ref 38, .ref 39, .ref 40, .ref 41, .int (hg), .ref 42, .ref 43, .ref 44, .ref 45, .ref 46, .ref 47, .ref 48, .ref 49, .int (nI (t + 1)), .ref 50, .ref 51, .ref 52, .int (nI ((mq) + (1))), .int (ov), .int (oh), .int (dn), .int (an)]))) P
      refine er_aload_n d_Mo_make_93 rfl ?_
      refine er_getf d_Mo_make_94 f_Mo_make_227 (jl_ss hO) rfl ?_
      refine er_iconst ((nI (1))) d_Mo_make_97 (by decide) ?_
      refine er_isubN d_Mo_make_98 (by omega) ?_
      show jl_E l G m_Mo_make (0, 0) 99 [some (.ref 22), some (.int (-2)), some (.int (nI n)), some (.int (nI i))] [.int (nI mq)] (σ.set (22) (.inr (7, [.int (fa), .ref 23, .ref 24, .ref 25, .ref 26, .ref 27, .ref 28, .ref 29, .ref 30, .ref 31, .ref 32, .ref 33, .ref 34, .ref 35, .ref 36, .ref 37, .int (vf), .int (wh), .int (wy), .ref 38, .ref 39, .ref 40, .ref 41, .int (hg), .ref 42, .ref 43, .ref 44, .ref 45, .ref 46, .ref 47, .ref 48, .ref 49, .int (nI (t + 1)), .ref 50, .ref 51, .ref 52, .int (nI ((mq) + (1))), .int (ov), .int (oh), .int (dn), .int (an)]))) P
      exact er_iret d_Mo_make_99 rfl (hT kv _ (by have z := hwr; rw [show i = n by omega] at z; exact z) ⟨_, _, _, _, _, _, _, _, _, (jl_ss hO), (jl_sn (by decide) f1), (jl_sn (by decide) f2), (jl_sn (by decide) f3), (jl_sn (by decide) f4), (jl_sn (by decide) f5), (jl_sn (by decide) f6), (jl_sn (by decide) f7), ⟨(jl_sn (by decide) k1), (jl_sn (by decide) k2), (jl_sn (by decide) k3)⟩, hy1, ⟨⟨(jl_sn (by decide) r1), (jl_sn (by decide) r2)⟩, hlo, hsk⟩, (hF.set (by omega))⟩) (by decide) (by decide)
    · refine er_aload_n d_Mo_make_45 rfl ?_
      refine er_getf d_Mo_make_46 f_Mo_make_105 hO rfl ?_
      refine er_bipush ((nI (18))) d_Mo_make_49 (by decide) ?_
      refine er_aload_n d_Mo_make_51 rfl ?_
      refine er_getf d_Mo_make_52 f_Mo_make_227 hO rfl ?_
      refine er_imulN d_Mo_make_55 ?_
      refine er_iload_n d_Mo_make_56 rfl ?_
      refine er_iaddN d_Mo_make_57 ?_
      refine er_iload_n d_Mo_make_58 rfl ?_
      refine er_if_lt 75 d_Mo_make_59 (by decide) (fun _ => ?_) (fun z => absurd (by decide) z)
      refine er_iconst ((nI (0))) d_Mo_make_75 (by decide) ?_
      refine er_iastN d_Mo_make_76 k3 (by omega) (by omega) ?_
      show jl_E l G m_Mo_make (0, 0) 77 [some (.ref 22), some (.int (-2)), some (.int (nI n)), some (.int (nI i))] [] (σ.set (52) (.inl (0, 738, .inl (upd (kv) (((18) * (mq)) + (i)) ((nI (0))))))) P
      refine er_iinc ((nI (i + 1))) d_Mo_make_77 (by decide) rfl (jl_inc _) ?_
      show jl_E l G m_Mo_make (0, 0) 80 [some (.ref 22), some (.int (-2)), some (.int (nI n)), some (.int (nI (i + 1)))] [] (σ.set (52) (.inl (0, 738, .inl (upd (kv) (((18) * (mq)) + (i)) ((nI (0))))))) P
      refine er_goto 40 d_Mo_make_80 (by decide) ?_
      exact ihn (i + 1) _ _ (by omega) (by omega) ⟨_, _, _, _, _, _, _, _, _, (jl_sn (by decide) hO), (jl_sn (by decide) f1), (jl_sn (by decide) f2), (jl_sn (by decide) f3), (jl_sn (by decide) f4), (jl_sn (by decide) f5), (jl_sn (by decide) f6), (jl_sn (by decide) f7), ⟨(jl_sn (by decide) k1), (jl_sn (by decide) k2), (jl_ss k3)⟩, hy1, ⟨⟨(jl_sn (by decide) r1), (jl_sn (by decide) r2)⟩, hlo, hsk⟩, (hF.set (by omega))⟩ (by rw [upd_up]; exact hwr.s rfl)
theorem d_Mo_make_0 : decode m_Mo_make.2.1 0 = .ok (.aload_n 0, 1) := by decide +kernel
theorem d_Mo_make_1 : decode m_Mo_make.2.1 1 = .ok (.getfield 227, 3) := by decide +kernel
theorem d_Mo_make_4 : decode m_Mo_make.2.1 4 = .ok (.bipush 40, 2) := by decide +kernel
theorem d_Mo_make_6 : decode m_Mo_make.2.1 6 = .ok (.if_icmp .ne 12, 3) := by decide +kernel
theorem d_Mo_make_18 : decode m_Mo_make.2.1 18 = .ok (.aload_n 0, 1) := by decide +kernel
theorem f_Mo_make_99 : jl_fd m_Mo_make 99 7 33 = true := by decide +kernel
theorem d_Mo_make_19 : decode m_Mo_make.2.1 19 = .ok (.getfield 99, 3) := by decide +kernel
theorem d_Mo_make_22 : decode m_Mo_make.2.1 22 = .ok (.aload_n 0, 1) := by decide +kernel
theorem d_Mo_make_23 : decode m_Mo_make.2.1 23 = .ok (.getfield 227, 3) := by decide +kernel
theorem d_Mo_make_26 : decode m_Mo_make.2.1 26 = .ok (.iload_n 1, 1) := by decide +kernel
theorem d_Mo_make_27 : decode m_Mo_make.2.1 27 = .ok (.iastore, 1) := by decide +kernel
theorem d_Mo_make_28 : decode m_Mo_make.2.1 28 = .ok (.aload_n 0, 1) := by decide +kernel
theorem f_Mo_make_102 : jl_fd m_Mo_make 102 7 34 = true := by decide +kernel
theorem d_Mo_make_29 : decode m_Mo_make.2.1 29 = .ok (.getfield 102, 3) := by decide +kernel
theorem d_Mo_make_32 : decode m_Mo_make.2.1 32 = .ok (.aload_n 0, 1) := by decide +kernel
theorem d_Mo_make_33 : decode m_Mo_make.2.1 33 = .ok (.getfield 227, 3) := by decide +kernel
theorem d_Mo_make_36 : decode m_Mo_make.2.1 36 = .ok (.iload_n 2, 1) := by decide +kernel
theorem d_Mo_make_37 : decode m_Mo_make.2.1 37 = .ok (.iastore, 1) := by decide +kernel
theorem d_Mo_make_38 : decode m_Mo_make.2.1 38 = .ok (.iconst 0, 1) := by decide +kernel
theorem d_Mo_make_39 : decode m_Mo_make.2.1 39 = .ok (.istore_n 3, 1) := by decide +kernel
theorem mo_mk_r (hl : l.stackTraces = false) {P : jl_O → jl_S → Prop}  (hn : NB σ0 σ (N) t m (p) (h) (R) (V) (fs) (H) fa vf wh wy hg ov oh dn an) (hm : H.n < 40) (hn8 : n ≤ 8) (hz18 : ∀ j, H.sz j ≤ 18) (hT : ∀ σ', NB σ0 σ' (N) t m (p) (h) (R) (V) (fs) (mkR H n) fa vf wh wy hg ov oh dn an → P (.inl (some (.int (nI H.n)))) σ') : jl_mE l G m_Mo_make [.ref 22, .int (-2), .int (nI n)] σ P := by
  obtain ⟨fx, fp, fh, lw, lk, vl, vk, ks, kc, kv, lo, sk, hO, f1, f2, f3, f4, f5, f6, f7, hH, hB, hy1, hR1, hF⟩ := id hn
  obtain ⟨k1, k2, k3⟩ := id hH
  obtain ⟨⟨r1, r2⟩, hlo, hsk⟩ := id hR1
  obtain ⟨⟨hfx, hfp, hlc, hst⟩, hfh, hfs, hln⟩ := id hy1
  have hfx : fx t = m := hfx
  have hfp : fp t = p := hfp
  have hlc : ∀ k, k < 6 → lk (6 * t + k) = kdI (R k) ∧ (R k ≠ none → lw (6 * t + k) = V k) := hlc
  have hst : ∀ j, j < _ → vk (5 * t + j) = kdI (R (7 + j)) ∧ vl (5 * t + j) = V (7 + j) := hst
  refine jl_ofE (as := [.ref 22, .int (-2), .int (nI n)]) rfl (by decide) hl (jl_cc rfl (jl_cc rfl (jl_cc rfl jl_ca))) (Nat.le_of_ble_eq_true rfl) ?_
  show jl_E l G m_Mo_make (0, 0) 0 [some (.ref 22), some (.int (-2)), some (.int (nI n)), none] [] (σ) P
  refine er_aload_n d_Mo_make_0 rfl ?_
  refine er_getf d_Mo_make_1 f_Mo_make_227 hO rfl ?_
  refine er_bipush ((nI (40))) d_Mo_make_4 (by decide) ?_
  refine er_icmp_ne 18 d_Mo_make_6 (by decide) (fun _ => ?_) (fun z => absurd z (fun q => by rw [nI_eq (by omega) (by omega)] at q; omega))
  refine er_aload_n d_Mo_make_18 rfl ?_
  refine er_getf d_Mo_make_19 f_Mo_make_99 hO rfl ?_
  refine er_aload_n d_Mo_make_22 rfl ?_
  refine er_getf d_Mo_make_23 f_Mo_make_227 hO rfl ?_
  refine er_iload_n d_Mo_make_26 rfl ?_
  refine er_iastN d_Mo_make_27 k1 (by omega) (by omega) ?_
  show jl_E l G m_Mo_make (0, 0) 28 [some (.ref 22), some (.int (-2)), some (.int (nI n)), none] [] (σ.set (50) (.inl (0, 41, .inl (upd (ks) (H.n) ((-2)))))) P
  refine er_aload_n d_Mo_make_28 rfl ?_
  refine er_getf d_Mo_make_29 f_Mo_make_102 (jl_sn (by decide) hO) rfl ?_
  refine er_aload_n d_Mo_make_32 rfl ?_
  refine er_getf d_Mo_make_33 f_Mo_make_227 (jl_sn (by decide) hO) rfl ?_
  refine er_iload_n d_Mo_make_36 rfl ?_
  refine er_iastN d_Mo_make_37 (jl_sn (by decide) k2) (by omega) (by omega) ?_
  rw [show upd (fun j => nI (kc j)) (H.n) ((nI (n))) = (fun j => nI ((va_up kc (H.n) (n)) j)) from nI_up kc (H.n) (n)]
  show jl_E l G m_Mo_make (0, 0) 38 [some (.ref 22), some (.int (-2)), some (.int (nI n)), none] [] ((σ.set (50) (.inl (0, 41, .inl (upd (ks) (H.n) ((-2)))))).set (51) (.inl (0, 41, .inl (fun j => nI ((va_up kc (H.n) (n)) j))))) P
  refine er_iconst ((nI (0))) d_Mo_make_38 (by decide) ?_
  refine er_istore_n d_Mo_make_39 (by decide) ?_
  show jl_E l G m_Mo_make (0, 0) 40 [some (.ref 22), some (.int (-2)), some (.int (nI n)), some (.int (nI 0))] [] ((σ.set (50) (.inl (0, 41, .inl (upd (ks) (H.n) ((-2)))))).set (51) (.inl (0, 41, .inl (fun j => nI ((va_up kc (H.n) (n)) j))))) P
  exact mo_mk_rl hl hm hn8 (fun kv' σ' w1 h1 => hT σ' (NR.nb (H' := mkR H n) h1 (hB.mk (z := none) hz18 (by omega) w1))) (n + 1) 0 _ kv (by omega) (Nat.zero_le _) ⟨_, _, _, _, _, _, _, _, _, (jl_sn (by decide) (jl_sn (by decide) hO)), (jl_sn (by decide) (jl_sn (by decide) f1)), (jl_sn (by decide) (jl_sn (by decide) f2)), (jl_sn (by decide) (jl_sn (by decide) f3)), (jl_sn (by decide) (jl_sn (by decide) f4)), (jl_sn (by decide) (jl_sn (by decide) f5)), (jl_sn (by decide) (jl_sn (by decide) f6)), (jl_sn (by decide) (jl_sn (by decide) f7)), ⟨(jl_sn (by decide) (jl_ss k1)), (jl_ss (jl_sn (by decide) k2)), (jl_sn (by decide) (jl_sn (by decide) k3))⟩, hy1, ⟨⟨(jl_sn (by decide) (jl_sn (by decide) r1)), (jl_sn (by decide) (jl_sn (by decide) r2))⟩, hlo, hsk⟩, ((hF.set (by omega)).set (by omega))⟩ wrt.z
theorem d_Mo_make_62 : decode m_Mo_make.2.1 62 = .ok (.aload_n 0, 1) := by decide +kernel
theorem d_Mo_make_63 : decode m_Mo_make.2.1 63 = .ok (.iload_n 1, 1) := by decide +kernel
theorem d_Mo_make_64 : decode m_Mo_make.2.1 64 = .ok (.iload_n 3, 1) := by decide +kernel
theorem k_Mo_make_164 : jl_cv m_Mo_make m_Mo_typeOfField 164 2 = true := by decide +kernel
theorem d_Mo_make_65 : decode m_Mo_make.2.1 65 = .ok (.invokevirtual 164, 3) := by decide +kernel
theorem d_Mo_make_68 : decode m_Mo_make.2.1 68 = .ok (.ifCond .eq 7, 3) := by decide +kernel
theorem d_Mo_make_71 : decode m_Mo_make.2.1 71 = .ok (.iconst (-1), 1) := by decide +kernel
theorem d_Mo_make_72 : decode m_Mo_make.2.1 72 = .ok (.goto 4, 3) := by decide +kernel
theorem mo_mk_ol (hl : l.stackTraces = false) {P : jl_O → jl_S → Prop}   (hm : mq < 40) (hw0 : MoW σ0 tb pr ow ft hs) (hok : WoOk tb pr ow fi) (hk6 : k < 6) (hft : ∀ k f, fty pr fi ft k f < 16) (hf18 : fi k + ow k ≤ 18) (hT : ∀ kv' σ', wrt kv0 kv' (18 * mq) (fi k + ow k) (fun f => if fty pr fi ft k f = 0 then 0 else -1) → NR σ0 σ' N t m p h R V fs (mq + 1) (ks) (kc) (kv') fa vf wh wy hg ov oh dn an → P (.inl (some (.int (nI mq)))) σ') : ∀ (nn : Nat) (i : Nat) (σ : jl_S) (kv : Nat → Int32), fi k + ow k - i < nn → i ≤ fi k + ow k → NR σ0 σ N t m p h R V fs (mq) (ks) (kc) (kv) fa vf wh wy hg ov oh dn an → wrt kv0 kv (18 * mq) i (fun f => if fty pr fi ft k f = 0 then 0 else -1) → jl_E l G m_Mo_make (0, 0) 40 [some (.ref 22), some (.int (nI k)), some (.int (nI (fi k + ow k))), some (.int (nI i))] [] σ P := by
  intro nn
  induction nn with
  | zero => intro i σ kv hnn; exact absurd hnn (Nat.not_lt_zero _)
  | succ nn ihn =>
    intro i σ kv hnn hi hn hwr
    obtain ⟨fx, fp, fh, lw, lk, vl, vk, lo, sk, hO, f1, f2, f3, f4, f5, f6, f7, hH, hy1, hR1, hF⟩ := id hn
    obtain ⟨k1, k2, k3⟩ := id hH
    obtain ⟨⟨r1, r2⟩, hlo, hsk⟩ := id hR1
    have hw := hw0.fn hF
    have hfk := hft k i
    refine er_iload_n d_Mo_make_40 rfl ?_
    refine er_iload_n d_Mo_make_41 rfl ?_
    refine er_icmp_geN 83 d_Mo_make_42 (by decide) (by omega) (by omega) (fun c1 => ?_) (fun c1 => ?_)
    · refine er_aload_n d_Mo_make_83 rfl ?_
      refine er_dup d_Mo_make_84 rfl ?_
      refine er_getf d_Mo_make_85 f_Mo_make_227 hO rfl ?_
      refine er_iconst ((nI (1))) d_Mo_make_88 (by decide) ?_
      refine er_iaddN d_Mo_make_89 ?_
      refine er_putf d_Mo_make_90 p_Mo_make_227 hO (Nat.le_of_ble_eq_true rfl) jl_fit_int ?_
      show jl_E l G m_Mo_make (0, 0) 93 [some (.ref 22), some (.int (nI k)), some (.int (nI (fi k + ow k))), some (.int (nI i))] [] (σ.set (22) (.inr (7, [.int (fa), .ref 23, .ref 24, .ref 25, .ref 26, .ref 27, .ref 28, .ref 29, .ref 30, .ref 31, .ref 32, .ref 33, .ref 34, .ref 35, .ref 36, .ref 37, .int (vf), .int (wh), .int (wy), .ref 38, .ref 39, .ref 40, .ref 41, .int (hg), .ref 42, .ref 43, .ref 44, .ref 45, .ref 46, .ref 47, .ref 48, .ref 49, .int (nI (t + 1)), .ref 50, .ref 51, .ref 52, .int (nI ((mq) + (1))), .int (ov), .int (oh), .int (dn), .int (an)]))) P
      refine er_aload_n d_Mo_make_93 rfl ?_
      refine er_getf d_Mo_make_94 f_Mo_make_227 (jl_ss hO) rfl ?_
      refine er_iconst ((nI (1))) d_Mo_make_97 (by decide) ?_
      refine er_isubN d_Mo_make_98 (by omega) ?_
      show jl_E l G m_Mo_make (0, 0) 99 [some (.ref 22), some (.int (nI k)), some (.int (nI (fi k + ow k))), some (.int (nI i))] [.int (nI mq)] (σ.set (22) (.inr (7, [.int (fa), .ref 23, .ref 24, .ref 25, .ref 26, .ref 27, .ref 28, .ref 29, .ref 30, .ref 31, .ref 32, .ref 33, .ref 34, .ref 35, .ref 36, .ref 37, .int (vf), .int (wh), .int (wy), .ref 38, .ref 39, .ref 40, .ref 41, .int (hg), .ref 42, .ref 43, .ref 44, .ref 45, .ref 46, .ref 47, .ref 48, .ref 49, .int (nI (t + 1)), .ref 50, .ref 51, .ref 52, .int (nI ((mq) + (1))), .int (ov), .int (oh), .int (dn), .int (an)]))) P
      exact er_iret d_Mo_make_99 rfl (hT kv _ (by have z := hwr; rw [show i = fi k + ow k by omega] at z; exact z) ⟨_, _, _, _, _, _, _, _, _, (jl_ss hO), (jl_sn (by decide) f1), (jl_sn (by decide) f2), (jl_sn (by decide) f3), (jl_sn (by decide) f4), (jl_sn (by decide) f5), (jl_sn (by decide) f6), (jl_sn (by decide) f7), ⟨(jl_sn (by decide) k1), (jl_sn (by decide) k2), (jl_sn (by decide) k3)⟩, hy1, ⟨⟨(jl_sn (by decide) r1), (jl_sn (by decide) r2)⟩, hlo, hsk⟩, (hF.set (by omega))⟩) (by decide) (by decide)
    · refine er_aload_n d_Mo_make_45 rfl ?_
      refine er_getf d_Mo_make_46 f_Mo_make_105 hO rfl ?_
      refine er_bipush ((nI (18))) d_Mo_make_49 (by decide) ?_
      refine er_aload_n d_Mo_make_51 rfl ?_
      refine er_getf d_Mo_make_52 f_Mo_make_227 hO rfl ?_
      refine er_imulN d_Mo_make_55 ?_
      refine er_iload_n d_Mo_make_56 rfl ?_
      refine er_iaddN d_Mo_make_57 ?_
      refine er_iload_n d_Mo_make_58 rfl ?_
      refine er_if_lt 75 d_Mo_make_59 (by decide) (fun z => absurd z (nI_pos (by omega))) (fun _ => ?_)
      refine er_aload_n d_Mo_make_62 rfl ?_
      refine er_iload_n d_Mo_make_63 rfl ?_
      refine er_iload_n d_Mo_make_64 rfl ?_
      refine er_callV (As := [.int (nI k), .int (nI i)]) d_Mo_make_65 k_Mo_make_164 hO rfl rfl rfl (Nat.le_of_ble_eq_true rfl) (by decide) (by decide) (mo_tf (f := i) hl hO hw hok hk6 (by omega)) ?_
      show jl_E l G m_Mo_make (0, 0) 68 [some (.ref 22), some (.int (nI k)), some (.int (nI (fi k + ow k))), some (.int (nI i))] [.int (nI (fty pr fi ft k i)), .int (nI (((18) * (mq)) + (i))), .ref 52] (σ) P
      refine er_if_eqN 75 d_Mo_make_68 (by decide) (by omega) (fun c2 => ?_) (fun c2 => ?_)
      · refine er_iconst ((nI (0))) d_Mo_make_75 (by decide) ?_
        refine er_iastN d_Mo_make_76 k3 (by omega) (by omega) ?_
        show jl_E l G m_Mo_make (0, 0) 77 [some (.ref 22), some (.int (nI k)), some (.int (nI (fi k + ow k))), some (.int (nI i))] [] (σ.set (52) (.inl (0, 738, .inl (upd (kv) (((18) * (mq)) + (i)) ((nI (0))))))) P
        refine er_iinc ((nI (i + 1))) d_Mo_make_77 (by decide) rfl (jl_inc _) ?_
        show jl_E l G m_Mo_make (0, 0) 80 [some (.ref 22), some (.int (nI k)), some (.int (nI (fi k + ow k))), some (.int (nI (i + 1)))] [] (σ.set (52) (.inl (0, 738, .inl (upd (kv) (((18) * (mq)) + (i)) ((nI (0))))))) P
        refine er_goto 40 d_Mo_make_80 (by decide) ?_
        exact ihn (i + 1) _ _ (by omega) (by omega) ⟨_, _, _, _, _, _, _, _, _, (jl_sn (by decide) hO), (jl_sn (by decide) f1), (jl_sn (by decide) f2), (jl_sn (by decide) f3), (jl_sn (by decide) f4), (jl_sn (by decide) f5), (jl_sn (by decide) f6), (jl_sn (by decide) f7), ⟨(jl_sn (by decide) k1), (jl_sn (by decide) k2), (jl_ss k3)⟩, hy1, ⟨⟨(jl_sn (by decide) r1), (jl_sn (by decide) r2)⟩, hlo, hsk⟩, (hF.set (by omega))⟩ (by rw [upd_up]; exact hwr.s (if_pos (show fty pr fi ft k i = 0 by omega)).symm)
      · refine er_iconst ((-1)) d_Mo_make_71 (by decide) ?_
        refine er_goto 76 d_Mo_make_72 (by decide) ?_
        refine er_iastN d_Mo_make_76 k3 (by omega) (by omega) ?_
        show jl_E l G m_Mo_make (0, 0) 77 [some (.ref 22), some (.int (nI k)), some (.int (nI (fi k + ow k))), some (.int (nI i))] [] (σ.set (52) (.inl (0, 738, .inl (upd (kv) (((18) * (mq)) + (i)) ((-1)))))) P
        refine er_iinc ((nI (i + 1))) d_Mo_make_77 (by decide) rfl (jl_inc _) ?_
        show jl_E l G m_Mo_make (0, 0) 80 [some (.ref 22), some (.int (nI k)), some (.int (nI (fi k + ow k))), some (.int (nI (i + 1)))] [] (σ.set (52) (.inl (0, 738, .inl (upd (kv) (((18) * (mq)) + (i)) ((-1)))))) P
        refine er_goto 40 d_Mo_make_80 (by decide) ?_
        exact ihn (i + 1) _ _ (by omega) (by omega) ⟨_, _, _, _, _, _, _, _, _, (jl_sn (by decide) hO), (jl_sn (by decide) f1), (jl_sn (by decide) f2), (jl_sn (by decide) f3), (jl_sn (by decide) f4), (jl_sn (by decide) f5), (jl_sn (by decide) f6), (jl_sn (by decide) f7), ⟨(jl_sn (by decide) k1), (jl_sn (by decide) k2), (jl_ss k3)⟩, hy1, ⟨⟨(jl_sn (by decide) r1), (jl_sn (by decide) r2)⟩, hlo, hsk⟩, (hF.set (by omega))⟩ (by rw [upd_up]; exact hwr.s (if_neg (show ¬ fty pr fi ft k i = 0 by omega)).symm)
theorem mo_mk_o (hl : l.stackTraces = false) {P : jl_O → jl_S → Prop}  (hn : NB σ0 σ (N) t m (p) (h) (R) (V) (fs) (H) fa vf wh wy hg ov oh dn an) (hm : H.n < 40) (hw0 : MoW σ0 tb pr ow ft hs) (hok : WoOk tb pr ow fi) (hk6 : k < 6) (hft : ∀ k f, fty pr fi ft k f < 16) (hf18 : fi k + ow k ≤ 18) (hz18 : ∀ j, H.sz j ≤ 18) (hT : ∀ σ', NB σ0 σ' (N) t m (p) (h) (R) (V) (fs) (mkO pr ow fi ft H k) fa vf wh wy hg ov oh dn an → P (.inl (some (.int (nI H.n)))) σ') : jl_mE l G m_Mo_make [.ref 22, .int (nI k), .int (nI (fi k + ow k))] σ P := by
  obtain ⟨fx, fp, fh, lw, lk, vl, vk, ks, kc, kv, lo, sk, hO, f1, f2, f3, f4, f5, f6, f7, hH, hB, hy1, hR1, hF⟩ := id hn
  obtain ⟨k1, k2, k3⟩ := id hH
  obtain ⟨⟨r1, r2⟩, hlo, hsk⟩ := id hR1
  obtain ⟨⟨hfx, hfp, hlc, hst⟩, hfh, hfs, hln⟩ := id hy1
  have hfx : fx t = m := hfx
  have hfp : fp t = p := hfp
  have hlc : ∀ k, k < 6 → lk (6 * t + k) = kdI (R k) ∧ (R k ≠ none → lw (6 * t + k) = V k) := hlc
  have hst : ∀ j, j < _ → vk (5 * t + j) = kdI (R (7 + j)) ∧ vl (5 * t + j) = V (7 + j) := hst
  refine jl_ofE (as := [.ref 22, .int (nI k), .int (nI (fi k + ow k))]) rfl (by decide) hl (jl_cc rfl (jl_cc rfl (jl_cc rfl jl_ca))) (Nat.le_of_ble_eq_true rfl) ?_
  show jl_E l G m_Mo_make (0, 0) 0 [some (.ref 22), some (.int (nI k)), some (.int (nI (fi k + ow k))), none] [] (σ) P
  refine er_aload_n d_Mo_make_0 rfl ?_
  refine er_getf d_Mo_make_1 f_Mo_make_227 hO rfl ?_
  refine er_bipush ((nI (40))) d_Mo_make_4 (by decide) ?_
  refine er_icmp_ne 18 d_Mo_make_6 (by decide) (fun _ => ?_) (fun z => absurd z (fun q => by rw [nI_eq (by omega) (by omega)] at q; omega))
  refine er_aload_n d_Mo_make_18 rfl ?_
  refine er_getf d_Mo_make_19 f_Mo_make_99 hO rfl ?_
  refine er_aload_n d_Mo_make_22 rfl ?_
  refine er_getf d_Mo_make_23 f_Mo_make_227 hO rfl ?_
  refine er_iload_n d_Mo_make_26 rfl ?_
  refine er_iastN d_Mo_make_27 k1 (by omega) (by omega) ?_
  show jl_E l G m_Mo_make (0, 0) 28 [some (.ref 22), some (.int (nI k)), some (.int (nI (fi k + ow k))), none] [] (σ.set (50) (.inl (0, 41, .inl (upd (ks) (H.n) ((nI (k))))))) P
  refine er_aload_n d_Mo_make_28 rfl ?_
  refine er_getf d_Mo_make_29 f_Mo_make_102 (jl_sn (by decide) hO) rfl ?_
  refine er_aload_n d_Mo_make_32 rfl ?_
  refine er_getf d_Mo_make_33 f_Mo_make_227 (jl_sn (by decide) hO) rfl ?_
  refine er_iload_n d_Mo_make_36 rfl ?_
  refine er_iastN d_Mo_make_37 (jl_sn (by decide) k2) (by omega) (by omega) ?_
  rw [show upd (fun j => nI (kc j)) (H.n) ((nI (fi k + ow k))) = (fun j => nI ((va_up kc (H.n) (fi k + ow k)) j)) from nI_up kc (H.n) (fi k + ow k)]
  show jl_E l G m_Mo_make (0, 0) 38 [some (.ref 22), some (.int (nI k)), some (.int (nI (fi k + ow k))), none] [] ((σ.set (50) (.inl (0, 41, .inl (upd (ks) (H.n) ((nI (k))))))).set (51) (.inl (0, 41, .inl (fun j => nI ((va_up kc (H.n) (fi k + ow k)) j))))) P
  refine er_iconst ((nI (0))) d_Mo_make_38 (by decide) ?_
  refine er_istore_n d_Mo_make_39 (by decide) ?_
  show jl_E l G m_Mo_make (0, 0) 40 [some (.ref 22), some (.int (nI k)), some (.int (nI (fi k + ow k))), some (.int (nI 0))] [] ((σ.set (50) (.inl (0, 41, .inl (upd (ks) (H.n) ((nI (k))))))).set (51) (.inl (0, 41, .inl (fun j => nI ((va_up kc (H.n) (fi k + ow k)) j))))) P
  exact mo_mk_ol hl hm hw0 hok hk6 hft hf18 (fun kv' σ' w1 h1 => hT σ' (NR.nb (H' := mkO pr ow fi ft H k) h1 (hB.mk (z := some k) hz18 (by omega) w1))) (fi k + ow k + 1) 0 _ kv (by omega) (Nat.zero_le _) ⟨_, _, _, _, _, _, _, _, _, (jl_sn (by decide) (jl_sn (by decide) hO)), (jl_sn (by decide) (jl_sn (by decide) f1)), (jl_sn (by decide) (jl_sn (by decide) f2)), (jl_sn (by decide) (jl_sn (by decide) f3)), (jl_sn (by decide) (jl_sn (by decide) f4)), (jl_sn (by decide) (jl_sn (by decide) f5)), (jl_sn (by decide) (jl_sn (by decide) f6)), (jl_sn (by decide) (jl_sn (by decide) f7)), ⟨(jl_sn (by decide) (jl_ss k1)), (jl_ss (jl_sn (by decide) k2)), (jl_sn (by decide) (jl_sn (by decide) k3))⟩, hy1, ⟨⟨(jl_sn (by decide) (jl_sn (by decide) r1)), (jl_sn (by decide) (jl_sn (by decide) r2))⟩, hlo, hsk⟩, ((hF.set (by omega)).set (by omega))⟩ wrt.z
theorem d_Mo_make_9 : decode m_Mo_make.2.1 9 = .ok (.aload_n 0, 1) := by decide +kernel
theorem d_Mo_make_10 : decode m_Mo_make.2.1 10 = .ok (.bipush 6, 2) := by decide +kernel
theorem d_Mo_make_12 : decode m_Mo_make.2.1 12 = .ok (.iconst 0, 1) := by decide +kernel
theorem k_Mo_make_230 : jl_cv m_Mo_make m_Mo_end 230 2 = true := by decide +kernel
theorem d_Mo_make_13 : decode m_Mo_make.2.1 13 = .ok (.invokevirtual 230, 3) := by decide +kernel
theorem d_Mo_make_16 : decode m_Mo_make.2.1 16 = .ok (.iconst (-1), 1) := by decide +kernel
theorem d_Mo_make_17 : decode m_Mo_make.2.1 17 = .ok (.ireturn, 1) := by decide +kernel
theorem mo_mk_f (hl : l.stackTraces = false) {P : jl_O → jl_S → Prop}  (hn : NB σ0 σ (N) t m (p) (h) (R) (V) (fs) (H) fa vf wh wy hg ov oh dn an) (hm : H.n = 40) (hT : ∀ σ', NQ σ0 σ' [] (H) fa vf wh wy hg (nI 6) (nI 0) dn an → P (.inl (some (.int (-1)))) σ') : jl_mE l G m_Mo_make [.ref 22, .int (x), .int (a)] σ P := by
  obtain ⟨fx, fp, fh, lw, lk, vl, vk, ks, kc, kv, lo, sk, hO, f1, f2, f3, f4, f5, f6, f7, hH, hB, hy1, hR1, hF⟩ := id hn
  obtain ⟨k1, k2, k3⟩ := id hH
  obtain ⟨⟨r1, r2⟩, hlo, hsk⟩ := id hR1
  obtain ⟨⟨hfx, hfp, hlc, hst⟩, hfh, hfs, hln⟩ := id hy1
  have hfx : fx t = m := hfx
  have hfp : fp t = p := hfp
  have hlc : ∀ k, k < 6 → lk (6 * t + k) = kdI (R k) ∧ (R k ≠ none → lw (6 * t + k) = V k) := hlc
  have hst : ∀ j, j < _ → vk (5 * t + j) = kdI (R (7 + j)) ∧ vl (5 * t + j) = V (7 + j) := hst
  refine jl_ofE (as := [.ref 22, .int (x), .int (a)]) rfl (by decide) hl (jl_cc rfl (jl_cc rfl (jl_cc rfl jl_ca))) (Nat.le_of_ble_eq_true rfl) ?_
  show jl_E l G m_Mo_make (0, 0) 0 [some (.ref 22), some (.int (x)), some (.int (a)), none] [] (σ) P
  refine er_aload_n d_Mo_make_0 rfl ?_
  refine er_getf d_Mo_make_1 f_Mo_make_227 hO rfl ?_
  refine er_bipush ((nI (40))) d_Mo_make_4 (by decide) ?_
  refine er_icmp_ne 18 d_Mo_make_6 (by decide) (fun z => absurd (congrArg nI hm) z) (fun _ => ?_)
  refine er_aload_n d_Mo_make_9 rfl ?_
  refine er_bipush ((nI (6))) d_Mo_make_10 (by decide) ?_
  refine er_iconst ((nI (0))) d_Mo_make_12 (by decide) ?_
  refine er_callV (As := [.int (nI 6), .int (nI 0)]) d_Mo_make_13 k_Mo_make_230 hO rfl rfl rfl (Nat.le_of_ble_eq_true rfl) (by decide) (by decide) (mo_mend hl hO) ?_
  show jl_E l G m_Mo_make (0, 0) 16 [some (.ref 22), some (.int (x)), some (.int (a)), none] [] (σ.set (22) (.inr (7, [.int (fa), .ref 23, .ref 24, .ref 25, .ref 26, .ref 27, .ref 28, .ref 29, .ref 30, .ref 31, .ref 32, .ref 33, .ref 34, .ref 35, .ref 36, .ref 37, .int (vf), .int (wh), .int (wy), .ref 38, .ref 39, .ref 40, .ref 41, .int (hg), .ref 42, .ref 43, .ref 44, .ref 45, .ref 46, .ref 47, .ref 48, .ref 49, .int (nI 0), .ref 50, .ref 51, .ref 52, .int (nI (H.n)), .int (nI 6), .int (nI 0), .int (dn), .int (an)]))) P
  refine er_iconst ((-1)) d_Mo_make_16 (by decide) ?_
  exact er_iret d_Mo_make_17 rfl (hT _ ⟨_, _, _, _, _, _, _, _, _, _, _, _, (jl_ss hO), (jl_sn (by decide) f1), (jl_sn (by decide) f2), (jl_sn (by decide) f3), (jl_sn (by decide) f4), (jl_sn (by decide) f5), (jl_sn (by decide) f6), (jl_sn (by decide) f7), ⟨(jl_sn (by decide) k1), (jl_sn (by decide) k2), (jl_sn (by decide) k3)⟩, hB, trivial, ⟨⟨(jl_sn (by decide) r1), (jl_sn (by decide) r2)⟩, hlo, hsk⟩, (hF.set (by omega))⟩) (by decide) (by decide)
theorem d_Mo_create_38 : decode m_Mo_create.2.1 38 = .ok (.iload_n 1, 1) := by decide +kernel
theorem d_Mo_create_39 : decode m_Mo_create.2.1 39 = .ok (.bipush 19, 2) := by decide +kernel
theorem d_Mo_create_41 : decode m_Mo_create.2.1 41 = .ok (.if_icmp .ne 13, 3) := by decide +kernel
theorem d_Mo_create_44 : decode m_Mo_create.2.1 44 = .ok (.aload_n 0, 1) := by decide +kernel
theorem d_Mo_create_45 : decode m_Mo_create.2.1 45 = .ok (.bipush (-2), 2) := by decide +kernel
theorem d_Mo_create_47 : decode m_Mo_create.2.1 47 = .ok (.iload_n 3, 1) := by decide +kernel
theorem k_Mo_create_267 : jl_cv m_Mo_create m_Mo_make 267 2 = true := by decide +kernel
theorem d_Mo_create_48 : decode m_Mo_create.2.1 48 = .ok (.invokevirtual 267, 3) := by decide +kernel
theorem d_Mo_create_51 : decode m_Mo_create.2.1 51 = .ok (.goto 13, 3) := by decide +kernel
theorem d_Mo_create_64 : decode m_Mo_create.2.1 64 = .ok (.istore 4, 2) := by decide +kernel
theorem d_Mo_create_66 : decode m_Mo_create.2.1 66 = .ok (.iload 4, 2) := by decide +kernel
theorem d_Mo_create_68 : decode m_Mo_create.2.1 68 = .ok (.ifCond .ge 4, 3) := by decide +kernel
theorem d_Mo_create_72 : decode m_Mo_create.2.1 72 = .ok (.iload_n 1, 1) := by decide +kernel
theorem d_Mo_create_73 : decode m_Mo_create.2.1 73 = .ok (.bipush 19, 2) := by decide +kernel
theorem d_Mo_create_75 : decode m_Mo_create.2.1 75 = .ok (.if_icmp .ne 8, 3) := by decide +kernel
theorem d_Mo_create_78 : decode m_Mo_create.2.1 78 = .ok (.aload_n 0, 1) := by decide +kernel
theorem d_Mo_create_79 : decode m_Mo_create.2.1 79 = .ok (.iconst 1, 1) := by decide +kernel
theorem k_Mo_create_242 : jl_cv m_Mo_create m_Mo_drop 242 1 = true := by decide +kernel
theorem d_Mo_create_80 : decode m_Mo_create.2.1 80 = .ok (.invokevirtual 242, 3) := by decide +kernel
theorem d_Mo_create_83 : decode m_Mo_create.2.1 83 = .ok (.aload_n 0, 1) := by decide +kernel
theorem d_Mo_create_84 : decode m_Mo_create.2.1 84 = .ok (.iconst 1, 1) := by decide +kernel
theorem d_Mo_create_85 : decode m_Mo_create.2.1 85 = .ok (.iload 4, 2) := by decide +kernel
theorem k_Mo_create_236 : jl_cv m_Mo_create m_Mo_put 236 2 = true := by decide +kernel
theorem d_Mo_create_87 : decode m_Mo_create.2.1 87 = .ok (.invokevirtual 236, 3) := by decide +kernel
theorem d_Mo_create_90 : decode m_Mo_create.2.1 90 = .ok (.aload_n 0, 1) := by decide +kernel
theorem k_Mo_create_261 : jl_cv m_Mo_create m_Mo_next 261 0 = true := by decide +kernel
theorem d_Mo_create_91 : decode m_Mo_create.2.1 91 = .ok (.invokevirtual 261, 3) := by decide +kernel
theorem d_Mo_create_94 : decode m_Mo_create.2.1 94 = .ok (.return_, 1) := by decide +kernel
theorem mo_cr_19 (hl : l.stackTraces = false) {P : jl_O → jl_S → Prop}  (hn : NB σ0 σ (b + 1) t m (p) (b + 1) (R) (V) (fs) (H) fa vf wh wy hg ov oh dn an) (hw : MoW σ tb pr ow ft hs) (ht : t < 12) (hb : b + 1 ≤ 5) (hp : b + 1 ≤ 5) (hv : V (7 + b) = nI n) (hn8 : n ≤ 8) (hm : H.n < 40) (hz18 : ∀ j, H.sz j ≤ 18) (hT : ∀ σ', NB σ0 σ' (b + 1) t m (p + 1) (b + 1) (psh R b (some 1)) (va_up V (7 + b) (nI H.n)) (fs) (mkR H n) fa vf wh wy hg ov oh dn an → P (.inl none) σ') : jl_mE l G m_Mo_create [.ref 22, .int (nI 19), .int (x)] σ P := by
  obtain ⟨fx, fp, fh, lw, lk, vl, vk, ks, kc, kv, lo, sk, hO, f1, f2, f3, f4, f5, f6, f7, hH, hB, hy1, hR1, hF⟩ := id hn
  obtain ⟨k1, k2, k3⟩ := id hH
  obtain ⟨⟨r1, r2⟩, hlo, hsk⟩ := id hR1
  obtain ⟨⟨hfx, hfp, hlc, hst⟩, hfh, hfs, hln⟩ := id hy1
  have hfx : fx t = m := hfx
  have hfp : fp t = p := hfp
  have hlc : ∀ k, k < 6 → lk (6 * t + k) = kdI (R k) ∧ (R k ≠ none → lw (6 * t + k) = V k) := hlc
  have hst : ∀ j, j < _ → vk (5 * t + j) = kdI (R (7 + j)) ∧ vl (5 * t + j) = V (7 + j) := hst
  obtain ⟨h23, h24, h25, h26, h27⟩ := id hw
  have hS0 : vl (5 * t + (b)) = V (7 + b) := by rw [show 7 + b = 7 + (b) by omega]; exact (hst _ (by omega)).2
  have hK0 : vk (5 * t + (b)) = kdI (R (7 + b)) := by rw [show 7 + b = 7 + (b) by omega]; exact (hst _ (by omega)).1
  refine jl_ofE (as := [.ref 22, .int (nI 19), .int (x)]) rfl (by decide) hl (jl_cc rfl (jl_cc rfl (jl_cc rfl jl_ca))) (Nat.le_of_ble_eq_true rfl) ?_
  show jl_E l G m_Mo_create (0, 0) 0 [some (.ref 22), some (.int (nI 19)), some (.int (x)), none, none] [] (σ) P
  refine er_iload_n d_Mo_create_0 rfl ?_
  refine er_bipush ((nI (19))) d_Mo_create_1 (by decide) ?_
  refine er_icmp_ne 14 d_Mo_create_3 (by decide) (fun z => absurd rfl z) (fun _ => ?_)
  refine er_aload_n d_Mo_create_6 rfl ?_
  refine er_iconst ((nI (1))) d_Mo_create_7 (by decide) ?_
  refine er_callV (As := [.int (nI 1)]) d_Mo_create_8 k_Mo_create_245 hO rfl rfl rfl (Nat.le_of_ble_eq_true rfl) (by decide) (by decide) (mo_topE (h := b + 1) (n := 1) (v := (nI (n))) hl hO f3 f6 ht hfh (by omega) (by omega) (by omega) (by rw [show 5 * t + (b + 1) - 1 = 5 * t + (b) by omega]; exact hS0.trans hv)) ?_
  show jl_E l G m_Mo_create (0, 0) 11 [some (.ref 22), some (.int (nI 19)), some (.int (x)), none, none] [.int (nI n)] (σ) P
  refine er_goto 15 d_Mo_create_11 (by decide) ?_
  refine er_istore_n d_Mo_create_15 (by decide) ?_
  show jl_E l G m_Mo_create (0, 0) 16 [some (.ref 22), some (.int (nI 19)), some (.int (x)), some (.int (nI n)), none] [] (σ) P
  refine er_iload_n d_Mo_create_16 rfl ?_
  refine er_bipush ((nI (19))) d_Mo_create_17 (by decide) ?_
  refine er_icmp_ne 38 d_Mo_create_19 (by decide) (fun z => absurd rfl z) (fun _ => ?_)
  refine er_aload_n d_Mo_create_22 rfl ?_
  refine er_iload_n d_Mo_create_23 rfl ?_
  refine er_bipush ((nI (9))) d_Mo_create_24 (by decide) ?_
  refine er_callV (As := [.int (nI n), .int (nI 9)]) d_Mo_create_26 k_Mo_create_114 hO rfl rfl rfl (Nat.le_of_ble_eq_true rfl) (by decide) (by decide) (mo_outN (j := n) (n := 9) hl hO hw (by decide) (by omega)) ?_
  show jl_E l G m_Mo_create (0, 0) 29 [some (.ref 22), some (.int (nI 19)), some (.int (x)), some (.int (nI n)), none] [.int (nI 0)] (σ) P
  refine er_if_eq 38 d_Mo_create_29 (by decide) (fun _ => ?_) (fun z => absurd (by decide) z)
  refine er_iload_n d_Mo_create_38 rfl ?_
  refine er_bipush ((nI (19))) d_Mo_create_39 (by decide) ?_
  refine er_icmp_ne 54 d_Mo_create_41 (by decide) (fun z => absurd rfl z) (fun _ => ?_)
  refine er_aload_n d_Mo_create_44 rfl ?_
  refine er_bipush ((-2)) d_Mo_create_45 (by decide) ?_
  refine er_iload_n d_Mo_create_47 rfl ?_
  refine er_callVE (As := [.int (-2), .int (nI n)]) d_Mo_create_48 k_Mo_create_267 hO rfl rfl rfl (Nat.le_of_ble_eq_true rfl) (by decide) (by decide) (mo_mk_r hl hn hm hn8 hz18 (fun σ h1 => ⟨_, rfl, ?_⟩))
  have hn := h1
  obtain ⟨fx, fp, fh, lw, lk, vl, vk, ks, kc, kv, lo, sk, hO, f1, f2, f3, f4, f5, f6, f7, hH, hB, hy1, hR1, hF⟩ := id hn
  obtain ⟨k1, k2, k3⟩ := id hH
  obtain ⟨⟨r1, r2⟩, hlo, hsk⟩ := id hR1
  obtain ⟨⟨hfx, hfp, hlc, hst⟩, hfh, hfs, hln⟩ := id hy1
  have hfx : fx t = m := hfx
  have hfp : fp t = p := hfp
  have hlc : ∀ k, k < 6 → lk (6 * t + k) = kdI (R k) ∧ (R k ≠ none → lw (6 * t + k) = V k) := hlc
  have hst : ∀ j, j < _ → vk (5 * t + j) = kdI (R (7 + j)) ∧ vl (5 * t + j) = V (7 + j) := hst
  have hS0 : vl (5 * t + (b)) = V (7 + b) := by rw [show 7 + b = 7 + (b) by omega]; exact (hst _ (by omega)).2
  have hK0 : vk (5 * t + (b)) = kdI (R (7 + b)) := by rw [show 7 + b = 7 + (b) by omega]; exact (hst _ (by omega)).1
  show jl_E l G m_Mo_create (0, 0) 51 [some (.ref 22), some (.int (nI 19)), some (.int (x)), some (.int (nI n)), none] [.int (nI (H.n))] (σ) P
  refine er_goto 64 d_Mo_create_51 (by decide) ?_
  refine er_istore d_Mo_create_64 (by decide) ?_
  show jl_E l G m_Mo_create (0, 0) 66 [some (.ref 22), some (.int (nI 19)), some (.int (x)), some (.int (nI n)), some (.int (nI (H.n)))] [] (σ) P
  refine er_iload d_Mo_create_66 rfl ?_
  refine er_if_ge 72 d_Mo_create_68 (by decide) (fun _ => ?_) (fun z => absurd (Int32.not_lt.mp (nI_pos (by omega))) z)
  refine er_iload_n d_Mo_create_72 rfl ?_
  refine er_bipush ((nI (19))) d_Mo_create_73 (by decide) ?_
  refine er_icmp_ne 83 d_Mo_create_75 (by decide) (fun z => absurd rfl z) (fun _ => ?_)
  refine er_aload_n d_Mo_create_78 rfl ?_
  refine er_iconst ((nI (1))) d_Mo_create_79 (by decide) ?_
  refine er_callV (As := [.int (nI 1)]) d_Mo_create_80 k_Mo_create_242 hO rfl rfl rfl (Nat.le_of_ble_eq_true rfl) (by decide) (by decide) (mo_dropE (h := b + 1) (n := 1) (c := b) hl hO f3 ht hfh (by omega) (by omega)) ?_
  show jl_E l G m_Mo_create (0, 0) 83 [some (.ref 22), some (.int (nI 19)), some (.int (x)), some (.int (nI n)), some (.int (nI (H.n)))] [] (σ.set (45) (.inl (0, 13, .inl (fun j => nI ((va_up fh t (b)) j))))) P
  refine er_aload_n d_Mo_create_83 rfl ?_
  refine er_iconst ((nI (1))) d_Mo_create_84 (by decide) ?_
  refine er_iload d_Mo_create_85 rfl ?_
  refine er_callV (As := [.int (nI 1), .int (nI (H.n))]) d_Mo_create_87 k_Mo_create_236 (jl_sn (by decide) hO) rfl rfl rfl (Nat.le_of_ble_eq_true rfl) (by decide) (by decide) (mo_mput (h := b) (a := (nI (1))) (b := (nI (H.n))) hl (jl_sn (by decide) hO) (jl_ss f3) (jl_sn (by decide) f6) (jl_sn (by decide) f7) ht (va_up_self _ _ _) (by omega)) ?_
  show jl_E l G m_Mo_create (0, 0) 90 [some (.ref 22), some (.int (nI 19)), some (.int (x)), some (.int (nI n)), some (.int (nI (H.n)))] [] ((((σ.set (45) (.inl (0, 13, .inl (fun j => nI ((va_up fh t (b)) j))))).set (49) (.inl (0, 65, .inl (upd vk (5 * t + (b)) (nI (1)))))).set (48) (.inl (0, 65, .inl (upd vl (5 * t + (b)) (nI (H.n)))))).set (45) (.inl (0, 13, .inl (fun j => nI ((va_up (va_up fh t (b)) t (b + 1)) j))))) P
  refine er_aload_n d_Mo_create_90 rfl ?_
  refine er_callV (As := []) d_Mo_create_91 k_Mo_create_261 (jl_sn (by decide) (jl_sn (by decide) (jl_sn (by decide) (jl_sn (by decide) hO)))) rfl rfl rfl (Nat.le_of_ble_eq_true rfl) (by decide) (by decide) (mo_mnext hl (jl_sn (by decide) (jl_sn (by decide) (jl_sn (by decide) (jl_sn (by decide) hO)))) (jl_sn (by decide) (jl_sn (by decide) (jl_sn (by decide) (jl_sn (by decide) f2)))) ht hfp) ?_
  show jl_E l G m_Mo_create (0, 0) 94 [some (.ref 22), some (.int (nI 19)), some (.int (x)), some (.int (nI n)), some (.int (nI (H.n)))] [] (((((σ.set (45) (.inl (0, 13, .inl (fun j => nI ((va_up fh t (b)) j))))).set (49) (.inl (0, 65, .inl (upd vk (5 * t + (b)) (nI (1)))))).set (48) (.inl (0, 65, .inl (upd vl (5 * t + (b)) (nI (H.n)))))).set (45) (.inl (0, 13, .inl (fun j => nI ((va_up (va_up fh t (b)) t (b + 1)) j))))).set (44) (.inl (0, 13, .inl (fun j => nI ((va_up fp t (p + 1)) j))))) P
  exact er_vret d_Mo_create_94 rfl (hT _ ⟨_, _, _, _, _, _, _, _, _, _, _, _, (jl_sn (by decide) (jl_sn (by decide) (jl_sn (by decide) (jl_sn (by decide) (jl_sn (by decide) hO))))), (jl_sn (by decide) (jl_sn (by decide) (jl_sn (by decide) (jl_sn (by decide) (jl_sn (by decide) f1))))), (jl_ss (jl_sn (by decide) (jl_sn (by decide) (jl_sn (by decide) (jl_sn (by decide) f2))))), (jl_sn (by decide) (jl_ss (jl_sn (by decide) (jl_sn (by decide) (jl_ss f3))))), (jl_sn (by decide) (jl_sn (by decide) (jl_sn (by decide) (jl_sn (by decide) (jl_sn (by decide) f4))))), (jl_sn (by decide) (jl_sn (by decide) (jl_sn (by decide) (jl_sn (by decide) (jl_sn (by decide) f5))))), (jl_sn (by decide) (jl_sn (by decide) (jl_ss (jl_sn (by decide) (jl_sn (by decide) f6))))), (jl_sn (by decide) (jl_sn (by decide) (jl_sn (by decide) (jl_ss (jl_sn (by decide) f7))))), ⟨(jl_sn (by decide) (jl_sn (by decide) (jl_sn (by decide) (jl_sn (by decide) (jl_sn (by decide) k1))))), (jl_sn (by decide) (jl_sn (by decide) (jl_sn (by decide) (jl_sn (by decide) (jl_sn (by decide) k2))))), (jl_sn (by decide) (jl_sn (by decide) (jl_sn (by decide) (jl_sn (by decide) (jl_sn (by decide) k3)))))⟩, hB, ((((((hy1).hg).putA (y := (some 1)) (by omega) rfl)).pc).le (by omega)), ⟨⟨(jl_sn (by decide) (jl_sn (by decide) (jl_sn (by decide) (jl_sn (by decide) (jl_sn (by decide) r1))))), (jl_sn (by decide) (jl_sn (by decide) (jl_sn (by decide) (jl_sn (by decide) (jl_sn (by decide) r2)))))⟩, hlo, hsk⟩, (((((hF.set (by omega)).set (by omega)).set (by omega)).set (by omega)).set (by omega))⟩) (by decide) (by decide)
theorem d_Mo_create_14 : decode m_Mo_create.2.1 14 = .ok (.iconst 0, 1) := by decide +kernel
theorem d_Mo_create_54 : decode m_Mo_create.2.1 54 = .ok (.aload_n 0, 1) := by decide +kernel
theorem d_Mo_create_55 : decode m_Mo_create.2.1 55 = .ok (.iload_n 2, 1) := by decide +kernel
theorem d_Mo_create_56 : decode m_Mo_create.2.1 56 = .ok (.aload_n 0, 1) := by decide +kernel
theorem d_Mo_create_57 : decode m_Mo_create.2.1 57 = .ok (.iload_n 2, 1) := by decide +kernel
theorem k_Mo_create_126 : jl_cv m_Mo_create m_Mo_fieldsOf 126 1 = true := by decide +kernel
theorem d_Mo_create_58 : decode m_Mo_create.2.1 58 = .ok (.invokevirtual 126, 3) := by decide +kernel
theorem d_Mo_create_61 : decode m_Mo_create.2.1 61 = .ok (.invokevirtual 267, 3) := by decide +kernel
theorem mo_cr_11 (hl : l.stackTraces = false) {P : jl_O → jl_S → Prop}  (hn : NB σ0 σ (b) t m (p) (b) (R) (V) (fs) (H) fa vf wh wy hg ov oh dn an) (hw : MoW σ tb pr ow ft hs) (ht : t < 12) (hb : b ≤ 5) (hp : b + 1 ≤ 5) (hm : H.n < 40) (hw0 : MoW σ0 tb pr ow ft hs) (hok : WoOk tb pr ow fi) (hn6 : n < 6) (hft : ∀ k f, fty pr fi ft k f < 16) (hf18 : fi n + ow n ≤ 18) (hz18 : ∀ j, H.sz j ≤ 18) (hT : ∀ σ', NB σ0 σ' (b + 1) t m (p + 1) (b + 1) (psh R b (some (10 + n))) (va_up V (7 + b) (nI H.n)) (fs) (mkO pr ow fi ft H n) fa vf wh wy hg ov oh dn an → P (.inl none) σ') : jl_mE l G m_Mo_create [.ref 22, .int (nI 11), .int (nI n)] σ P := by
  obtain ⟨fx, fp, fh, lw, lk, vl, vk, ks, kc, kv, lo, sk, hO, f1, f2, f3, f4, f5, f6, f7, hH, hB, hy1, hR1, hF⟩ := id hn
  obtain ⟨k1, k2, k3⟩ := id hH
  obtain ⟨⟨r1, r2⟩, hlo, hsk⟩ := id hR1
  obtain ⟨⟨hfx, hfp, hlc, hst⟩, hfh, hfs, hln⟩ := id hy1
  have hfx : fx t = m := hfx
  have hfp : fp t = p := hfp
  have hlc : ∀ k, k < 6 → lk (6 * t + k) = kdI (R k) ∧ (R k ≠ none → lw (6 * t + k) = V k) := hlc
  have hst : ∀ j, j < _ → vk (5 * t + j) = kdI (R (7 + j)) ∧ vl (5 * t + j) = V (7 + j) := hst
  obtain ⟨h23, h24, h25, h26, h27⟩ := id hw
  refine jl_ofE (as := [.ref 22, .int (nI 11), .int (nI n)]) rfl (by decide) hl (jl_cc rfl (jl_cc rfl (jl_cc rfl jl_ca))) (Nat.le_of_ble_eq_true rfl) ?_
  show jl_E l G m_Mo_create (0, 0) 0 [some (.ref 22), some (.int (nI 11)), some (.int (nI n)), none, none] [] (σ) P
  refine er_iload_n d_Mo_create_0 rfl ?_
  refine er_bipush ((nI (19))) d_Mo_create_1 (by decide) ?_
  refine er_icmp_ne 14 d_Mo_create_3 (by decide) (fun _ => ?_) (fun z => absurd z (by decide))
  refine er_iconst ((nI (0))) d_Mo_create_14 (by decide) ?_
  refine er_istore_n d_Mo_create_15 (by decide) ?_
  show jl_E l G m_Mo_create (0, 0) 16 [some (.ref 22), some (.int (nI 11)), some (.int (nI n)), some (.int (nI 0)), none] [] (σ) P
  refine er_iload_n d_Mo_create_16 rfl ?_
  refine er_bipush ((nI (19))) d_Mo_create_17 (by decide) ?_
  refine er_icmp_ne 38 d_Mo_create_19 (by decide) (fun _ => ?_) (fun z => absurd z (by decide))
  refine er_iload_n d_Mo_create_38 rfl ?_
  refine er_bipush ((nI (19))) d_Mo_create_39 (by decide) ?_
  refine er_icmp_ne 54 d_Mo_create_41 (by decide) (fun _ => ?_) (fun z => absurd z (by decide))
  refine er_aload_n d_Mo_create_54 rfl ?_
  refine er_iload_n d_Mo_create_55 rfl ?_
  refine er_aload_n d_Mo_create_56 rfl ?_
  refine er_iload_n d_Mo_create_57 rfl ?_
  refine er_callV (As := [.int (nI n)]) d_Mo_create_58 k_Mo_create_126 hO rfl rfl rfl (Nat.le_of_ble_eq_true rfl) (by decide) (by decide) (mo_fields (x := some n) hl hO hw hok (ob_s hn6)) ?_
  show jl_E l G m_Mo_create (0, 0) 61 [some (.ref 22), some (.int (nI 11)), some (.int (nI n)), some (.int (nI 0)), none] [.int (nI (fi n + ow n)), .int (nI n), .ref 22] (σ) P
  refine er_callVE (As := [.int (nI n), .int (nI (fi n + ow n))]) d_Mo_create_61 k_Mo_create_267 hO rfl rfl rfl (Nat.le_of_ble_eq_true rfl) (by decide) (by decide) (mo_mk_o hl hn hm hw0 hok hn6 hft hf18 hz18 (fun σ h1 => ⟨_, rfl, ?_⟩))
  have hn := h1
  obtain ⟨fx, fp, fh, lw, lk, vl, vk, ks, kc, kv, lo, sk, hO, f1, f2, f3, f4, f5, f6, f7, hH, hB, hy1, hR1, hF⟩ := id hn
  obtain ⟨k1, k2, k3⟩ := id hH
  obtain ⟨⟨r1, r2⟩, hlo, hsk⟩ := id hR1
  obtain ⟨⟨hfx, hfp, hlc, hst⟩, hfh, hfs, hln⟩ := id hy1
  have hfx : fx t = m := hfx
  have hfp : fp t = p := hfp
  have hlc : ∀ k, k < 6 → lk (6 * t + k) = kdI (R k) ∧ (R k ≠ none → lw (6 * t + k) = V k) := hlc
  have hst : ∀ j, j < _ → vk (5 * t + j) = kdI (R (7 + j)) ∧ vl (5 * t + j) = V (7 + j) := hst
  show jl_E l G m_Mo_create (0, 0) 64 [some (.ref 22), some (.int (nI 11)), some (.int (nI n)), some (.int (nI 0)), none] [.int (nI (H.n))] (σ) P
  refine er_istore d_Mo_create_64 (by decide) ?_
  show jl_E l G m_Mo_create (0, 0) 66 [some (.ref 22), some (.int (nI 11)), some (.int (nI n)), some (.int (nI 0)), some (.int (nI (H.n)))] [] (σ) P
  refine er_iload d_Mo_create_66 rfl ?_
  refine er_if_ge 72 d_Mo_create_68 (by decide) (fun _ => ?_) (fun z => absurd (Int32.not_lt.mp (nI_pos (by omega))) z)
  refine er_iload_n d_Mo_create_72 rfl ?_
  refine er_bipush ((nI (19))) d_Mo_create_73 (by decide) ?_
  refine er_icmp_ne 83 d_Mo_create_75 (by decide) (fun _ => ?_) (fun z => absurd z (by decide))
  refine er_aload_n d_Mo_create_83 rfl ?_
  refine er_iconst ((nI (1))) d_Mo_create_84 (by decide) ?_
  refine er_iload d_Mo_create_85 rfl ?_
  refine er_callV (As := [.int (nI 1), .int (nI (H.n))]) d_Mo_create_87 k_Mo_create_236 hO rfl rfl rfl (Nat.le_of_ble_eq_true rfl) (by decide) (by decide) (mo_mput (h := b) (a := (nI (1))) (b := (nI (H.n))) hl hO f3 f6 f7 ht hfh (by omega)) ?_
  show jl_E l G m_Mo_create (0, 0) 90 [some (.ref 22), some (.int (nI 11)), some (.int (nI n)), some (.int (nI 0)), some (.int (nI (H.n)))] [] (((σ.set (49) (.inl (0, 65, .inl (upd vk (5 * t + (b)) (nI (1)))))).set (48) (.inl (0, 65, .inl (upd vl (5 * t + (b)) (nI (H.n)))))).set (45) (.inl (0, 13, .inl (fun j => nI ((va_up fh t (b + 1)) j))))) P
  refine er_aload_n d_Mo_create_90 rfl ?_
  refine er_callV (As := []) d_Mo_create_91 k_Mo_create_261 (jl_sn (by decide) (jl_sn (by decide) (jl_sn (by decide) hO))) rfl rfl rfl (Nat.le_of_ble_eq_true rfl) (by decide) (by decide) (mo_mnext hl (jl_sn (by decide) (jl_sn (by decide) (jl_sn (by decide) hO))) (jl_sn (by decide) (jl_sn (by decide) (jl_sn (by decide) f2))) ht hfp) ?_
  show jl_E l G m_Mo_create (0, 0) 94 [some (.ref 22), some (.int (nI 11)), some (.int (nI n)), some (.int (nI 0)), some (.int (nI (H.n)))] [] ((((σ.set (49) (.inl (0, 65, .inl (upd vk (5 * t + (b)) (nI (1)))))).set (48) (.inl (0, 65, .inl (upd vl (5 * t + (b)) (nI (H.n)))))).set (45) (.inl (0, 13, .inl (fun j => nI ((va_up fh t (b + 1)) j))))).set (44) (.inl (0, 13, .inl (fun j => nI ((va_up fp t (p + 1)) j))))) P
  exact er_vret d_Mo_create_94 rfl (hT _ ⟨_, _, _, _, _, _, _, _, _, _, _, _, (jl_sn (by decide) (jl_sn (by decide) (jl_sn (by decide) (jl_sn (by decide) hO)))), (jl_sn (by decide) (jl_sn (by decide) (jl_sn (by decide) (jl_sn (by decide) f1)))), (jl_ss (jl_sn (by decide) (jl_sn (by decide) (jl_sn (by decide) f2)))), (jl_sn (by decide) (jl_ss (jl_sn (by decide) (jl_sn (by decide) f3)))), (jl_sn (by decide) (jl_sn (by decide) (jl_sn (by decide) (jl_sn (by decide) f4)))), (jl_sn (by decide) (jl_sn (by decide) (jl_sn (by decide) (jl_sn (by decide) f5)))), (jl_sn (by decide) (jl_sn (by decide) (jl_ss (jl_sn (by decide) f6)))), (jl_sn (by decide) (jl_sn (by decide) (jl_sn (by decide) (jl_ss f7)))), ⟨(jl_sn (by decide) (jl_sn (by decide) (jl_sn (by decide) (jl_sn (by decide) k1)))), (jl_sn (by decide) (jl_sn (by decide) (jl_sn (by decide) (jl_sn (by decide) k2)))), (jl_sn (by decide) (jl_sn (by decide) (jl_sn (by decide) (jl_sn (by decide) k3))))⟩, hB, (((((hy1).putA (y := (some (10 + n))) (by omega) (kd_o (by omega)))).pc).le (by omega)), ⟨⟨(jl_sn (by decide) (jl_sn (by decide) (jl_sn (by decide) (jl_sn (by decide) r1)))), (jl_sn (by decide) (jl_sn (by decide) (jl_sn (by decide) (jl_sn (by decide) r2))))⟩, hlo, hsk⟩, ((((hF.set (by omega)).set (by omega)).set (by omega)).set (by omega))⟩) (by decide) (by decide)
theorem d_Mo_create_71 : decode m_Mo_create.2.1 71 = .ok (.return_, 1) := by decide +kernel
theorem mo_cr_19f (hl : l.stackTraces = false) {P : jl_O → jl_S → Prop}  (hn : NB σ0 σ (b + 1) t m (p) (b + 1) (R) (V) (fs) (H) fa vf wh wy hg ov oh dn an) (hw : MoW σ tb pr ow ft hs) (ht : t < 12) (hb : b + 1 ≤ 5) (hv : V (7 + b) = nI n) (hn8 : n ≤ 8) (hm : H.n = 40) (hT : ∀ σ', NQ σ0 σ' [] (H) fa vf wh wy hg (nI 6) (nI 0) dn an → P (.inl none) σ') : jl_mE l G m_Mo_create [.ref 22, .int (nI 19), .int (x)] σ P := by
  obtain ⟨fx, fp, fh, lw, lk, vl, vk, ks, kc, kv, lo, sk, hO, f1, f2, f3, f4, f5, f6, f7, hH, hB, hy1, hR1, hF⟩ := id hn
  obtain ⟨k1, k2, k3⟩ := id hH
  obtain ⟨⟨r1, r2⟩, hlo, hsk⟩ := id hR1
  obtain ⟨⟨hfx, hfp, hlc, hst⟩, hfh, hfs, hln⟩ := id hy1
  have hfx : fx t = m := hfx
  have hfp : fp t = p := hfp
  have hlc : ∀ k, k < 6 → lk (6 * t + k) = kdI (R k) ∧ (R k ≠ none → lw (6 * t + k) = V k) := hlc
  have hst : ∀ j, j < _ → vk (5 * t + j) = kdI (R (7 + j)) ∧ vl (5 * t + j) = V (7 + j) := hst
  obtain ⟨h23, h24, h25, h26, h27⟩ := id hw
  have hS0 : vl (5 * t + (b)) = V (7 + b) := by rw [show 7 + b = 7 + (b) by omega]; exact (hst _ (by omega)).2
  have hK0 : vk (5 * t + (b)) = kdI (R (7 + b)) := by rw [show 7 + b = 7 + (b) by omega]; exact (hst _ (by omega)).1
  refine jl_ofE (as := [.ref 22, .int (nI 19), .int (x)]) rfl (by decide) hl (jl_cc rfl (jl_cc rfl (jl_cc rfl jl_ca))) (Nat.le_of_ble_eq_true rfl) ?_
  show jl_E l G m_Mo_create (0, 0) 0 [some (.ref 22), some (.int (nI 19)), some (.int (x)), none, none] [] (σ) P
  refine er_iload_n d_Mo_create_0 rfl ?_
  refine er_bipush ((nI (19))) d_Mo_create_1 (by decide) ?_
  refine er_icmp_ne 14 d_Mo_create_3 (by decide) (fun z => absurd rfl z) (fun _ => ?_)
  refine er_aload_n d_Mo_create_6 rfl ?_
  refine er_iconst ((nI (1))) d_Mo_create_7 (by decide) ?_
  refine er_callV (As := [.int (nI 1)]) d_Mo_create_8 k_Mo_create_245 hO rfl rfl rfl (Nat.le_of_ble_eq_true rfl) (by decide) (by decide) (mo_topE (h := b + 1) (n := 1) (v := (nI (n))) hl hO f3 f6 ht hfh (by omega) (by omega) (by omega) (by rw [show 5 * t + (b + 1) - 1 = 5 * t + (b) by omega]; exact hS0.trans hv)) ?_
  show jl_E l G m_Mo_create (0, 0) 11 [some (.ref 22), some (.int (nI 19)), some (.int (x)), none, none] [.int (nI n)] (σ) P
  refine er_goto 15 d_Mo_create_11 (by decide) ?_
  refine er_istore_n d_Mo_create_15 (by decide) ?_
  show jl_E l G m_Mo_create (0, 0) 16 [some (.ref 22), some (.int (nI 19)), some (.int (x)), some (.int (nI n)), none] [] (σ) P
  refine er_iload_n d_Mo_create_16 rfl ?_
  refine er_bipush ((nI (19))) d_Mo_create_17 (by decide) ?_
  refine er_icmp_ne 38 d_Mo_create_19 (by decide) (fun z => absurd rfl z) (fun _ => ?_)
  refine er_aload_n d_Mo_create_22 rfl ?_
  refine er_iload_n d_Mo_create_23 rfl ?_
  refine er_bipush ((nI (9))) d_Mo_create_24 (by decide) ?_
  refine er_callV (As := [.int (nI n), .int (nI 9)]) d_Mo_create_26 k_Mo_create_114 hO rfl rfl rfl (Nat.le_of_ble_eq_true rfl) (by decide) (by decide) (mo_outN (j := n) (n := 9) hl hO hw (by decide) (by omega)) ?_
  show jl_E l G m_Mo_create (0, 0) 29 [some (.ref 22), some (.int (nI 19)), some (.int (x)), some (.int (nI n)), none] [.int (nI 0)] (σ) P
  refine er_if_eq 38 d_Mo_create_29 (by decide) (fun _ => ?_) (fun z => absurd (by decide) z)
  refine er_iload_n d_Mo_create_38 rfl ?_
  refine er_bipush ((nI (19))) d_Mo_create_39 (by decide) ?_
  refine er_icmp_ne 54 d_Mo_create_41 (by decide) (fun z => absurd rfl z) (fun _ => ?_)
  refine er_aload_n d_Mo_create_44 rfl ?_
  refine er_bipush ((-2)) d_Mo_create_45 (by decide) ?_
  refine er_iload_n d_Mo_create_47 rfl ?_
  refine er_callVE (As := [.int (-2), .int (nI n)]) d_Mo_create_48 k_Mo_create_267 hO rfl rfl rfl (Nat.le_of_ble_eq_true rfl) (by decide) (by decide) (mo_mk_f hl hn hm (fun σ h1 => ⟨_, rfl, ?_⟩))
  show jl_E l G m_Mo_create (0, 0) 51 [some (.ref 22), some (.int (nI 19)), some (.int (x)), some (.int (nI n)), none] [.int (-1)] (σ) P
  refine er_goto 64 d_Mo_create_51 (by decide) ?_
  refine er_istore d_Mo_create_64 (by decide) ?_
  show jl_E l G m_Mo_create (0, 0) 66 [some (.ref 22), some (.int (nI 19)), some (.int (x)), some (.int (nI n)), some (.int (-1))] [] (σ) P
  refine er_iload d_Mo_create_66 rfl ?_
  refine er_if_ge 72 d_Mo_create_68 (by decide) (fun z => absurd z (by decide)) (fun _ => ?_)
  exact er_vret d_Mo_create_71 rfl (hT _ h1) (by decide) (by decide)
theorem mo_cr_11f (hl : l.stackTraces = false) {P : jl_O → jl_S → Prop}  (hn : NB σ0 σ (b) t m (p) (b) (R) (V) (fs) (H) fa vf wh wy hg ov oh dn an) (hw : MoW σ tb pr ow ft hs) (ht : t < 12) (hb : b ≤ 5) (hok : WoOk tb pr ow fi) (hn6 : n < 6) (hm : H.n = 40) (hT : ∀ σ', NQ σ0 σ' [] (H) fa vf wh wy hg (nI 6) (nI 0) dn an → P (.inl none) σ') : jl_mE l G m_Mo_create [.ref 22, .int (nI 11), .int (nI n)] σ P := by
  obtain ⟨fx, fp, fh, lw, lk, vl, vk, ks, kc, kv, lo, sk, hO, f1, f2, f3, f4, f5, f6, f7, hH, hB, hy1, hR1, hF⟩ := id hn
  obtain ⟨k1, k2, k3⟩ := id hH
  obtain ⟨⟨r1, r2⟩, hlo, hsk⟩ := id hR1
  obtain ⟨⟨hfx, hfp, hlc, hst⟩, hfh, hfs, hln⟩ := id hy1
  have hfx : fx t = m := hfx
  have hfp : fp t = p := hfp
  have hlc : ∀ k, k < 6 → lk (6 * t + k) = kdI (R k) ∧ (R k ≠ none → lw (6 * t + k) = V k) := hlc
  have hst : ∀ j, j < _ → vk (5 * t + j) = kdI (R (7 + j)) ∧ vl (5 * t + j) = V (7 + j) := hst
  obtain ⟨h23, h24, h25, h26, h27⟩ := id hw
  refine jl_ofE (as := [.ref 22, .int (nI 11), .int (nI n)]) rfl (by decide) hl (jl_cc rfl (jl_cc rfl (jl_cc rfl jl_ca))) (Nat.le_of_ble_eq_true rfl) ?_
  show jl_E l G m_Mo_create (0, 0) 0 [some (.ref 22), some (.int (nI 11)), some (.int (nI n)), none, none] [] (σ) P
  refine er_iload_n d_Mo_create_0 rfl ?_
  refine er_bipush ((nI (19))) d_Mo_create_1 (by decide) ?_
  refine er_icmp_ne 14 d_Mo_create_3 (by decide) (fun _ => ?_) (fun z => absurd z (by decide))
  refine er_iconst ((nI (0))) d_Mo_create_14 (by decide) ?_
  refine er_istore_n d_Mo_create_15 (by decide) ?_
  show jl_E l G m_Mo_create (0, 0) 16 [some (.ref 22), some (.int (nI 11)), some (.int (nI n)), some (.int (nI 0)), none] [] (σ) P
  refine er_iload_n d_Mo_create_16 rfl ?_
  refine er_bipush ((nI (19))) d_Mo_create_17 (by decide) ?_
  refine er_icmp_ne 38 d_Mo_create_19 (by decide) (fun _ => ?_) (fun z => absurd z (by decide))
  refine er_iload_n d_Mo_create_38 rfl ?_
  refine er_bipush ((nI (19))) d_Mo_create_39 (by decide) ?_
  refine er_icmp_ne 54 d_Mo_create_41 (by decide) (fun _ => ?_) (fun z => absurd z (by decide))
  refine er_aload_n d_Mo_create_54 rfl ?_
  refine er_iload_n d_Mo_create_55 rfl ?_
  refine er_aload_n d_Mo_create_56 rfl ?_
  refine er_iload_n d_Mo_create_57 rfl ?_
  refine er_callV (As := [.int (nI n)]) d_Mo_create_58 k_Mo_create_126 hO rfl rfl rfl (Nat.le_of_ble_eq_true rfl) (by decide) (by decide) (mo_fields (x := some n) hl hO hw hok (ob_s hn6)) ?_
  show jl_E l G m_Mo_create (0, 0) 61 [some (.ref 22), some (.int (nI 11)), some (.int (nI n)), some (.int (nI 0)), none] [.int (nI (fi n + ow n)), .int (nI n), .ref 22] (σ) P
  refine er_callVE (As := [.int (nI n), .int (nI (fi n + ow n))]) d_Mo_create_61 k_Mo_create_267 hO rfl rfl rfl (Nat.le_of_ble_eq_true rfl) (by decide) (by decide) (mo_mk_f hl hn hm (fun σ h1 => ⟨_, rfl, ?_⟩))
  show jl_E l G m_Mo_create (0, 0) 64 [some (.ref 22), some (.int (nI 11)), some (.int (nI n)), some (.int (nI 0)), none] [.int (-1)] (σ) P
  refine er_istore d_Mo_create_64 (by decide) ?_
  show jl_E l G m_Mo_create (0, 0) 66 [some (.ref 22), some (.int (nI 11)), some (.int (nI n)), some (.int (nI 0)), some (.int (-1))] [] (σ) P
  refine er_iload d_Mo_create_66 rfl ?_
  refine er_if_ge 72 d_Mo_create_68 (by decide) (fun z => absurd z (by decide)) (fun _ => ?_)
  exact er_vret d_Mo_create_71 rfl (hT _ h1) (by decide) (by decide)
end JNzc
