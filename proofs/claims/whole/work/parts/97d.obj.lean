/-! the class Machine: actOnObject and below it (wip/gen/p97d.py) -/
section JMd
variable {l : Launch} {G : jl_G} {σ : jl_S}
variable {tb : Nat → Bool} {pr : Nat → Option Nat} {ow fi ft : Nat → Nat} {mt : Nat → Option Nat}
variable {σ0 : jl_S} {N t m p b : Nat} {R : Rw} {V : Nat → Int32} {fs : List Fm} {H : Hp} {su dt dq aw x : Int32}
variable {sg : Int32 → Option Sg} {D : Nat → MDt} {MP : Nat → Nat → Int32} {FH : Nat → Nat → Bool}
theorem d_Ma_makeObject_0 : decode m_Ma_makeObject.2.1 0 = .ok (.aload_n 0, 1) := by decide +kernel
theorem f_Ma_makeObject_12 : jl_fd m_Ma_makeObject 12 1 2 = true := by decide +kernel
theorem d_Ma_makeObject_1 : decode m_Ma_makeObject.2.1 1 = .ok (.getfield 12, 3) := by decide +kernel
theorem k_Ma_makeObject_177 : jl_cv m_Ma_makeObject m_St_isFull 177 0 = true := by decide +kernel
theorem d_Ma_makeObject_4 : decode m_Ma_makeObject.2.1 4 = .ok (.invokevirtual 177, 3) := by decide +kernel
theorem d_Ma_makeObject_7 : decode m_Ma_makeObject.2.1 7 = .ok (.ifCond .eq 13, 3) := by decide +kernel
theorem d_Ma_makeObject_10 : decode m_Ma_makeObject.2.1 10 = .ok (.aload_n 0, 1) := by decide +kernel
theorem d_Ma_makeObject_11 : decode m_Ma_makeObject.2.1 11 = .ok (.bipush 6, 2) := by decide +kernel
theorem d_Ma_makeObject_13 : decode m_Ma_makeObject.2.1 13 = .ok (.iconst 0, 1) := by decide +kernel
theorem k_Ma_makeObject_87 : jl_cv m_Ma_makeObject m_Ma_end 87 2 = true := by decide +kernel
theorem d_Ma_makeObject_14 : decode m_Ma_makeObject.2.1 14 = .ok (.invokevirtual 87, 3) := by decide +kernel
theorem d_Ma_makeObject_17 : decode m_Ma_makeObject.2.1 17 = .ok (.goto 23, 3) := by decide +kernel
theorem d_Ma_makeObject_40 : decode m_Ma_makeObject.2.1 40 = .ok (.return_, 1) := by decide +kernel
theorem ma_mko_11f (hl : l.stackTraces = false) {P : jl_O → jl_S → Prop} {n : Nat} (hk : KB σ0 mt σ (7 + b) t m p (R) (V) (fs) (H) su dt dq aw) (ht : t < 12) (hh : R 6 = some (b)) (hb : b ≤ 5) (hn : n < 6) (hm40 : H.n ≤ 40) (h40 : 40 ≤ H.n) (hT : ∀ σ', KB σ0 mt σ' (6) t m p (R) (V) (fs) (H) (nI 6) (nI 0) dq aw → P (.inl none) σ') : jl_mE l G m_Ma_makeObject [.ref 13, .int (nI n)] σ P := by
  obtain ⟨uw, ps, ty, va, hX, u1, u2, t1, t2, hS, hx, hto, hF⟩ := id hk
  obtain ⟨s0, s1, s2, s3⟩ := id hS
  obtain ⟨⟨⟨a, hma, hua⟩, hps, hty, hva⟩, hfs, hln, hob⟩ := id hx
  have hma : mt m = some a := hma
  have hps : ps t = p := hps
  have hty : ∀ j, j < _ → ty (t * 12 + j) = R j := hty
  have hva : ∀ j, j < _ → j ≠ 6 → va (t * 12 + j) = V j := hva
  have hRo := hx.rob
  have hh6 : ty (t * 12 + 6) = some (b) := (hty 6 (by omega)).trans hh
  refine jl_ofE (as := [.ref 13, .int (nI n)]) rfl (by decide) hl (jl_cc rfl (jl_cc rfl jl_ca)) (Nat.le_of_ble_eq_true rfl) ?_
  show jl_E l G m_Ma_makeObject (0, 0) 0 [some (.ref 13), some (.int (nI n))] [] (σ) P
  refine er_aload_n d_Ma_makeObject_0 rfl ?_
  refine er_getf d_Ma_makeObject_1 f_Ma_makeObject_12 hX rfl ?_
  refine er_callV (As := []) d_Ma_makeObject_4 k_Ma_makeObject_177 s0 rfl rfl rfl (Nat.le_of_ble_eq_true rfl) (by decide) (by decide) (st_fullT hl ⟨s0, s1, s2, s3⟩ hm40 h40) ?_
  show jl_E l G m_Ma_makeObject (0, 0) 7 [some (.ref 13), some (.int (nI n))] [.int (nI 1)] (σ) P
  refine er_if_eq 20 d_Ma_makeObject_7 (by decide) (fun z => absurd z (by decide)) (fun _ => ?_)
  refine er_aload_n d_Ma_makeObject_10 rfl ?_
  refine er_bipush ((nI (6))) d_Ma_makeObject_11 (by decide) ?_
  refine er_iconst ((nI (0))) d_Ma_makeObject_13 (by decide) ?_
  refine er_callV (As := [.int (nI 6), .int (nI 0)]) d_Ma_makeObject_14 k_Ma_makeObject_87 hX rfl rfl rfl (Nat.le_of_ble_eq_true rfl) (by decide) (by decide) (ma_end hl hX) ?_
  show jl_E l G m_Ma_makeObject (0, 0) 17 [some (.ref 13), some (.int (nI n))] [] (σ.set (13) (.inr (1, [.ref 1, .ref 8, .ref 14, .ref 18, .ref 19, .ref 20, .ref 21, .int (nI t), .int (nI 6), .int (nI 0), .int (dq), .int (aw)]))) P
  refine er_goto 40 d_Ma_makeObject_17 (by decide) ?_
  exact er_vret d_Ma_makeObject_40 rfl (hT _ ⟨_, _, _, _, (jl_ss hX), (jl_sn (by decide) u1), (jl_sn (by decide) u2), (jl_sn (by decide) t1), (jl_sn (by decide) t2), ⟨(jl_sn (by decide) s0), (jl_sn (by decide) s1), (jl_sn (by decide) s2), (jl_sn (by decide) s3)⟩, (hx).lo (by omega) (fun j hj => ⟨rfl, rfl⟩), hto, (hF.set (by omega))⟩) (by decide) (by decide)
theorem d_Ma_makeObject_20 : decode m_Ma_makeObject.2.1 20 = .ok (.aload_n 0, 1) := by decide +kernel
theorem d_Ma_makeObject_21 : decode m_Ma_makeObject.2.1 21 = .ok (.bipush 10, 2) := by decide +kernel
theorem d_Ma_makeObject_23 : decode m_Ma_makeObject.2.1 23 = .ok (.iload_n 1, 1) := by decide +kernel
theorem d_Ma_makeObject_24 : decode m_Ma_makeObject.2.1 24 = .ok (.iadd, 1) := by decide +kernel
theorem d_Ma_makeObject_25 : decode m_Ma_makeObject.2.1 25 = .ok (.aload_n 0, 1) := by decide +kernel
theorem d_Ma_makeObject_26 : decode m_Ma_makeObject.2.1 26 = .ok (.getfield 12, 3) := by decide +kernel
theorem d_Ma_makeObject_29 : decode m_Ma_makeObject.2.1 29 = .ok (.aload_n 0, 1) := by decide +kernel
theorem f_Ma_makeObject_50 : jl_fd m_Ma_makeObject 50 1 0 = true := by decide +kernel
theorem d_Ma_makeObject_30 : decode m_Ma_makeObject.2.1 30 = .ok (.getfield 50, 3) := by decide +kernel
theorem d_Ma_makeObject_33 : decode m_Ma_makeObject.2.1 33 = .ok (.iload_n 1, 1) := by decide +kernel
theorem k_Ma_makeObject_65 : jl_cv m_Ma_makeObject m_St_makeObject 65 2 = true := by decide +kernel
theorem d_Ma_makeObject_34 : decode m_Ma_makeObject.2.1 34 = .ok (.invokevirtual 65, 3) := by decide +kernel
theorem k_Ma_makeObject_133 : jl_cv m_Ma_makeObject m_Ma_put 133 2 = true := by decide +kernel
theorem d_Ma_makeObject_37 : decode m_Ma_makeObject.2.1 37 = .ok (.invokevirtual 133, 3) := by decide +kernel
theorem ma_mko_11o (hl : l.stackTraces = false) {P : jl_O → jl_S → Prop} {n : Nat} (hk : KB σ0 mt σ (7 + b) t m p (R) (V) (fs) (H) su dt dq aw) (hwx : WX σ0 tb pr ow fi ft mt sg D MP FH) (hmt : MtOk mt) (hok : WoOk tb pr ow fi) (ht : t < 12) (hh : R 6 = some (b)) (hb : b ≤ 5) (hp : b < 5) (hn : n < 6) (h40 : H.n < 40) (hft : ∀ k f, tyv (some (fty pr fi ft k f))) (hf18 : fi n + ow n ≤ 18) (hT : ∀ σ', KB σ0 mt σ' (8 + b) t m p (psh R b (some (10 + n))) (va_up V (7 + b) (nI H.n)) (fs) (mkO pr ow fi ft H n) su dt dq aw → P (.inl none) σ') : jl_mE l G m_Ma_makeObject [.ref 13, .int (nI n)] σ P := by
  obtain ⟨uw, ps, ty, va, hX, u1, u2, t1, t2, hS, hx, hto, hF⟩ := id hk
  obtain ⟨s0, s1, s2, s3⟩ := id hS
  obtain ⟨⟨⟨a, hma, hua⟩, hps, hty, hva⟩, hfs, hln, hob⟩ := id hx
  have hma : mt m = some a := hma
  have hps : ps t = p := hps
  have hty : ∀ j, j < _ → ty (t * 12 + j) = R j := hty
  have hva : ∀ j, j < _ → j ≠ 6 → va (t * 12 + j) = V j := hva
  have hRo := hx.rob
  have hw := (hwx.fr hF hmt).1
  obtain ⟨hW, h2, h3, h4, h5w, h6w, h7⟩ := id hw
  have hh6 : ty (t * 12 + 6) = some (b) := (hty 6 (by omega)).trans hh
  refine jl_ofE (as := [.ref 13, .int (nI n)]) rfl (by decide) hl (jl_cc rfl (jl_cc rfl jl_ca)) (Nat.le_of_ble_eq_true rfl) ?_
  show jl_E l G m_Ma_makeObject (0, 0) 0 [some (.ref 13), some (.int (nI n))] [] (σ) P
  refine er_aload_n d_Ma_makeObject_0 rfl ?_
  refine er_getf d_Ma_makeObject_1 f_Ma_makeObject_12 hX rfl ?_
  refine er_callV (As := []) d_Ma_makeObject_4 k_Ma_makeObject_177 s0 rfl rfl rfl (Nat.le_of_ble_eq_true rfl) (by decide) (by decide) (st_fullF hl ⟨s0, s1, s2, s3⟩ h40) ?_
  show jl_E l G m_Ma_makeObject (0, 0) 7 [some (.ref 13), some (.int (nI n))] [.int (nI 0)] (σ) P
  refine er_if_eq 20 d_Ma_makeObject_7 (by decide) (fun _ => ?_) (fun z => absurd (by decide) z)
  refine er_aload_n d_Ma_makeObject_20 rfl ?_
  refine er_bipush ((nI (10))) d_Ma_makeObject_21 (by decide) ?_
  refine er_iload_n d_Ma_makeObject_23 rfl ?_
  refine er_iaddN d_Ma_makeObject_24 ?_
  refine er_aload_n d_Ma_makeObject_25 rfl ?_
  refine er_getf d_Ma_makeObject_26 f_Ma_makeObject_12 hX rfl ?_
  refine er_aload_n d_Ma_makeObject_29 rfl ?_
  refine er_getf d_Ma_makeObject_30 f_Ma_makeObject_50 hX rfl ?_
  refine er_iload_n d_Ma_makeObject_33 rfl ?_
  refine er_callVE (As := [.ref 1, .int (nI n)]) d_Ma_makeObject_34 k_Ma_makeObject_65 s0 rfl rfl rfl (Nat.le_of_ble_eq_true rfl) (by decide) (by decide) (st_obj hl ⟨s0, s1, s2, s3⟩ hw hok hn h40 (fun k f => (hft k f _ rfl).1) hf18 (fun sy1 sv1 σ hy1 hw1 hS1 hf1 => ⟨_, rfl, ?_⟩))
  have e1 := hw1.e
  subst e1
  have e2 := hy1.e
  subst e2
  have hX : MaAt σ (nI t) su dt dq aw := (hf1.2 13 (by omega)).trans hX
  have u1 := (hf1.2 18 (by omega)).trans u1
  have u2 := (hf1.2 19 (by omega)).trans u2
  have t1 := (hf1.2 20 (by omega)).trans t1
  have t2 := (hf1.2 21 (by omega)).trans t2
  have hF := hF.sto hf1
  obtain ⟨s0, s1, s2, s3⟩ := id hS1
  show jl_E l G m_Ma_makeObject (0, 0) 37 [some (.ref 13), some (.int (nI n))] [.int (nI (H.n)), .int (nI ((10) + (n))), .ref 13] (σ) P
  refine er_callV (As := [.int (nI ((10) + (n))), .int (nI (H.n))]) d_Ma_makeObject_37 k_Ma_makeObject_133 hX rfl rfl rfl (Nat.le_of_ble_eq_true rfl) (by decide) (by decide) (ma_put (h := b) (y := (some ((10) + (n)))) (v := (nI (H.n))) hl hX t1 t2 ht hh6 (by omega)) ?_
  show jl_E l G m_Ma_makeObject (0, 0) 40 [some (.ref 13), some (.int (nI n))] [] (((σ.set (20) (.inl (0, 144, .inl (fun j => en ((va_up ty (t * 12 + 7 + b) (some ((10) + (n)))) j))))).set (21) (.inl (0, 144, .inl (upd va (t * 12 + 7 + b) (nI (H.n)))))).set (20) (.inl (0, 144, .inl (fun j => en ((va_up (va_up ty (t * 12 + 7 + b) (some ((10) + (n)))) (t * 12 + 6) (some (b + 1))) j))))) P
  exact er_vret d_Ma_makeObject_40 rfl (hT _ ⟨_, _, _, _, (jl_sn (by decide) (jl_sn (by decide) (jl_sn (by decide) hX))), (jl_sn (by decide) (jl_sn (by decide) (jl_sn (by decide) u1))), (jl_sn (by decide) (jl_sn (by decide) (jl_sn (by decide) u2))), (jl_ss (jl_sn (by decide) (jl_ss t1))), (jl_sn (by decide) (jl_ss (jl_sn (by decide) t2))), ⟨(jl_sn (by decide) (jl_sn (by decide) (jl_sn (by decide) s0))), (jl_sn (by decide) (jl_sn (by decide) (jl_sn (by decide) s1))), (jl_sn (by decide) (jl_sn (by decide) (jl_sn (by decide) s2))), (jl_sn (by decide) (jl_sn (by decide) (jl_sn (by decide) s3)))⟩, ((((hx).put (i := b) (y := (some ((10) + (n)))) (v := (nI (H.n))) (by omega) (by omega) (ob_s (by omega)))).cc (by first | rfl | simp only [psh_six, six_six]) (by first | rfl | simp only [psh_six, six_six])), (mkO_ob hto), (((hF.set (by omega)).set (by omega)).set (by omega))⟩) (by decide) (by decide)
theorem d_Ma_actOnObject_0 : decode m_Ma_actOnObject.2.1 0 = .ok (.iload_n 1, 1) := by decide +kernel
theorem d_Ma_actOnObject_1 : decode m_Ma_actOnObject.2.1 1 = .ok (.tableswitch 107 11 15 #[35, 42, 51, 107, 60], 35) := by decide +kernel
theorem d_Ma_actOnObject_36 : decode m_Ma_actOnObject.2.1 36 = .ok (.aload_n 0, 1) := by decide +kernel
theorem d_Ma_actOnObject_37 : decode m_Ma_actOnObject.2.1 37 = .ok (.iload_n 2, 1) := by decide +kernel
theorem k_Ma_actOnObject_182 : jl_cv m_Ma_actOnObject m_Ma_makeObject 182 1 = true := by decide +kernel
theorem d_Ma_actOnObject_38 : decode m_Ma_actOnObject.2.1 38 = .ok (.invokevirtual 182, 3) := by decide +kernel
theorem d_Ma_actOnObject_41 : decode m_Ma_actOnObject.2.1 41 = .ok (.iconst 0, 1) := by decide +kernel
theorem d_Ma_actOnObject_42 : decode m_Ma_actOnObject.2.1 42 = .ok (.ireturn, 1) := by decide +kernel
theorem ma_obj_11f (hl : l.stackTraces = false) {P : jl_O → jl_S → Prop} {n : Nat} (hk : KB σ0 mt σ (7 + b) t m p (R) (V) (fs) (H) su dt dq aw) (ht : t < 12) (hh : R 6 = some (b)) (hb : b ≤ 5) (hn : n < 6) (hm40 : H.n ≤ 40) (h40 : 40 ≤ H.n) (hT : ∀ σ', KB σ0 mt σ' (6) t m p (R) (V) (fs) (H) (nI 6) (nI 0) dq aw → P (.inl (some (.int (nI 0)))) σ') : jl_mE l G m_Ma_actOnObject [.ref 13, .int (nI 11), .int (nI n)] σ P := by
  obtain ⟨uw, ps, ty, va, hX, u1, u2, t1, t2, hS, hx, hto, hF⟩ := id hk
  obtain ⟨s0, s1, s2, s3⟩ := id hS
  obtain ⟨⟨⟨a, hma, hua⟩, hps, hty, hva⟩, hfs, hln, hob⟩ := id hx
  have hma : mt m = some a := hma
  have hps : ps t = p := hps
  have hty : ∀ j, j < _ → ty (t * 12 + j) = R j := hty
  have hva : ∀ j, j < _ → j ≠ 6 → va (t * 12 + j) = V j := hva
  have hRo := hx.rob
  refine jl_ofE (as := [.ref 13, .int (nI 11), .int (nI n)]) rfl (by decide) hl (jl_cc rfl (jl_cc rfl (jl_cc rfl jl_ca))) (Nat.le_of_ble_eq_true rfl) ?_
  show jl_E l G m_Ma_actOnObject (0, 0) 0 [some (.ref 13), some (.int (nI 11)), some (.int (nI n)), none, none, none] [] (σ) P
  refine er_iload_n d_Ma_actOnObject_0 rfl ?_
  refine er_tableIn (off := 35) 36 d_Ma_actOnObject_1 (by decide +kernel) (by decide +kernel) (by decide +kernel) (by decide) ?_
  refine er_aload_n d_Ma_actOnObject_36 rfl ?_
  refine er_iload_n d_Ma_actOnObject_37 rfl ?_
  refine er_callVE (As := [.int (nI n)]) d_Ma_actOnObject_38 k_Ma_actOnObject_182 hX rfl rfl rfl (Nat.le_of_ble_eq_true rfl) (by decide) (by decide) (ma_mko_11f hl hk ht hh hb hn hm40 h40 (fun σ hk => ⟨_, rfl, ?_⟩))
  show jl_E l G m_Ma_actOnObject (0, 0) 41 [some (.ref 13), some (.int (nI 11)), some (.int (nI n)), none, none, none] [] (σ) P
  refine er_iconst ((nI (0))) d_Ma_actOnObject_41 (by decide) ?_
  exact er_iret d_Ma_actOnObject_42 rfl (hT _ hk) (by decide) (by decide)
theorem d_Ma_actOnStack_253 : decode m_Ma_actOnStack.2.1 253 = .ok (.aload_n 0, 1) := by decide +kernel
theorem d_Ma_actOnStack_254 : decode m_Ma_actOnStack.2.1 254 = .ok (.iload_n 1, 1) := by decide +kernel
theorem d_Ma_actOnStack_255 : decode m_Ma_actOnStack.2.1 255 = .ok (.iload_n 2, 1) := by decide +kernel
theorem k_Ma_actOnStack_161 : jl_cv m_Ma_actOnStack m_Ma_actOnObject 161 2 = true := by decide +kernel
theorem d_Ma_actOnStack_256 : decode m_Ma_actOnStack.2.1 256 = .ok (.invokevirtual 161, 3) := by decide +kernel
theorem d_Ma_actOnStack_259 : decode m_Ma_actOnStack.2.1 259 = .ok (.ireturn, 1) := by decide +kernel
theorem ma_act_11f (hl : l.stackTraces = false) {P : jl_O → jl_S → Prop} {n : Nat} (hk : KB σ0 mt σ (7 + b) t m p (R) (V) (fs) (H) su dt dq aw) (ht : t < 12) (hh : R 6 = some (b)) (hb : b ≤ 5) (hn : n < 6) (hm40 : H.n ≤ 40) (h40 : 40 ≤ H.n) (hT : ∀ σ', KB σ0 mt σ' (6) t m p (R) (V) (fs) (H) (nI 6) (nI 0) dq aw → P (.inl (some (.int (nI 0)))) σ') : jl_mE l G m_Ma_actOnStack [.ref 13, .int (nI 11), .int (nI n)] σ P := by
  obtain ⟨uw, ps, ty, va, hX, u1, u2, t1, t2, hS, hx, hto, hF⟩ := id hk
  obtain ⟨s0, s1, s2, s3⟩ := id hS
  obtain ⟨⟨⟨a, hma, hua⟩, hps, hty, hva⟩, hfs, hln, hob⟩ := id hx
  have hma : mt m = some a := hma
  have hps : ps t = p := hps
  have hty : ∀ j, j < _ → ty (t * 12 + j) = R j := hty
  have hva : ∀ j, j < _ → j ≠ 6 → va (t * 12 + j) = V j := hva
  have hRo := hx.rob
  refine jl_ofE (as := [.ref 13, .int (nI 11), .int (nI n)]) rfl (by decide) hl (jl_cc rfl (jl_cc rfl (jl_cc rfl jl_ca))) (Nat.le_of_ble_eq_true rfl) ?_
  show jl_E l G m_Ma_actOnStack (0, 0) 0 [some (.ref 13), some (.int (nI 11)), some (.int (nI n)), none, none] [] (σ) P
  refine er_iload_n d_Ma_actOnStack_0 rfl ?_
  refine er_tableIn (off := 252) 253 d_Ma_actOnStack_1 (by decide +kernel) (by decide +kernel) (by decide +kernel) (by decide) ?_
  refine er_aload_n d_Ma_actOnStack_253 rfl ?_
  refine er_iload_n d_Ma_actOnStack_254 rfl ?_
  refine er_iload_n d_Ma_actOnStack_255 rfl ?_
  refine er_callVE (As := [.int (nI 11), .int (nI n)]) d_Ma_actOnStack_256 k_Ma_actOnStack_161 hX rfl rfl rfl (Nat.le_of_ble_eq_true rfl) (by decide) (by decide) (ma_obj_11f hl hk ht hh hb hn hm40 h40 (fun σ hk => ⟨_, rfl, ?_⟩))
  show jl_E l G m_Ma_actOnStack (0, 0) 259 [some (.ref 13), some (.int (nI 11)), some (.int (nI n)), none, none] [.int (nI 0)] (σ) P
  exact er_iret d_Ma_actOnStack_259 rfl (hT _ hk) (by decide) (by decide)
theorem ma_obj_11o (hl : l.stackTraces = false) {P : jl_O → jl_S → Prop} {n : Nat} (hk : KB σ0 mt σ (7 + b) t m p (R) (V) (fs) (H) su dt dq aw) (hwx : WX σ0 tb pr ow fi ft mt sg D MP FH) (hmt : MtOk mt) (hok : WoOk tb pr ow fi) (ht : t < 12) (hh : R 6 = some (b)) (hb : b ≤ 5) (hp : b < 5) (hn : n < 6) (h40 : H.n < 40) (hft : ∀ k f, tyv (some (fty pr fi ft k f))) (hf18 : fi n + ow n ≤ 18) (hT : ∀ σ', KB σ0 mt σ' (8 + b) t m p (psh R b (some (10 + n))) (va_up V (7 + b) (nI H.n)) (fs) (mkO pr ow fi ft H n) su dt dq aw → P (.inl (some (.int (nI 0)))) σ') : jl_mE l G m_Ma_actOnObject [.ref 13, .int (nI 11), .int (nI n)] σ P := by
  obtain ⟨uw, ps, ty, va, hX, u1, u2, t1, t2, hS, hx, hto, hF⟩ := id hk
  obtain ⟨s0, s1, s2, s3⟩ := id hS
  obtain ⟨⟨⟨a, hma, hua⟩, hps, hty, hva⟩, hfs, hln, hob⟩ := id hx
  have hma : mt m = some a := hma
  have hps : ps t = p := hps
  have hty : ∀ j, j < _ → ty (t * 12 + j) = R j := hty
  have hva : ∀ j, j < _ → j ≠ 6 → va (t * 12 + j) = V j := hva
  have hRo := hx.rob
  have hw := (hwx.fr hF hmt).1
  obtain ⟨hW, h2, h3, h4, h5w, h6w, h7⟩ := id hw
  refine jl_ofE (as := [.ref 13, .int (nI 11), .int (nI n)]) rfl (by decide) hl (jl_cc rfl (jl_cc rfl (jl_cc rfl jl_ca))) (Nat.le_of_ble_eq_true rfl) ?_
  show jl_E l G m_Ma_actOnObject (0, 0) 0 [some (.ref 13), some (.int (nI 11)), some (.int (nI n)), none, none, none] [] (σ) P
  refine er_iload_n d_Ma_actOnObject_0 rfl ?_
  refine er_tableIn (off := 35) 36 d_Ma_actOnObject_1 (by decide +kernel) (by decide +kernel) (by decide +kernel) (by decide) ?_
  refine er_aload_n d_Ma_actOnObject_36 rfl ?_
  refine er_iload_n d_Ma_actOnObject_37 rfl ?_
  refine er_callVE (As := [.int (nI n)]) d_Ma_actOnObject_38 k_Ma_actOnObject_182 hX rfl rfl rfl (Nat.le_of_ble_eq_true rfl) (by decide) (by decide) (ma_mko_11o hl hk hwx hmt hok ht hh hb hp hn h40 hft hf18 (fun σ hk => ⟨_, rfl, ?_⟩))
  show jl_E l G m_Ma_actOnObject (0, 0) 41 [some (.ref 13), some (.int (nI 11)), some (.int (nI n)), none, none, none] [] (σ) P
  refine er_iconst ((nI (0))) d_Ma_actOnObject_41 (by decide) ?_
  exact er_iret d_Ma_actOnObject_42 rfl (hT _ hk) (by decide) (by decide)
theorem ma_act_11o (hl : l.stackTraces = false) {P : jl_O → jl_S → Prop} {n : Nat} (hk : KB σ0 mt σ (7 + b) t m p (R) (V) (fs) (H) su dt dq aw) (hwx : WX σ0 tb pr ow fi ft mt sg D MP FH) (hmt : MtOk mt) (hok : WoOk tb pr ow fi) (ht : t < 12) (hh : R 6 = some (b)) (hb : b ≤ 5) (hp : b < 5) (hn : n < 6) (h40 : H.n < 40) (hft : ∀ k f, tyv (some (fty pr fi ft k f))) (hf18 : fi n + ow n ≤ 18) (hT : ∀ σ', KB σ0 mt σ' (8 + b) t m p (psh R b (some (10 + n))) (va_up V (7 + b) (nI H.n)) (fs) (mkO pr ow fi ft H n) su dt dq aw → P (.inl (some (.int (nI 0)))) σ') : jl_mE l G m_Ma_actOnStack [.ref 13, .int (nI 11), .int (nI n)] σ P := by
  obtain ⟨uw, ps, ty, va, hX, u1, u2, t1, t2, hS, hx, hto, hF⟩ := id hk
  obtain ⟨s0, s1, s2, s3⟩ := id hS
  obtain ⟨⟨⟨a, hma, hua⟩, hps, hty, hva⟩, hfs, hln, hob⟩ := id hx
  have hma : mt m = some a := hma
  have hps : ps t = p := hps
  have hty : ∀ j, j < _ → ty (t * 12 + j) = R j := hty
  have hva : ∀ j, j < _ → j ≠ 6 → va (t * 12 + j) = V j := hva
  have hRo := hx.rob
  have hw := (hwx.fr hF hmt).1
  obtain ⟨hW, h2, h3, h4, h5w, h6w, h7⟩ := id hw
  refine jl_ofE (as := [.ref 13, .int (nI 11), .int (nI n)]) rfl (by decide) hl (jl_cc rfl (jl_cc rfl (jl_cc rfl jl_ca))) (Nat.le_of_ble_eq_true rfl) ?_
  show jl_E l G m_Ma_actOnStack (0, 0) 0 [some (.ref 13), some (.int (nI 11)), some (.int (nI n)), none, none] [] (σ) P
  refine er_iload_n d_Ma_actOnStack_0 rfl ?_
  refine er_tableIn (off := 252) 253 d_Ma_actOnStack_1 (by decide +kernel) (by decide +kernel) (by decide +kernel) (by decide) ?_
  refine er_aload_n d_Ma_actOnStack_253 rfl ?_
  refine er_iload_n d_Ma_actOnStack_254 rfl ?_
  refine er_iload_n d_Ma_actOnStack_255 rfl ?_
  refine er_callVE (As := [.int (nI 11), .int (nI n)]) d_Ma_actOnStack_256 k_Ma_actOnStack_161 hX rfl rfl rfl (Nat.le_of_ble_eq_true rfl) (by decide) (by decide) (ma_obj_11o hl hk hwx hmt hok ht hh hb hp hn h40 hft hf18 (fun σ hk => ⟨_, rfl, ?_⟩))
  show jl_E l G m_Ma_actOnStack (0, 0) 259 [some (.ref 13), some (.int (nI 11)), some (.int (nI n)), none, none] [.int (nI 0)] (σ) P
  exact er_iret d_Ma_actOnStack_259 rfl (hT _ hk) (by decide) (by decide)
theorem d_Ma_getField_0 : decode m_Ma_getField.2.1 0 = .ok (.aload_n 0, 1) := by decide +kernel
theorem k_Ma_getField_121 : jl_cv m_Ma_getField m_Ma_take 121 0 = true := by decide +kernel
theorem d_Ma_getField_1 : decode m_Ma_getField.2.1 1 = .ok (.invokevirtual 121, 3) := by decide +kernel
theorem d_Ma_getField_4 : decode m_Ma_getField.2.1 4 = .ok (.istore_n 2, 1) := by decide +kernel
theorem d_Ma_getField_5 : decode m_Ma_getField.2.1 5 = .ok (.aload_n 0, 1) := by decide +kernel
theorem f_Ma_getField_28 : jl_fd m_Ma_getField 28 1 5 = true := by decide +kernel
theorem d_Ma_getField_6 : decode m_Ma_getField.2.1 6 = .ok (.getfield 28, 3) := by decide +kernel
theorem d_Ma_getField_9 : decode m_Ma_getField.2.1 9 = .ok (.iload_n 2, 1) := by decide +kernel
theorem d_Ma_getField_10 : decode m_Ma_getField.2.1 10 = .ok (.iaload, 1) := by decide +kernel
theorem d_Ma_getField_11 : decode m_Ma_getField.2.1 11 = .ok (.iconst 2, 1) := by decide +kernel
theorem d_Ma_getField_12 : decode m_Ma_getField.2.1 12 = .ok (.if_icmp .ne 5, 3) := by decide +kernel
theorem d_Ma_getField_15 : decode m_Ma_getField.2.1 15 = .ok (.iconst 2, 1) := by decide +kernel
theorem d_Ma_getField_16 : decode m_Ma_getField.2.1 16 = .ok (.ireturn, 1) := by decide +kernel
theorem ma_get_12n (hl : l.stackTraces = false) {P : jl_O → jl_S → Prop} {f : Nat} (hk : KB σ0 mt σ (7 + (b + 1)) t m p (R) (V) (fs) (H) su dt dq aw) (ht : t < 12) (hh : R 6 = some (b + 1)) (hb : b + 1 ≤ 5) (hy : R (7 + b) = some 2) (hT : ∀ σ', KB σ0 mt σ' (6) t m p (R) (V) (fs) (H) su dt dq aw → P (.inl (some (.int (nI 2)))) σ') : jl_mE l G m_Ma_getField [.ref 13, .int (nI f)] σ P := by
  obtain ⟨uw, ps, ty, va, hX, u1, u2, t1, t2, hS, hx, hto, hF⟩ := id hk
  obtain ⟨s0, s1, s2, s3⟩ := id hS
  obtain ⟨⟨⟨a, hma, hua⟩, hps, hty, hva⟩, hfs, hln, hob⟩ := id hx
  have hma : mt m = some a := hma
  have hps : ps t = p := hps
  have hty : ∀ j, j < _ → ty (t * 12 + j) = R j := hty
  have hva : ∀ j, j < _ → j ≠ 6 → va (t * 12 + j) = V j := hva
  have hRo := hx.rob
  have hh6 : ty (t * 12 + 6) = some (b + 1) := (hty 6 (by omega)).trans hh
  have hT0 : ty (t * 12 + 7 + b) = R (7 + b) := by rw [show t * 12 + 7 + b = t * 12 + (7 + b) by omega]; exact hty _ (by omega)
  have hV0 : va (t * 12 + 7 + b) = V (7 + b) := by rw [show t * 12 + 7 + b = t * 12 + (7 + b) by omega]; exact hva _ (by omega) (by omega)
  refine jl_ofE (as := [.ref 13, .int (nI f)]) rfl (by decide) hl (jl_cc rfl (jl_cc rfl jl_ca)) (Nat.le_of_ble_eq_true rfl) ?_
  show jl_E l G m_Ma_getField (0, 0) 0 [some (.ref 13), some (.int (nI f)), none, none] [] (σ) P
  refine er_aload_n d_Ma_getField_0 rfl ?_
  refine er_callV (As := []) d_Ma_getField_1 k_Ma_getField_121 hX rfl rfl rfl (Nat.le_of_ble_eq_true rfl) (by decide) (by decide) (ma_takeA (h := b) hl hX t1 t2 ht hh6 (by omega)) ?_
  show jl_E l G m_Ma_getField (0, 0) 4 [some (.ref 13), some (.int (nI f)), none, none] [.int (nI (t * 12 + 7 + b))] (σ.set (20) (.inl (0, 144, .inl (fun j => en ((va_up ty (t * 12 + 6) (some (b))) j))))) P
  refine er_istore_n d_Ma_getField_4 (by decide) ?_
  show jl_E l G m_Ma_getField (0, 0) 5 [some (.ref 13), some (.int (nI f)), some (.int (nI (t * 12 + 7 + b))), none] [] (σ.set (20) (.inl (0, 144, .inl (fun j => en ((va_up ty (t * 12 + 6) (some (b))) j))))) P
  refine er_aload_n d_Ma_getField_5 rfl ?_
  refine er_getf d_Ma_getField_6 f_Ma_getField_28 (jl_sn (by decide) hX) rfl ?_
  refine er_iload_n d_Ma_getField_9 rfl ?_
  refine er_ialdQ (v := (nI (2))) d_Ma_getField_10 (jl_ss t1) (by omega) (by omega) ((congrArg en ((va_up_ne _ _ (by omega)).trans (hT0))).trans (congrArg en hy)) ?_
  refine er_iconst ((nI (2))) d_Ma_getField_11 (by decide) ?_
  refine er_icmp_ne 17 d_Ma_getField_12 (by decide) (fun z => absurd rfl z) (fun _ => ?_)
  refine er_iconst ((nI (2))) d_Ma_getField_15 (by decide) ?_
  exact er_iret d_Ma_getField_16 rfl (hT _ ⟨_, _, _, _, (jl_sn (by decide) hX), (jl_sn (by decide) u1), (jl_sn (by decide) u2), (jl_ss t1), (jl_sn (by decide) t2), ⟨(jl_sn (by decide) s0), (jl_sn (by decide) s1), (jl_sn (by decide) s2), (jl_sn (by decide) s3)⟩, (((hx).six (y := some (b)) (ob_s (by omega)))).lo (by omega) (fun j hj => ⟨by simp only [va_up, psh, if_neg (show ¬ j = 6 by omega), if_neg (show ¬ j = 7 + b by omega)], by simp only [va_up, psh, if_neg (show ¬ j = 6 by omega), if_neg (show ¬ j = 7 + b by omega)]⟩), hto, (hF.set (by omega))⟩) (by decide) (by decide)
theorem d_Ma_getField_17 : decode m_Ma_getField.2.1 17 = .ok (.aload_n 0, 1) := by decide +kernel
theorem f_Ma_getField_12 : jl_fd m_Ma_getField 12 1 2 = true := by decide +kernel
theorem d_Ma_getField_18 : decode m_Ma_getField.2.1 18 = .ok (.getfield 12, 3) := by decide +kernel
theorem d_Ma_getField_21 : decode m_Ma_getField.2.1 21 = .ok (.aload_n 0, 1) := by decide +kernel
theorem f_Ma_getField_31 : jl_fd m_Ma_getField 31 1 6 = true := by decide +kernel
theorem d_Ma_getField_22 : decode m_Ma_getField.2.1 22 = .ok (.getfield 31, 3) := by decide +kernel
theorem d_Ma_getField_25 : decode m_Ma_getField.2.1 25 = .ok (.iload_n 2, 1) := by decide +kernel
theorem d_Ma_getField_26 : decode m_Ma_getField.2.1 26 = .ok (.iaload, 1) := by decide +kernel
theorem d_Ma_getField_27 : decode m_Ma_getField.2.1 27 = .ok (.iload_n 1, 1) := by decide +kernel
theorem k_Ma_getField_174 : jl_cv m_Ma_getField m_St_cell 174 2 = true := by decide +kernel
theorem d_Ma_getField_28 : decode m_Ma_getField.2.1 28 = .ok (.invokevirtual 174, 3) := by decide +kernel
theorem d_Ma_getField_31 : decode m_Ma_getField.2.1 31 = .ok (.istore_n 3, 1) := by decide +kernel
theorem d_Ma_getField_32 : decode m_Ma_getField.2.1 32 = .ok (.aload_n 0, 1) := by decide +kernel
theorem d_Ma_getField_33 : decode m_Ma_getField.2.1 33 = .ok (.aload_n 0, 1) := by decide +kernel
theorem d_Ma_getField_34 : decode m_Ma_getField.2.1 34 = .ok (.getfield 12, 3) := by decide +kernel
theorem f_Ma_getField_193 : jl_fd m_Ma_getField 193 3 1 = true := by decide +kernel
theorem d_Ma_getField_37 : decode m_Ma_getField.2.1 37 = .ok (.getfield 193, 3) := by decide +kernel
theorem d_Ma_getField_40 : decode m_Ma_getField.2.1 40 = .ok (.iload_n 3, 1) := by decide +kernel
theorem d_Ma_getField_41 : decode m_Ma_getField.2.1 41 = .ok (.iaload, 1) := by decide +kernel
theorem d_Ma_getField_42 : decode m_Ma_getField.2.1 42 = .ok (.aload_n 0, 1) := by decide +kernel
theorem d_Ma_getField_43 : decode m_Ma_getField.2.1 43 = .ok (.getfield 12, 3) := by decide +kernel
theorem f_Ma_getField_173 : jl_fd m_Ma_getField 173 3 2 = true := by decide +kernel
theorem d_Ma_getField_46 : decode m_Ma_getField.2.1 46 = .ok (.getfield 173, 3) := by decide +kernel
theorem d_Ma_getField_49 : decode m_Ma_getField.2.1 49 = .ok (.iload_n 3, 1) := by decide +kernel
theorem d_Ma_getField_50 : decode m_Ma_getField.2.1 50 = .ok (.iaload, 1) := by decide +kernel
theorem k_Ma_getField_133 : jl_cv m_Ma_getField m_Ma_put 133 2 = true := by decide +kernel
theorem d_Ma_getField_51 : decode m_Ma_getField.2.1 51 = .ok (.invokevirtual 133, 3) := by decide +kernel
theorem d_Ma_getField_54 : decode m_Ma_getField.2.1 54 = .ok (.iconst 0, 1) := by decide +kernel
theorem d_Ma_getField_55 : decode m_Ma_getField.2.1 55 = .ok (.ireturn, 1) := by decide +kernel
theorem ma_get_12o (hl : l.stackTraces = false) {P : jl_O → jl_S → Prop} {f q k : Nat} (hk : KB σ0 mt σ (7 + (b + 1)) t m p (R) (V) (fs) (H) su dt dq aw) (ht : t < 12) (hh : R 6 = some (b + 1)) (hb : b + 1 ≤ 5) (hk6 : k < 6) (hy : R (7 + b) = some (10 + k)) (hv : V (7 + b) = nI q) (hq : q < 40) (hf : f < 18) (hT : ∀ σ', KB σ0 mt σ' (8 + b) t m p (psh R b (H.ty (q * 18 + f))) (va_up V (7 + b) (H.va (q * 18 + f))) (fs) (H) su dt dq aw → P (.inl (some (.int (nI 0)))) σ') : jl_mE l G m_Ma_getField [.ref 13, .int (nI f)] σ P := by
  obtain ⟨uw, ps, ty, va, hX, u1, u2, t1, t2, hS, hx, hto, hF⟩ := id hk
  obtain ⟨s0, s1, s2, s3⟩ := id hS
  obtain ⟨⟨⟨a, hma, hua⟩, hps, hty, hva⟩, hfs, hln, hob⟩ := id hx
  have hma : mt m = some a := hma
  have hps : ps t = p := hps
  have hty : ∀ j, j < _ → ty (t * 12 + j) = R j := hty
  have hva : ∀ j, j < _ → j ≠ 6 → va (t * 12 + j) = V j := hva
  have hRo := hx.rob
  have hh6 : ty (t * 12 + 6) = some (b + 1) := (hty 6 (by omega)).trans hh
  have hT0 : ty (t * 12 + 7 + b) = R (7 + b) := by rw [show t * 12 + 7 + b = t * 12 + (7 + b) by omega]; exact hty _ (by omega)
  have hV0 : va (t * 12 + 7 + b) = V (7 + b) := by rw [show t * 12 + 7 + b = t * 12 + (7 + b) by omega]; exact hva _ (by omega) (by omega)
  refine jl_ofE (as := [.ref 13, .int (nI f)]) rfl (by decide) hl (jl_cc rfl (jl_cc rfl jl_ca)) (Nat.le_of_ble_eq_true rfl) ?_
  show jl_E l G m_Ma_getField (0, 0) 0 [some (.ref 13), some (.int (nI f)), none, none] [] (σ) P
  refine er_aload_n d_Ma_getField_0 rfl ?_
  refine er_callV (As := []) d_Ma_getField_1 k_Ma_getField_121 hX rfl rfl rfl (Nat.le_of_ble_eq_true rfl) (by decide) (by decide) (ma_takeA (h := b) hl hX t1 t2 ht hh6 (by omega)) ?_
  show jl_E l G m_Ma_getField (0, 0) 4 [some (.ref 13), some (.int (nI f)), none, none] [.int (nI (t * 12 + 7 + b))] (σ.set (20) (.inl (0, 144, .inl (fun j => en ((va_up ty (t * 12 + 6) (some (b))) j))))) P
  refine er_istore_n d_Ma_getField_4 (by decide) ?_
  show jl_E l G m_Ma_getField (0, 0) 5 [some (.ref 13), some (.int (nI f)), some (.int (nI (t * 12 + 7 + b))), none] [] (σ.set (20) (.inl (0, 144, .inl (fun j => en ((va_up ty (t * 12 + 6) (some (b))) j))))) P
  refine er_aload_n d_Ma_getField_5 rfl ?_
  refine er_getf d_Ma_getField_6 f_Ma_getField_28 (jl_sn (by decide) hX) rfl ?_
  refine er_iload_n d_Ma_getField_9 rfl ?_
  refine er_ialdQ (v := (nI (10 + k))) d_Ma_getField_10 (jl_ss t1) (by omega) (by omega) ((congrArg en ((va_up_ne _ _ (by omega)).trans (hT0))).trans (congrArg en hy)) ?_
  refine er_iconst ((nI (2))) d_Ma_getField_11 (by decide) ?_
  refine er_icmp_ne 17 d_Ma_getField_12 (by decide) (fun _ => ?_) (fun z => absurd z (ne10 hk6 (by decide)))
  refine er_aload_n d_Ma_getField_17 rfl ?_
  refine er_getf d_Ma_getField_18 f_Ma_getField_12 (jl_sn (by decide) hX) rfl ?_
  refine er_aload_n d_Ma_getField_21 rfl ?_
  refine er_getf d_Ma_getField_22 f_Ma_getField_31 (jl_sn (by decide) hX) rfl ?_
  refine er_iload_n d_Ma_getField_25 rfl ?_
  refine er_ialdQ (v := (nI (q))) d_Ma_getField_26 (jl_sn (by decide) t2) (by omega) (by omega) ((hV0).trans hv) ?_
  refine er_iload_n d_Ma_getField_27 rfl ?_
  refine er_callV (As := [.int (nI q), .int (nI f)]) d_Ma_getField_28 k_Ma_getField_174 (jl_sn (by decide) s0) rfl rfl rfl (Nat.le_of_ble_eq_true rfl) (by decide) (by decide) (st_cellS hl ⟨(jl_sn (by decide) s0), (jl_sn (by decide) s1), (jl_sn (by decide) s2), (jl_sn (by decide) s3)⟩) ?_
  show jl_E l G m_Ma_getField (0, 0) 31 [some (.ref 13), some (.int (nI f)), some (.int (nI (t * 12 + 7 + b))), none] [.int (nI (q * 18 + f))] (σ.set (20) (.inl (0, 144, .inl (fun j => en ((va_up ty (t * 12 + 6) (some (b))) j))))) P
  refine er_istore_n d_Ma_getField_31 (by decide) ?_
  show jl_E l G m_Ma_getField (0, 0) 32 [some (.ref 13), some (.int (nI f)), some (.int (nI (t * 12 + 7 + b))), some (.int (nI (q * 18 + f)))] [] (σ.set (20) (.inl (0, 144, .inl (fun j => en ((va_up ty (t * 12 + 6) (some (b))) j))))) P
  refine er_aload_n d_Ma_getField_32 rfl ?_
  refine er_aload_n d_Ma_getField_33 rfl ?_
  refine er_getf d_Ma_getField_34 f_Ma_getField_12 (jl_sn (by decide) hX) rfl ?_
  refine er_getf d_Ma_getField_37 f_Ma_getField_193 (jl_sn (by decide) s0) rfl ?_
  refine er_iload_n d_Ma_getField_40 rfl ?_
  refine er_ialdN d_Ma_getField_41 (jl_sn (by decide) s2) (by omega) (by omega) ?_
  refine er_aload_n d_Ma_getField_42 rfl ?_
  refine er_getf d_Ma_getField_43 f_Ma_getField_12 (jl_sn (by decide) hX) rfl ?_
  refine er_getf d_Ma_getField_46 f_Ma_getField_173 (jl_sn (by decide) s0) rfl ?_
  refine er_iload_n d_Ma_getField_49 rfl ?_
  refine er_ialdN d_Ma_getField_50 (jl_sn (by decide) s3) (by omega) (by omega) ?_
  refine er_callV (As := [.int (en (H.ty (q * 18 + f))), .int (H.va (q * 18 + f))]) d_Ma_getField_51 k_Ma_getField_133 (jl_sn (by decide) hX) rfl rfl rfl (Nat.le_of_ble_eq_true rfl) (by decide) (by decide) (ma_put (h := b) (y := (H.ty (q * 18 + f))) (v := (H.va (q * 18 + f))) hl (jl_sn (by decide) hX) (jl_ss t1) (jl_sn (by decide) t2) ht (va_up_self _ _ _) (by omega)) ?_
  show jl_E l G m_Ma_getField (0, 0) 54 [some (.ref 13), some (.int (nI f)), some (.int (nI (t * 12 + 7 + b))), some (.int (nI (q * 18 + f)))] [] ((((σ.set (20) (.inl (0, 144, .inl (fun j => en ((va_up ty (t * 12 + 6) (some (b))) j))))).set (20) (.inl (0, 144, .inl (fun j => en ((va_up (va_up ty (t * 12 + 6) (some (b))) (t * 12 + 7 + b) (H.ty (q * 18 + f))) j))))).set (21) (.inl (0, 144, .inl (upd va (t * 12 + 7 + b) (H.va (q * 18 + f)))))).set (20) (.inl (0, 144, .inl (fun j => en ((va_up (va_up (va_up ty (t * 12 + 6) (some (b))) (t * 12 + 7 + b) (H.ty (q * 18 + f))) (t * 12 + 6) (some (b + 1))) j))))) P
  refine er_iconst ((nI (0))) d_Ma_getField_54 (by decide) ?_
  exact er_iret d_Ma_getField_55 rfl (hT _ ⟨_, _, _, _, (jl_sn (by decide) (jl_sn (by decide) (jl_sn (by decide) (jl_sn (by decide) hX)))), (jl_sn (by decide) (jl_sn (by decide) (jl_sn (by decide) (jl_sn (by decide) u1)))), (jl_sn (by decide) (jl_sn (by decide) (jl_sn (by decide) (jl_sn (by decide) u2)))), (jl_ss (jl_sn (by decide) (jl_ss (jl_ss t1)))), (jl_sn (by decide) (jl_ss (jl_sn (by decide) (jl_sn (by decide) t2)))), ⟨(jl_sn (by decide) (jl_sn (by decide) (jl_sn (by decide) (jl_sn (by decide) s0)))), (jl_sn (by decide) (jl_sn (by decide) (jl_sn (by decide) (jl_sn (by decide) s1)))), (jl_sn (by decide) (jl_sn (by decide) (jl_sn (by decide) (jl_sn (by decide) s2)))), (jl_sn (by decide) (jl_sn (by decide) (jl_sn (by decide) (jl_sn (by decide) s3))))⟩, ((((((hx).six (y := some (b)) (ob_s (by omega)))).put (i := b) (y := (H.ty (q * 18 + f))) (v := (H.va (q * 18 + f))) (by omega) (by omega) (hto _))).cc (by first | rfl | simp only [psh_six, six_six]) (by first | rfl | simp only [psh_six, six_six])), hto, ((((hF.set (by omega)).set (by omega)).set (by omega)).set (by omega))⟩) (by decide) (by decide)
theorem d_Ma_setField_0 : decode m_Ma_setField.2.1 0 = .ok (.aload_n 0, 1) := by decide +kernel
theorem k_Ma_setField_121 : jl_cv m_Ma_setField m_Ma_take 121 0 = true := by decide +kernel
theorem d_Ma_setField_1 : decode m_Ma_setField.2.1 1 = .ok (.invokevirtual 121, 3) := by decide +kernel
theorem d_Ma_setField_4 : decode m_Ma_setField.2.1 4 = .ok (.istore_n 2, 1) := by decide +kernel
theorem d_Ma_setField_5 : decode m_Ma_setField.2.1 5 = .ok (.aload_n 0, 1) := by decide +kernel
theorem d_Ma_setField_6 : decode m_Ma_setField.2.1 6 = .ok (.invokevirtual 121, 3) := by decide +kernel
theorem d_Ma_setField_9 : decode m_Ma_setField.2.1 9 = .ok (.istore_n 3, 1) := by decide +kernel
theorem d_Ma_setField_10 : decode m_Ma_setField.2.1 10 = .ok (.aload_n 0, 1) := by decide +kernel
theorem f_Ma_setField_28 : jl_fd m_Ma_setField 28 1 5 = true := by decide +kernel
theorem d_Ma_setField_11 : decode m_Ma_setField.2.1 11 = .ok (.getfield 28, 3) := by decide +kernel
theorem d_Ma_setField_14 : decode m_Ma_setField.2.1 14 = .ok (.iload_n 3, 1) := by decide +kernel
theorem d_Ma_setField_15 : decode m_Ma_setField.2.1 15 = .ok (.iaload, 1) := by decide +kernel
theorem d_Ma_setField_16 : decode m_Ma_setField.2.1 16 = .ok (.iconst 2, 1) := by decide +kernel
theorem d_Ma_setField_17 : decode m_Ma_setField.2.1 17 = .ok (.if_icmp .ne 5, 3) := by decide +kernel
theorem d_Ma_setField_20 : decode m_Ma_setField.2.1 20 = .ok (.iconst 2, 1) := by decide +kernel
theorem d_Ma_setField_21 : decode m_Ma_setField.2.1 21 = .ok (.ireturn, 1) := by decide +kernel
theorem ma_sfd_13n (hl : l.stackTraces = false) {P : jl_O → jl_S → Prop} {f : Nat} (hk : KB σ0 mt σ (7 + (b + 2)) t m p (R) (V) (fs) (H) su dt dq aw) (ht : t < 12) (hh : R 6 = some (b + 2)) (hb : b + 2 ≤ 5) (hy : R (7 + b) = some 2) (hT : ∀ σ', KB σ0 mt σ' (6) t m p (R) (V) (fs) (H) su dt dq aw → P (.inl (some (.int (nI 2)))) σ') : jl_mE l G m_Ma_setField [.ref 13, .int (nI f)] σ P := by
  obtain ⟨uw, ps, ty, va, hX, u1, u2, t1, t2, hS, hx, hto, hF⟩ := id hk
  obtain ⟨s0, s1, s2, s3⟩ := id hS
  obtain ⟨⟨⟨a, hma, hua⟩, hps, hty, hva⟩, hfs, hln, hob⟩ := id hx
  have hma : mt m = some a := hma
  have hps : ps t = p := hps
  have hty : ∀ j, j < _ → ty (t * 12 + j) = R j := hty
  have hva : ∀ j, j < _ → j ≠ 6 → va (t * 12 + j) = V j := hva
  have hRo := hx.rob
  have hh6 : ty (t * 12 + 6) = some (b + 2) := (hty 6 (by omega)).trans hh
  have hT0 : ty (t * 12 + 7 + b) = R (7 + b) := by rw [show t * 12 + 7 + b = t * 12 + (7 + b) by omega]; exact hty _ (by omega)
  have hV0 : va (t * 12 + 7 + b) = V (7 + b) := by rw [show t * 12 + 7 + b = t * 12 + (7 + b) by omega]; exact hva _ (by omega) (by omega)
  have hT1 : ty (t * 12 + 7 + (b + 1)) = R (8 + b) := by rw [show t * 12 + 7 + (b + 1) = t * 12 + (8 + b) by omega]; exact hty _ (by omega)
  have hV1 : va (t * 12 + 7 + (b + 1)) = V (8 + b) := by rw [show t * 12 + 7 + (b + 1) = t * 12 + (8 + b) by omega]; exact hva _ (by omega) (by omega)
  refine jl_ofE (as := [.ref 13, .int (nI f)]) rfl (by decide) hl (jl_cc rfl (jl_cc rfl jl_ca)) (Nat.le_of_ble_eq_true rfl) ?_
  show jl_E l G m_Ma_setField (0, 0) 0 [some (.ref 13), some (.int (nI f)), none, none, none] [] (σ) P
  refine er_aload_n d_Ma_setField_0 rfl ?_
  refine er_callV (As := []) d_Ma_setField_1 k_Ma_setField_121 hX rfl rfl rfl (Nat.le_of_ble_eq_true rfl) (by decide) (by decide) (ma_takeA (h := b + 1) hl hX t1 t2 ht hh6 (by omega)) ?_
  show jl_E l G m_Ma_setField (0, 0) 4 [some (.ref 13), some (.int (nI f)), none, none, none] [.int (nI (t * 12 + 7 + (b + 1)))] (σ.set (20) (.inl (0, 144, .inl (fun j => en ((va_up ty (t * 12 + 6) (some (b + 1))) j))))) P
  refine er_istore_n d_Ma_setField_4 (by decide) ?_
  show jl_E l G m_Ma_setField (0, 0) 5 [some (.ref 13), some (.int (nI f)), some (.int (nI (t * 12 + 7 + (b + 1)))), none, none] [] (σ.set (20) (.inl (0, 144, .inl (fun j => en ((va_up ty (t * 12 + 6) (some (b + 1))) j))))) P
  refine er_aload_n d_Ma_setField_5 rfl ?_
  refine er_callV (As := []) d_Ma_setField_6 k_Ma_setField_121 (jl_sn (by decide) hX) rfl rfl rfl (Nat.le_of_ble_eq_true rfl) (by decide) (by decide) (ma_takeA (h := b) hl (jl_sn (by decide) hX) (jl_ss t1) (jl_sn (by decide) t2) ht (va_up_self _ _ _) (by omega)) ?_
  show jl_E l G m_Ma_setField (0, 0) 9 [some (.ref 13), some (.int (nI f)), some (.int (nI (t * 12 + 7 + (b + 1)))), none, none] [.int (nI (t * 12 + 7 + b))] ((σ.set (20) (.inl (0, 144, .inl (fun j => en ((va_up ty (t * 12 + 6) (some (b + 1))) j))))).set (20) (.inl (0, 144, .inl (fun j => en ((va_up (va_up ty (t * 12 + 6) (some (b + 1))) (t * 12 + 6) (some (b))) j))))) P
  refine er_istore_n d_Ma_setField_9 (by decide) ?_
  show jl_E l G m_Ma_setField (0, 0) 10 [some (.ref 13), some (.int (nI f)), some (.int (nI (t * 12 + 7 + (b + 1)))), some (.int (nI (t * 12 + 7 + b))), none] [] ((σ.set (20) (.inl (0, 144, .inl (fun j => en ((va_up ty (t * 12 + 6) (some (b + 1))) j))))).set (20) (.inl (0, 144, .inl (fun j => en ((va_up (va_up ty (t * 12 + 6) (some (b + 1))) (t * 12 + 6) (some (b))) j))))) P
  refine er_aload_n d_Ma_setField_10 rfl ?_
  refine er_getf d_Ma_setField_11 f_Ma_setField_28 (jl_sn (by decide) (jl_sn (by decide) hX)) rfl ?_
  refine er_iload_n d_Ma_setField_14 rfl ?_
  refine er_ialdQ (v := (nI (2))) d_Ma_setField_15 (jl_ss (jl_ss t1)) (by omega) (by omega) ((congrArg en ((va_up_ne _ _ (by omega)).trans ((va_up_ne _ _ (by omega)).trans (hT0)))).trans (congrArg en hy)) ?_
  refine er_iconst ((nI (2))) d_Ma_setField_16 (by decide) ?_
  refine er_icmp_ne 22 d_Ma_setField_17 (by decide) (fun z => absurd rfl z) (fun _ => ?_)
  refine er_iconst ((nI (2))) d_Ma_setField_20 (by decide) ?_
  exact er_iret d_Ma_setField_21 rfl (hT _ ⟨_, _, _, _, (jl_sn (by decide) (jl_sn (by decide) hX)), (jl_sn (by decide) (jl_sn (by decide) u1)), (jl_sn (by decide) (jl_sn (by decide) u2)), (jl_ss (jl_ss t1)), (jl_sn (by decide) (jl_sn (by decide) t2)), ⟨(jl_sn (by decide) (jl_sn (by decide) s0)), (jl_sn (by decide) (jl_sn (by decide) s1)), (jl_sn (by decide) (jl_sn (by decide) s2)), (jl_sn (by decide) (jl_sn (by decide) s3))⟩, (((((hx).six (y := some (b + 1)) (ob_s (by omega)))).six (y := some (b)) (ob_s (by omega)))).lo (by omega) (fun j hj => ⟨by simp only [va_up, psh, if_neg (show ¬ j = 6 by omega), if_neg (show ¬ j = 7 + b by omega)], by simp only [va_up, psh, if_neg (show ¬ j = 6 by omega), if_neg (show ¬ j = 7 + b by omega)]⟩), hto, ((hF.set (by omega)).set (by omega))⟩) (by decide) (by decide)
theorem d_Ma_setField_22 : decode m_Ma_setField.2.1 22 = .ok (.aload_n 0, 1) := by decide +kernel
theorem f_Ma_setField_12 : jl_fd m_Ma_setField 12 1 2 = true := by decide +kernel
theorem d_Ma_setField_23 : decode m_Ma_setField.2.1 23 = .ok (.getfield 12, 3) := by decide +kernel
theorem d_Ma_setField_26 : decode m_Ma_setField.2.1 26 = .ok (.aload_n 0, 1) := by decide +kernel
theorem f_Ma_setField_31 : jl_fd m_Ma_setField 31 1 6 = true := by decide +kernel
theorem d_Ma_setField_27 : decode m_Ma_setField.2.1 27 = .ok (.getfield 31, 3) := by decide +kernel
theorem d_Ma_setField_30 : decode m_Ma_setField.2.1 30 = .ok (.iload_n 3, 1) := by decide +kernel
theorem d_Ma_setField_31 : decode m_Ma_setField.2.1 31 = .ok (.iaload, 1) := by decide +kernel
theorem d_Ma_setField_32 : decode m_Ma_setField.2.1 32 = .ok (.iload_n 1, 1) := by decide +kernel
theorem k_Ma_setField_174 : jl_cv m_Ma_setField m_St_cell 174 2 = true := by decide +kernel
theorem d_Ma_setField_33 : decode m_Ma_setField.2.1 33 = .ok (.invokevirtual 174, 3) := by decide +kernel
theorem d_Ma_setField_36 : decode m_Ma_setField.2.1 36 = .ok (.istore 4, 2) := by decide +kernel
theorem d_Ma_setField_38 : decode m_Ma_setField.2.1 38 = .ok (.aload_n 0, 1) := by decide +kernel
theorem d_Ma_setField_39 : decode m_Ma_setField.2.1 39 = .ok (.getfield 12, 3) := by decide +kernel
theorem f_Ma_setField_193 : jl_fd m_Ma_setField 193 3 1 = true := by decide +kernel
theorem d_Ma_setField_42 : decode m_Ma_setField.2.1 42 = .ok (.getfield 193, 3) := by decide +kernel
theorem d_Ma_setField_45 : decode m_Ma_setField.2.1 45 = .ok (.iload 4, 2) := by decide +kernel
theorem d_Ma_setField_47 : decode m_Ma_setField.2.1 47 = .ok (.aload_n 0, 1) := by decide +kernel
theorem d_Ma_setField_48 : decode m_Ma_setField.2.1 48 = .ok (.getfield 28, 3) := by decide +kernel
theorem d_Ma_setField_51 : decode m_Ma_setField.2.1 51 = .ok (.iload_n 2, 1) := by decide +kernel
theorem d_Ma_setField_52 : decode m_Ma_setField.2.1 52 = .ok (.iaload, 1) := by decide +kernel
theorem d_Ma_setField_53 : decode m_Ma_setField.2.1 53 = .ok (.iastore, 1) := by decide +kernel
theorem d_Ma_setField_54 : decode m_Ma_setField.2.1 54 = .ok (.aload_n 0, 1) := by decide +kernel
theorem d_Ma_setField_55 : decode m_Ma_setField.2.1 55 = .ok (.getfield 12, 3) := by decide +kernel
theorem f_Ma_setField_173 : jl_fd m_Ma_setField 173 3 2 = true := by decide +kernel
theorem d_Ma_setField_58 : decode m_Ma_setField.2.1 58 = .ok (.getfield 173, 3) := by decide +kernel
theorem d_Ma_setField_61 : decode m_Ma_setField.2.1 61 = .ok (.iload 4, 2) := by decide +kernel
theorem d_Ma_setField_63 : decode m_Ma_setField.2.1 63 = .ok (.aload_n 0, 1) := by decide +kernel
theorem d_Ma_setField_64 : decode m_Ma_setField.2.1 64 = .ok (.getfield 31, 3) := by decide +kernel
theorem d_Ma_setField_67 : decode m_Ma_setField.2.1 67 = .ok (.iload_n 2, 1) := by decide +kernel
theorem d_Ma_setField_68 : decode m_Ma_setField.2.1 68 = .ok (.iaload, 1) := by decide +kernel
theorem d_Ma_setField_69 : decode m_Ma_setField.2.1 69 = .ok (.iastore, 1) := by decide +kernel
theorem d_Ma_setField_70 : decode m_Ma_setField.2.1 70 = .ok (.iconst 0, 1) := by decide +kernel
theorem d_Ma_setField_71 : decode m_Ma_setField.2.1 71 = .ok (.ireturn, 1) := by decide +kernel
theorem ma_sfd_13o (hl : l.stackTraces = false) {P : jl_O → jl_S → Prop} {f q k : Nat} (hk : KB σ0 mt σ (7 + (b + 2)) t m p (R) (V) (fs) (H) su dt dq aw) (ht : t < 12) (hh : R 6 = some (b + 2)) (hb : b + 2 ≤ 5) (hk6 : k < 6) (hy : R (7 + b) = some (10 + k)) (hv : V (7 + b) = nI q) (hq : q < 40) (hf : f < 18) (hT : ∀ σ', KB σ0 mt σ' (7 + b) t m p (va_up R 6 (some b)) (V) (fs) (⟨H.n, H.sz, va_up H.ty (q * 18 + f) (R (8 + b)), va_up H.va (q * 18 + f) (V (8 + b)), H.so⟩) su dt dq aw → P (.inl (some (.int (nI 0)))) σ') : jl_mE l G m_Ma_setField [.ref 13, .int (nI f)] σ P := by
  obtain ⟨uw, ps, ty, va, hX, u1, u2, t1, t2, hS, hx, hto, hF⟩ := id hk
  obtain ⟨s0, s1, s2, s3⟩ := id hS
  obtain ⟨⟨⟨a, hma, hua⟩, hps, hty, hva⟩, hfs, hln, hob⟩ := id hx
  have hma : mt m = some a := hma
  have hps : ps t = p := hps
  have hty : ∀ j, j < _ → ty (t * 12 + j) = R j := hty
  have hva : ∀ j, j < _ → j ≠ 6 → va (t * 12 + j) = V j := hva
  have hRo := hx.rob
  have hh6 : ty (t * 12 + 6) = some (b + 2) := (hty 6 (by omega)).trans hh
  have hT0 : ty (t * 12 + 7 + b) = R (7 + b) := by rw [show t * 12 + 7 + b = t * 12 + (7 + b) by omega]; exact hty _ (by omega)
  have hV0 : va (t * 12 + 7 + b) = V (7 + b) := by rw [show t * 12 + 7 + b = t * 12 + (7 + b) by omega]; exact hva _ (by omega) (by omega)
  have hT1 : ty (t * 12 + 7 + (b + 1)) = R (8 + b) := by rw [show t * 12 + 7 + (b + 1) = t * 12 + (8 + b) by omega]; exact hty _ (by omega)
  have hV1 : va (t * 12 + 7 + (b + 1)) = V (8 + b) := by rw [show t * 12 + 7 + (b + 1) = t * 12 + (8 + b) by omega]; exact hva _ (by omega) (by omega)
  refine jl_ofE (as := [.ref 13, .int (nI f)]) rfl (by decide) hl (jl_cc rfl (jl_cc rfl jl_ca)) (Nat.le_of_ble_eq_true rfl) ?_
  show jl_E l G m_Ma_setField (0, 0) 0 [some (.ref 13), some (.int (nI f)), none, none, none] [] (σ) P
  refine er_aload_n d_Ma_setField_0 rfl ?_
  refine er_callV (As := []) d_Ma_setField_1 k_Ma_setField_121 hX rfl rfl rfl (Nat.le_of_ble_eq_true rfl) (by decide) (by decide) (ma_takeA (h := b + 1) hl hX t1 t2 ht hh6 (by omega)) ?_
  show jl_E l G m_Ma_setField (0, 0) 4 [some (.ref 13), some (.int (nI f)), none, none, none] [.int (nI (t * 12 + 7 + (b + 1)))] (σ.set (20) (.inl (0, 144, .inl (fun j => en ((va_up ty (t * 12 + 6) (some (b + 1))) j))))) P
  refine er_istore_n d_Ma_setField_4 (by decide) ?_
  show jl_E l G m_Ma_setField (0, 0) 5 [some (.ref 13), some (.int (nI f)), some (.int (nI (t * 12 + 7 + (b + 1)))), none, none] [] (σ.set (20) (.inl (0, 144, .inl (fun j => en ((va_up ty (t * 12 + 6) (some (b + 1))) j))))) P
  refine er_aload_n d_Ma_setField_5 rfl ?_
  refine er_callV (As := []) d_Ma_setField_6 k_Ma_setField_121 (jl_sn (by decide) hX) rfl rfl rfl (Nat.le_of_ble_eq_true rfl) (by decide) (by decide) (ma_takeA (h := b) hl (jl_sn (by decide) hX) (jl_ss t1) (jl_sn (by decide) t2) ht (va_up_self _ _ _) (by omega)) ?_
  show jl_E l G m_Ma_setField (0, 0) 9 [some (.ref 13), some (.int (nI f)), some (.int (nI (t * 12 + 7 + (b + 1)))), none, none] [.int (nI (t * 12 + 7 + b))] ((σ.set (20) (.inl (0, 144, .inl (fun j => en ((va_up ty (t * 12 + 6) (some (b + 1))) j))))).set (20) (.inl (0, 144, .inl (fun j => en ((va_up (va_up ty (t * 12 + 6) (some (b + 1))) (t * 12 + 6) (some (b))) j))))) P
  refine er_istore_n d_Ma_setField_9 (by decide) ?_
  show jl_E l G m_Ma_setField (0, 0) 10 [some (.ref 13), some (.int (nI f)), some (.int (nI (t * 12 + 7 + (b + 1)))), some (.int (nI (t * 12 + 7 + b))), none] [] ((σ.set (20) (.inl (0, 144, .inl (fun j => en ((va_up ty (t * 12 + 6) (some (b + 1))) j))))).set (20) (.inl (0, 144, .inl (fun j => en ((va_up (va_up ty (t * 12 + 6) (some (b + 1))) (t * 12 + 6) (some (b))) j))))) P
  refine er_aload_n d_Ma_setField_10 rfl ?_
  refine er_getf d_Ma_setField_11 f_Ma_setField_28 (jl_sn (by decide) (jl_sn (by decide) hX)) rfl ?_
  refine er_iload_n d_Ma_setField_14 rfl ?_
  refine er_ialdQ (v := (nI (10 + k))) d_Ma_setField_15 (jl_ss (jl_ss t1)) (by omega) (by omega) ((congrArg en ((va_up_ne _ _ (by omega)).trans ((va_up_ne _ _ (by omega)).trans (hT0)))).trans (congrArg en hy)) ?_
  refine er_iconst ((nI (2))) d_Ma_setField_16 (by decide) ?_
  refine er_icmp_ne 22 d_Ma_setField_17 (by decide) (fun _ => ?_) (fun z => absurd z (ne10 hk6 (by decide)))
  refine er_aload_n d_Ma_setField_22 rfl ?_
  refine er_getf d_Ma_setField_23 f_Ma_setField_12 (jl_sn (by decide) (jl_sn (by decide) hX)) rfl ?_
  refine er_aload_n d_Ma_setField_26 rfl ?_
  refine er_getf d_Ma_setField_27 f_Ma_setField_31 (jl_sn (by decide) (jl_sn (by decide) hX)) rfl ?_
  refine er_iload_n d_Ma_setField_30 rfl ?_
  refine er_ialdQ (v := (nI (q))) d_Ma_setField_31 (jl_sn (by decide) (jl_sn (by decide) t2)) (by omega) (by omega) ((hV0).trans hv) ?_
  refine er_iload_n d_Ma_setField_32 rfl ?_
  refine er_callV (As := [.int (nI q), .int (nI f)]) d_Ma_setField_33 k_Ma_setField_174 (jl_sn (by decide) (jl_sn (by decide) s0)) rfl rfl rfl (Nat.le_of_ble_eq_true rfl) (by decide) (by decide) (st_cellS hl ⟨(jl_sn (by decide) (jl_sn (by decide) s0)), (jl_sn (by decide) (jl_sn (by decide) s1)), (jl_sn (by decide) (jl_sn (by decide) s2)), (jl_sn (by decide) (jl_sn (by decide) s3))⟩) ?_
  show jl_E l G m_Ma_setField (0, 0) 36 [some (.ref 13), some (.int (nI f)), some (.int (nI (t * 12 + 7 + (b + 1)))), some (.int (nI (t * 12 + 7 + b))), none] [.int (nI (q * 18 + f))] ((σ.set (20) (.inl (0, 144, .inl (fun j => en ((va_up ty (t * 12 + 6) (some (b + 1))) j))))).set (20) (.inl (0, 144, .inl (fun j => en ((va_up (va_up ty (t * 12 + 6) (some (b + 1))) (t * 12 + 6) (some (b))) j))))) P
  refine er_istore d_Ma_setField_36 (by decide) ?_
  show jl_E l G m_Ma_setField (0, 0) 38 [some (.ref 13), some (.int (nI f)), some (.int (nI (t * 12 + 7 + (b + 1)))), some (.int (nI (t * 12 + 7 + b))), some (.int (nI (q * 18 + f)))] [] ((σ.set (20) (.inl (0, 144, .inl (fun j => en ((va_up ty (t * 12 + 6) (some (b + 1))) j))))).set (20) (.inl (0, 144, .inl (fun j => en ((va_up (va_up ty (t * 12 + 6) (some (b + 1))) (t * 12 + 6) (some (b))) j))))) P
  refine er_aload_n d_Ma_setField_38 rfl ?_
  refine er_getf d_Ma_setField_39 f_Ma_setField_12 (jl_sn (by decide) (jl_sn (by decide) hX)) rfl ?_
  refine er_getf d_Ma_setField_42 f_Ma_setField_193 (jl_sn (by decide) (jl_sn (by decide) s0)) rfl ?_
  refine er_iload d_Ma_setField_45 rfl ?_
  refine er_aload_n d_Ma_setField_47 rfl ?_
  refine er_getf d_Ma_setField_48 f_Ma_setField_28 (jl_sn (by decide) (jl_sn (by decide) hX)) rfl ?_
  refine er_iload_n d_Ma_setField_51 rfl ?_
  refine er_ialdQ (v := (en (R (8 + b)))) d_Ma_setField_52 (jl_ss (jl_ss t1)) (by omega) (by omega) (congrArg en ((va_up_ne _ _ (by omega)).trans ((va_up_ne _ _ (by omega)).trans (hT1)))) ?_
  refine er_iastN d_Ma_setField_53 (jl_sn (by decide) (jl_sn (by decide) s2)) (by omega) (by omega) ?_
  rw [show upd (fun j => en (H.ty j)) (q * 18 + f) ((en (R (8 + b)))) = (fun j => en ((va_up H.ty (q * 18 + f) ((R (8 + b)))) j)) from en_up H.ty (q * 18 + f) ((R (8 + b)))]
  show jl_E l G m_Ma_setField (0, 0) 54 [some (.ref 13), some (.int (nI f)), some (.int (nI (t * 12 + 7 + (b + 1)))), some (.int (nI (t * 12 + 7 + b))), some (.int (nI (q * 18 + f)))] [] (((σ.set (20) (.inl (0, 144, .inl (fun j => en ((va_up ty (t * 12 + 6) (some (b + 1))) j))))).set (20) (.inl (0, 144, .inl (fun j => en ((va_up (va_up ty (t * 12 + 6) (some (b + 1))) (t * 12 + 6) (some (b))) j))))).set (16) (.inl (0, 720, .inl (fun j => en ((va_up H.ty (q * 18 + f) ((R (8 + b)))) j))))) P
  refine er_aload_n d_Ma_setField_54 rfl ?_
  refine er_getf d_Ma_setField_55 f_Ma_setField_12 (jl_sn (by decide) (jl_sn (by decide) (jl_sn (by decide) hX))) rfl ?_
  refine er_getf d_Ma_setField_58 f_Ma_setField_173 (jl_sn (by decide) (jl_sn (by decide) (jl_sn (by decide) s0))) rfl ?_
  refine er_iload d_Ma_setField_61 rfl ?_
  refine er_aload_n d_Ma_setField_63 rfl ?_
  refine er_getf d_Ma_setField_64 f_Ma_setField_31 (jl_sn (by decide) (jl_sn (by decide) (jl_sn (by decide) hX))) rfl ?_
  refine er_iload_n d_Ma_setField_67 rfl ?_
  refine er_ialdQ (v := (V (8 + b))) d_Ma_setField_68 (jl_sn (by decide) (jl_sn (by decide) (jl_sn (by decide) t2))) (by omega) (by omega) (hV1) ?_
  refine er_iastN d_Ma_setField_69 (jl_sn (by decide) (jl_sn (by decide) (jl_sn (by decide) s3))) (by omega) (by omega) ?_
  show jl_E l G m_Ma_setField (0, 0) 70 [some (.ref 13), some (.int (nI f)), some (.int (nI (t * 12 + 7 + (b + 1)))), some (.int (nI (t * 12 + 7 + b))), some (.int (nI (q * 18 + f)))] [] ((((σ.set (20) (.inl (0, 144, .inl (fun j => en ((va_up ty (t * 12 + 6) (some (b + 1))) j))))).set (20) (.inl (0, 144, .inl (fun j => en ((va_up (va_up ty (t * 12 + 6) (some (b + 1))) (t * 12 + 6) (some (b))) j))))).set (16) (.inl (0, 720, .inl (fun j => en ((va_up H.ty (q * 18 + f) ((R (8 + b)))) j))))).set (17) (.inl (0, 720, .inl (upd (H.va) (q * 18 + f) ((V (8 + b))))))) P
  refine er_iconst ((nI (0))) d_Ma_setField_70 (by decide) ?_
  exact er_iret d_Ma_setField_71 rfl (hT _ ⟨_, _, _, _, (jl_sn (by decide) (jl_sn (by decide) (jl_sn (by decide) (jl_sn (by decide) hX)))), (jl_sn (by decide) (jl_sn (by decide) (jl_sn (by decide) (jl_sn (by decide) u1)))), (jl_sn (by decide) (jl_sn (by decide) (jl_sn (by decide) (jl_sn (by decide) u2)))), (jl_sn (by decide) (jl_sn (by decide) (jl_ss (jl_ss t1)))), (jl_sn (by decide) (jl_sn (by decide) (jl_sn (by decide) (jl_sn (by decide) t2)))), ⟨(jl_sn (by decide) (jl_sn (by decide) (jl_sn (by decide) (jl_sn (by decide) s0)))), (jl_sn (by decide) (jl_sn (by decide) (jl_sn (by decide) (jl_sn (by decide) s1)))), (jl_sn (by decide) (jl_ss (jl_sn (by decide) (jl_sn (by decide) s2)))), (upd_up (f := H.va) ▸ (jl_ss (jl_sn (by decide) (jl_sn (by decide) (jl_sn (by decide) s3)))))⟩, (((((((hx).six (y := some (b + 1)) (ob_s (by omega)))).six (y := some (b)) (ob_s (by omega)))).le (by omega)).cc (by first | rfl | simp only [psh_six, six_six]) (by first | rfl | simp only [psh_six, six_six])), (obU_up hto (hRo _ (by omega))), ((((hF.set (by omega)).set (by omega)).set (by omega)).set (by omega))⟩) (by decide) (by decide)
theorem d_Ma_actOnObject_43 : decode m_Ma_actOnObject.2.1 43 = .ok (.aload_n 0, 1) := by decide +kernel
theorem d_Ma_actOnObject_44 : decode m_Ma_actOnObject.2.1 44 = .ok (.iload_n 2, 1) := by decide +kernel
theorem d_Ma_actOnObject_45 : decode m_Ma_actOnObject.2.1 45 = .ok (.bipush 32, 2) := by decide +kernel
theorem d_Ma_actOnObject_47 : decode m_Ma_actOnObject.2.1 47 = .ok (.irem, 1) := by decide +kernel
theorem k_Ma_actOnObject_184 : jl_cv m_Ma_actOnObject m_Ma_getField 184 1 = true := by decide +kernel
theorem d_Ma_actOnObject_48 : decode m_Ma_actOnObject.2.1 48 = .ok (.invokevirtual 184, 3) := by decide +kernel
theorem d_Ma_actOnObject_51 : decode m_Ma_actOnObject.2.1 51 = .ok (.ireturn, 1) := by decide +kernel
theorem ma_obj_12n (hl : l.stackTraces = false) {P : jl_O → jl_S → Prop} {n : Nat} (hk : KB σ0 mt σ (7 + (b + 1)) t m p (R) (V) (fs) (H) su dt dq aw) (ht : t < 12) (hh : R 6 = some (b + 1)) (hb : b + 1 ≤ 5) (hy : R (7 + b) = some 2) (hn : n < 192) (hT : ∀ σ', KB σ0 mt σ' (6) t m p (R) (V) (fs) (H) su dt dq aw → P (.inl (some (.int (nI 2)))) σ') : jl_mE l G m_Ma_actOnObject [.ref 13, .int (nI 12), .int (nI n)] σ P := by
  obtain ⟨uw, ps, ty, va, hX, u1, u2, t1, t2, hS, hx, hto, hF⟩ := id hk
  obtain ⟨s0, s1, s2, s3⟩ := id hS
  obtain ⟨⟨⟨a, hma, hua⟩, hps, hty, hva⟩, hfs, hln, hob⟩ := id hx
  have hma : mt m = some a := hma
  have hps : ps t = p := hps
  have hty : ∀ j, j < _ → ty (t * 12 + j) = R j := hty
  have hva : ∀ j, j < _ → j ≠ 6 → va (t * 12 + j) = V j := hva
  have hRo := hx.rob
  refine jl_ofE (as := [.ref 13, .int (nI 12), .int (nI n)]) rfl (by decide) hl (jl_cc rfl (jl_cc rfl (jl_cc rfl jl_ca))) (Nat.le_of_ble_eq_true rfl) ?_
  show jl_E l G m_Ma_actOnObject (0, 0) 0 [some (.ref 13), some (.int (nI 12)), some (.int (nI n)), none, none, none] [] (σ) P
  refine er_iload_n d_Ma_actOnObject_0 rfl ?_
  refine er_tableIn (off := 42) 43 d_Ma_actOnObject_1 (by decide +kernel) (by decide +kernel) (by decide +kernel) (by decide) ?_
  refine er_aload_n d_Ma_actOnObject_43 rfl ?_
  refine er_iload_n d_Ma_actOnObject_44 rfl ?_
  refine er_bipush ((nI (32))) d_Ma_actOnObject_45 (by decide) ?_
  refine er_iremN d_Ma_actOnObject_47 (by omega) (by omega) (by omega) ?_
  refine er_callVE (As := [.int (nI ((n) % (32)))]) d_Ma_actOnObject_48 k_Ma_actOnObject_184 hX rfl rfl rfl (Nat.le_of_ble_eq_true rfl) (by decide) (by decide) (ma_get_12n (f := n % 32) hl hk ht hh hb hy (fun σ hk => ⟨_, rfl, ?_⟩))
  show jl_E l G m_Ma_actOnObject (0, 0) 51 [some (.ref 13), some (.int (nI 12)), some (.int (nI n)), none, none, none] [.int (nI 2)] (σ) P
  exact er_iret d_Ma_actOnObject_51 rfl (hT _ hk) (by decide) (by decide)
theorem ma_act_12n (hl : l.stackTraces = false) {P : jl_O → jl_S → Prop} {n : Nat} (hk : KB σ0 mt σ (7 + (b + 1)) t m p (R) (V) (fs) (H) su dt dq aw) (ht : t < 12) (hh : R 6 = some (b + 1)) (hb : b + 1 ≤ 5) (hy : R (7 + b) = some 2) (hn : n < 192) (hT : ∀ σ', KB σ0 mt σ' (6) t m p (R) (V) (fs) (H) su dt dq aw → P (.inl (some (.int (nI 2)))) σ') : jl_mE l G m_Ma_actOnStack [.ref 13, .int (nI 12), .int (nI n)] σ P := by
  obtain ⟨uw, ps, ty, va, hX, u1, u2, t1, t2, hS, hx, hto, hF⟩ := id hk
  obtain ⟨s0, s1, s2, s3⟩ := id hS
  obtain ⟨⟨⟨a, hma, hua⟩, hps, hty, hva⟩, hfs, hln, hob⟩ := id hx
  have hma : mt m = some a := hma
  have hps : ps t = p := hps
  have hty : ∀ j, j < _ → ty (t * 12 + j) = R j := hty
  have hva : ∀ j, j < _ → j ≠ 6 → va (t * 12 + j) = V j := hva
  have hRo := hx.rob
  refine jl_ofE (as := [.ref 13, .int (nI 12), .int (nI n)]) rfl (by decide) hl (jl_cc rfl (jl_cc rfl (jl_cc rfl jl_ca))) (Nat.le_of_ble_eq_true rfl) ?_
  show jl_E l G m_Ma_actOnStack (0, 0) 0 [some (.ref 13), some (.int (nI 12)), some (.int (nI n)), none, none] [] (σ) P
  refine er_iload_n d_Ma_actOnStack_0 rfl ?_
  refine er_tableIn (off := 252) 253 d_Ma_actOnStack_1 (by decide +kernel) (by decide +kernel) (by decide +kernel) (by decide) ?_
  refine er_aload_n d_Ma_actOnStack_253 rfl ?_
  refine er_iload_n d_Ma_actOnStack_254 rfl ?_
  refine er_iload_n d_Ma_actOnStack_255 rfl ?_
  refine er_callVE (As := [.int (nI 12), .int (nI n)]) d_Ma_actOnStack_256 k_Ma_actOnStack_161 hX rfl rfl rfl (Nat.le_of_ble_eq_true rfl) (by decide) (by decide) (ma_obj_12n hl hk ht hh hb hy hn (fun σ hk => ⟨_, rfl, ?_⟩))
  show jl_E l G m_Ma_actOnStack (0, 0) 259 [some (.ref 13), some (.int (nI 12)), some (.int (nI n)), none, none] [.int (nI 2)] (σ) P
  exact er_iret d_Ma_actOnStack_259 rfl (hT _ hk) (by decide) (by decide)
theorem ma_obj_12o (hl : l.stackTraces = false) {P : jl_O → jl_S → Prop} {n q k : Nat} (hk : KB σ0 mt σ (7 + (b + 1)) t m p (R) (V) (fs) (H) su dt dq aw) (ht : t < 12) (hh : R 6 = some (b + 1)) (hb : b + 1 ≤ 5) (hk6 : k < 6) (hy : R (7 + b) = some (10 + k)) (hv : V (7 + b) = nI q) (hq : q < 40) (hn : n < 192) (hf : n % 32 < 18) (hT : ∀ σ', KB σ0 mt σ' (8 + b) t m p (psh R b (H.ty (q * 18 + n % 32))) (va_up V (7 + b) (H.va (q * 18 + n % 32))) (fs) (H) su dt dq aw → P (.inl (some (.int (nI 0)))) σ') : jl_mE l G m_Ma_actOnObject [.ref 13, .int (nI 12), .int (nI n)] σ P := by
  obtain ⟨uw, ps, ty, va, hX, u1, u2, t1, t2, hS, hx, hto, hF⟩ := id hk
  obtain ⟨s0, s1, s2, s3⟩ := id hS
  obtain ⟨⟨⟨a, hma, hua⟩, hps, hty, hva⟩, hfs, hln, hob⟩ := id hx
  have hma : mt m = some a := hma
  have hps : ps t = p := hps
  have hty : ∀ j, j < _ → ty (t * 12 + j) = R j := hty
  have hva : ∀ j, j < _ → j ≠ 6 → va (t * 12 + j) = V j := hva
  have hRo := hx.rob
  refine jl_ofE (as := [.ref 13, .int (nI 12), .int (nI n)]) rfl (by decide) hl (jl_cc rfl (jl_cc rfl (jl_cc rfl jl_ca))) (Nat.le_of_ble_eq_true rfl) ?_
  show jl_E l G m_Ma_actOnObject (0, 0) 0 [some (.ref 13), some (.int (nI 12)), some (.int (nI n)), none, none, none] [] (σ) P
  refine er_iload_n d_Ma_actOnObject_0 rfl ?_
  refine er_tableIn (off := 42) 43 d_Ma_actOnObject_1 (by decide +kernel) (by decide +kernel) (by decide +kernel) (by decide) ?_
  refine er_aload_n d_Ma_actOnObject_43 rfl ?_
  refine er_iload_n d_Ma_actOnObject_44 rfl ?_
  refine er_bipush ((nI (32))) d_Ma_actOnObject_45 (by decide) ?_
  refine er_iremN d_Ma_actOnObject_47 (by omega) (by omega) (by omega) ?_
  refine er_callVE (As := [.int (nI ((n) % (32)))]) d_Ma_actOnObject_48 k_Ma_actOnObject_184 hX rfl rfl rfl (Nat.le_of_ble_eq_true rfl) (by decide) (by decide) (ma_get_12o (f := n % 32) hl hk ht hh hb hk6 hy hv hq hf (fun σ hk => ⟨_, rfl, ?_⟩))
  show jl_E l G m_Ma_actOnObject (0, 0) 51 [some (.ref 13), some (.int (nI 12)), some (.int (nI n)), none, none, none] [.int (nI 0)] (σ) P
  exact er_iret d_Ma_actOnObject_51 rfl (hT _ hk) (by decide) (by decide)
theorem ma_act_12o (hl : l.stackTraces = false) {P : jl_O → jl_S → Prop} {n q k : Nat} (hk : KB σ0 mt σ (7 + (b + 1)) t m p (R) (V) (fs) (H) su dt dq aw) (ht : t < 12) (hh : R 6 = some (b + 1)) (hb : b + 1 ≤ 5) (hk6 : k < 6) (hy : R (7 + b) = some (10 + k)) (hv : V (7 + b) = nI q) (hq : q < 40) (hn : n < 192) (hf : n % 32 < 18) (hT : ∀ σ', KB σ0 mt σ' (8 + b) t m p (psh R b (H.ty (q * 18 + n % 32))) (va_up V (7 + b) (H.va (q * 18 + n % 32))) (fs) (H) su dt dq aw → P (.inl (some (.int (nI 0)))) σ') : jl_mE l G m_Ma_actOnStack [.ref 13, .int (nI 12), .int (nI n)] σ P := by
  obtain ⟨uw, ps, ty, va, hX, u1, u2, t1, t2, hS, hx, hto, hF⟩ := id hk
  obtain ⟨s0, s1, s2, s3⟩ := id hS
  obtain ⟨⟨⟨a, hma, hua⟩, hps, hty, hva⟩, hfs, hln, hob⟩ := id hx
  have hma : mt m = some a := hma
  have hps : ps t = p := hps
  have hty : ∀ j, j < _ → ty (t * 12 + j) = R j := hty
  have hva : ∀ j, j < _ → j ≠ 6 → va (t * 12 + j) = V j := hva
  have hRo := hx.rob
  refine jl_ofE (as := [.ref 13, .int (nI 12), .int (nI n)]) rfl (by decide) hl (jl_cc rfl (jl_cc rfl (jl_cc rfl jl_ca))) (Nat.le_of_ble_eq_true rfl) ?_
  show jl_E l G m_Ma_actOnStack (0, 0) 0 [some (.ref 13), some (.int (nI 12)), some (.int (nI n)), none, none] [] (σ) P
  refine er_iload_n d_Ma_actOnStack_0 rfl ?_
  refine er_tableIn (off := 252) 253 d_Ma_actOnStack_1 (by decide +kernel) (by decide +kernel) (by decide +kernel) (by decide) ?_
  refine er_aload_n d_Ma_actOnStack_253 rfl ?_
  refine er_iload_n d_Ma_actOnStack_254 rfl ?_
  refine er_iload_n d_Ma_actOnStack_255 rfl ?_
  refine er_callVE (As := [.int (nI 12), .int (nI n)]) d_Ma_actOnStack_256 k_Ma_actOnStack_161 hX rfl rfl rfl (Nat.le_of_ble_eq_true rfl) (by decide) (by decide) (ma_obj_12o hl hk ht hh hb hk6 hy hv hq hn hf (fun σ hk => ⟨_, rfl, ?_⟩))
  show jl_E l G m_Ma_actOnStack (0, 0) 259 [some (.ref 13), some (.int (nI 12)), some (.int (nI n)), none, none] [.int (nI 0)] (σ) P
  exact er_iret d_Ma_actOnStack_259 rfl (hT _ hk) (by decide) (by decide)
theorem d_Ma_actOnObject_52 : decode m_Ma_actOnObject.2.1 52 = .ok (.aload_n 0, 1) := by decide +kernel
theorem d_Ma_actOnObject_53 : decode m_Ma_actOnObject.2.1 53 = .ok (.iload_n 2, 1) := by decide +kernel
theorem d_Ma_actOnObject_54 : decode m_Ma_actOnObject.2.1 54 = .ok (.bipush 32, 2) := by decide +kernel
theorem d_Ma_actOnObject_56 : decode m_Ma_actOnObject.2.1 56 = .ok (.irem, 1) := by decide +kernel
theorem k_Ma_actOnObject_187 : jl_cv m_Ma_actOnObject m_Ma_setField 187 1 = true := by decide +kernel
theorem d_Ma_actOnObject_57 : decode m_Ma_actOnObject.2.1 57 = .ok (.invokevirtual 187, 3) := by decide +kernel
theorem d_Ma_actOnObject_60 : decode m_Ma_actOnObject.2.1 60 = .ok (.ireturn, 1) := by decide +kernel
theorem ma_obj_13n (hl : l.stackTraces = false) {P : jl_O → jl_S → Prop} {n : Nat} (hk : KB σ0 mt σ (7 + (b + 2)) t m p (R) (V) (fs) (H) su dt dq aw) (ht : t < 12) (hh : R 6 = some (b + 2)) (hb : b + 2 ≤ 5) (hy : R (7 + b) = some 2) (hn : n < 192) (hT : ∀ σ', KB σ0 mt σ' (6) t m p (R) (V) (fs) (H) su dt dq aw → P (.inl (some (.int (nI 2)))) σ') : jl_mE l G m_Ma_actOnObject [.ref 13, .int (nI 13), .int (nI n)] σ P := by
  obtain ⟨uw, ps, ty, va, hX, u1, u2, t1, t2, hS, hx, hto, hF⟩ := id hk
  obtain ⟨s0, s1, s2, s3⟩ := id hS
  obtain ⟨⟨⟨a, hma, hua⟩, hps, hty, hva⟩, hfs, hln, hob⟩ := id hx
  have hma : mt m = some a := hma
  have hps : ps t = p := hps
  have hty : ∀ j, j < _ → ty (t * 12 + j) = R j := hty
  have hva : ∀ j, j < _ → j ≠ 6 → va (t * 12 + j) = V j := hva
  have hRo := hx.rob
  refine jl_ofE (as := [.ref 13, .int (nI 13), .int (nI n)]) rfl (by decide) hl (jl_cc rfl (jl_cc rfl (jl_cc rfl jl_ca))) (Nat.le_of_ble_eq_true rfl) ?_
  show jl_E l G m_Ma_actOnObject (0, 0) 0 [some (.ref 13), some (.int (nI 13)), some (.int (nI n)), none, none, none] [] (σ) P
  refine er_iload_n d_Ma_actOnObject_0 rfl ?_
  refine er_tableIn (off := 51) 52 d_Ma_actOnObject_1 (by decide +kernel) (by decide +kernel) (by decide +kernel) (by decide) ?_
  refine er_aload_n d_Ma_actOnObject_52 rfl ?_
  refine er_iload_n d_Ma_actOnObject_53 rfl ?_
  refine er_bipush ((nI (32))) d_Ma_actOnObject_54 (by decide) ?_
  refine er_iremN d_Ma_actOnObject_56 (by omega) (by omega) (by omega) ?_
  refine er_callVE (As := [.int (nI ((n) % (32)))]) d_Ma_actOnObject_57 k_Ma_actOnObject_187 hX rfl rfl rfl (Nat.le_of_ble_eq_true rfl) (by decide) (by decide) (ma_sfd_13n (f := n % 32) hl hk ht hh hb hy (fun σ hk => ⟨_, rfl, ?_⟩))
  show jl_E l G m_Ma_actOnObject (0, 0) 60 [some (.ref 13), some (.int (nI 13)), some (.int (nI n)), none, none, none] [.int (nI 2)] (σ) P
  exact er_iret d_Ma_actOnObject_60 rfl (hT _ hk) (by decide) (by decide)
theorem ma_act_13n (hl : l.stackTraces = false) {P : jl_O → jl_S → Prop} {n : Nat} (hk : KB σ0 mt σ (7 + (b + 2)) t m p (R) (V) (fs) (H) su dt dq aw) (ht : t < 12) (hh : R 6 = some (b + 2)) (hb : b + 2 ≤ 5) (hy : R (7 + b) = some 2) (hn : n < 192) (hT : ∀ σ', KB σ0 mt σ' (6) t m p (R) (V) (fs) (H) su dt dq aw → P (.inl (some (.int (nI 2)))) σ') : jl_mE l G m_Ma_actOnStack [.ref 13, .int (nI 13), .int (nI n)] σ P := by
  obtain ⟨uw, ps, ty, va, hX, u1, u2, t1, t2, hS, hx, hto, hF⟩ := id hk
  obtain ⟨s0, s1, s2, s3⟩ := id hS
  obtain ⟨⟨⟨a, hma, hua⟩, hps, hty, hva⟩, hfs, hln, hob⟩ := id hx
  have hma : mt m = some a := hma
  have hps : ps t = p := hps
  have hty : ∀ j, j < _ → ty (t * 12 + j) = R j := hty
  have hva : ∀ j, j < _ → j ≠ 6 → va (t * 12 + j) = V j := hva
  have hRo := hx.rob
  refine jl_ofE (as := [.ref 13, .int (nI 13), .int (nI n)]) rfl (by decide) hl (jl_cc rfl (jl_cc rfl (jl_cc rfl jl_ca))) (Nat.le_of_ble_eq_true rfl) ?_
  show jl_E l G m_Ma_actOnStack (0, 0) 0 [some (.ref 13), some (.int (nI 13)), some (.int (nI n)), none, none] [] (σ) P
  refine er_iload_n d_Ma_actOnStack_0 rfl ?_
  refine er_tableIn (off := 252) 253 d_Ma_actOnStack_1 (by decide +kernel) (by decide +kernel) (by decide +kernel) (by decide) ?_
  refine er_aload_n d_Ma_actOnStack_253 rfl ?_
  refine er_iload_n d_Ma_actOnStack_254 rfl ?_
  refine er_iload_n d_Ma_actOnStack_255 rfl ?_
  refine er_callVE (As := [.int (nI 13), .int (nI n)]) d_Ma_actOnStack_256 k_Ma_actOnStack_161 hX rfl rfl rfl (Nat.le_of_ble_eq_true rfl) (by decide) (by decide) (ma_obj_13n hl hk ht hh hb hy hn (fun σ hk => ⟨_, rfl, ?_⟩))
  show jl_E l G m_Ma_actOnStack (0, 0) 259 [some (.ref 13), some (.int (nI 13)), some (.int (nI n)), none, none] [.int (nI 2)] (σ) P
  exact er_iret d_Ma_actOnStack_259 rfl (hT _ hk) (by decide) (by decide)
theorem ma_obj_13o (hl : l.stackTraces = false) {P : jl_O → jl_S → Prop} {n q k : Nat} (hk : KB σ0 mt σ (7 + (b + 2)) t m p (R) (V) (fs) (H) su dt dq aw) (ht : t < 12) (hh : R 6 = some (b + 2)) (hb : b + 2 ≤ 5) (hk6 : k < 6) (hy : R (7 + b) = some (10 + k)) (hv : V (7 + b) = nI q) (hq : q < 40) (hn : n < 192) (hf : n % 32 < 18) (hT : ∀ σ', KB σ0 mt σ' (7 + b) t m p (va_up R 6 (some b)) (V) (fs) (⟨H.n, H.sz, va_up H.ty (q * 18 + n % 32) (R (8 + b)), va_up H.va (q * 18 + n % 32) (V (8 + b)), H.so⟩) su dt dq aw → P (.inl (some (.int (nI 0)))) σ') : jl_mE l G m_Ma_actOnObject [.ref 13, .int (nI 13), .int (nI n)] σ P := by
  obtain ⟨uw, ps, ty, va, hX, u1, u2, t1, t2, hS, hx, hto, hF⟩ := id hk
  obtain ⟨s0, s1, s2, s3⟩ := id hS
  obtain ⟨⟨⟨a, hma, hua⟩, hps, hty, hva⟩, hfs, hln, hob⟩ := id hx
  have hma : mt m = some a := hma
  have hps : ps t = p := hps
  have hty : ∀ j, j < _ → ty (t * 12 + j) = R j := hty
  have hva : ∀ j, j < _ → j ≠ 6 → va (t * 12 + j) = V j := hva
  have hRo := hx.rob
  refine jl_ofE (as := [.ref 13, .int (nI 13), .int (nI n)]) rfl (by decide) hl (jl_cc rfl (jl_cc rfl (jl_cc rfl jl_ca))) (Nat.le_of_ble_eq_true rfl) ?_
  show jl_E l G m_Ma_actOnObject (0, 0) 0 [some (.ref 13), some (.int (nI 13)), some (.int (nI n)), none, none, none] [] (σ) P
  refine er_iload_n d_Ma_actOnObject_0 rfl ?_
  refine er_tableIn (off := 51) 52 d_Ma_actOnObject_1 (by decide +kernel) (by decide +kernel) (by decide +kernel) (by decide) ?_
  refine er_aload_n d_Ma_actOnObject_52 rfl ?_
  refine er_iload_n d_Ma_actOnObject_53 rfl ?_
  refine er_bipush ((nI (32))) d_Ma_actOnObject_54 (by decide) ?_
  refine er_iremN d_Ma_actOnObject_56 (by omega) (by omega) (by omega) ?_
  refine er_callVE (As := [.int (nI ((n) % (32)))]) d_Ma_actOnObject_57 k_Ma_actOnObject_187 hX rfl rfl rfl (Nat.le_of_ble_eq_true rfl) (by decide) (by decide) (ma_sfd_13o (f := n % 32) hl hk ht hh hb hk6 hy hv hq hf (fun σ hk => ⟨_, rfl, ?_⟩))
  show jl_E l G m_Ma_actOnObject (0, 0) 60 [some (.ref 13), some (.int (nI 13)), some (.int (nI n)), none, none, none] [.int (nI 0)] (σ) P
  exact er_iret d_Ma_actOnObject_60 rfl (hT _ hk) (by decide) (by decide)
theorem ma_act_13o (hl : l.stackTraces = false) {P : jl_O → jl_S → Prop} {n q k : Nat} (hk : KB σ0 mt σ (7 + (b + 2)) t m p (R) (V) (fs) (H) su dt dq aw) (ht : t < 12) (hh : R 6 = some (b + 2)) (hb : b + 2 ≤ 5) (hk6 : k < 6) (hy : R (7 + b) = some (10 + k)) (hv : V (7 + b) = nI q) (hq : q < 40) (hn : n < 192) (hf : n % 32 < 18) (hT : ∀ σ', KB σ0 mt σ' (7 + b) t m p (va_up R 6 (some b)) (V) (fs) (⟨H.n, H.sz, va_up H.ty (q * 18 + n % 32) (R (8 + b)), va_up H.va (q * 18 + n % 32) (V (8 + b)), H.so⟩) su dt dq aw → P (.inl (some (.int (nI 0)))) σ') : jl_mE l G m_Ma_actOnStack [.ref 13, .int (nI 13), .int (nI n)] σ P := by
  obtain ⟨uw, ps, ty, va, hX, u1, u2, t1, t2, hS, hx, hto, hF⟩ := id hk
  obtain ⟨s0, s1, s2, s3⟩ := id hS
  obtain ⟨⟨⟨a, hma, hua⟩, hps, hty, hva⟩, hfs, hln, hob⟩ := id hx
  have hma : mt m = some a := hma
  have hps : ps t = p := hps
  have hty : ∀ j, j < _ → ty (t * 12 + j) = R j := hty
  have hva : ∀ j, j < _ → j ≠ 6 → va (t * 12 + j) = V j := hva
  have hRo := hx.rob
  refine jl_ofE (as := [.ref 13, .int (nI 13), .int (nI n)]) rfl (by decide) hl (jl_cc rfl (jl_cc rfl (jl_cc rfl jl_ca))) (Nat.le_of_ble_eq_true rfl) ?_
  show jl_E l G m_Ma_actOnStack (0, 0) 0 [some (.ref 13), some (.int (nI 13)), some (.int (nI n)), none, none] [] (σ) P
  refine er_iload_n d_Ma_actOnStack_0 rfl ?_
  refine er_tableIn (off := 252) 253 d_Ma_actOnStack_1 (by decide +kernel) (by decide +kernel) (by decide +kernel) (by decide) ?_
  refine er_aload_n d_Ma_actOnStack_253 rfl ?_
  refine er_iload_n d_Ma_actOnStack_254 rfl ?_
  refine er_iload_n d_Ma_actOnStack_255 rfl ?_
  refine er_callVE (As := [.int (nI 13), .int (nI n)]) d_Ma_actOnStack_256 k_Ma_actOnStack_161 hX rfl rfl rfl (Nat.le_of_ble_eq_true rfl) (by decide) (by decide) (ma_obj_13o hl hk ht hh hb hk6 hy hv hq hn hf (fun σ hk => ⟨_, rfl, ?_⟩))
  show jl_E l G m_Ma_actOnStack (0, 0) 259 [some (.ref 13), some (.int (nI 13)), some (.int (nI n)), none, none] [.int (nI 0)] (σ) P
  exact er_iret d_Ma_actOnStack_259 rfl (hT _ hk) (by decide) (by decide)
theorem d_Ma_actOnObject_61 : decode m_Ma_actOnObject.2.1 61 = .ok (.aload_n 0, 1) := by decide +kernel
theorem k_Ma_actOnObject_121 : jl_cv m_Ma_actOnObject m_Ma_take 121 0 = true := by decide +kernel
theorem d_Ma_actOnObject_62 : decode m_Ma_actOnObject.2.1 62 = .ok (.invokevirtual 121, 3) := by decide +kernel
theorem d_Ma_actOnObject_65 : decode m_Ma_actOnObject.2.1 65 = .ok (.istore_n 3, 1) := by decide +kernel
theorem d_Ma_actOnObject_66 : decode m_Ma_actOnObject.2.1 66 = .ok (.aload_n 0, 1) := by decide +kernel
theorem d_Ma_actOnObject_67 : decode m_Ma_actOnObject.2.1 67 = .ok (.aload_n 0, 1) := by decide +kernel
theorem f_Ma_actOnObject_28 : jl_fd m_Ma_actOnObject 28 1 5 = true := by decide +kernel
theorem d_Ma_actOnObject_68 : decode m_Ma_actOnObject.2.1 68 = .ok (.getfield 28, 3) := by decide +kernel
theorem d_Ma_actOnObject_71 : decode m_Ma_actOnObject.2.1 71 = .ok (.iload_n 3, 1) := by decide +kernel
theorem d_Ma_actOnObject_72 : decode m_Ma_actOnObject.2.1 72 = .ok (.iaload, 1) := by decide +kernel
theorem d_Ma_actOnObject_73 : decode m_Ma_actOnObject.2.1 73 = .ok (.aload_n 0, 1) := by decide +kernel
theorem f_Ma_actOnObject_31 : jl_fd m_Ma_actOnObject 31 1 6 = true := by decide +kernel
theorem d_Ma_actOnObject_74 : decode m_Ma_actOnObject.2.1 74 = .ok (.getfield 31, 3) := by decide +kernel
theorem d_Ma_actOnObject_77 : decode m_Ma_actOnObject.2.1 77 = .ok (.iload_n 3, 1) := by decide +kernel
theorem d_Ma_actOnObject_78 : decode m_Ma_actOnObject.2.1 78 = .ok (.iaload, 1) := by decide +kernel
theorem k_Ma_actOnObject_133 : jl_cv m_Ma_actOnObject m_Ma_put 133 2 = true := by decide +kernel
theorem d_Ma_actOnObject_79 : decode m_Ma_actOnObject.2.1 79 = .ok (.invokevirtual 133, 3) := by decide +kernel
theorem d_Ma_actOnObject_82 : decode m_Ma_actOnObject.2.1 82 = .ok (.aload_n 0, 1) := by decide +kernel
theorem f_Ma_actOnObject_50 : jl_fd m_Ma_actOnObject 50 1 0 = true := by decide +kernel
theorem d_Ma_actOnObject_83 : decode m_Ma_actOnObject.2.1 83 = .ok (.getfield 50, 3) := by decide +kernel
theorem d_Ma_actOnObject_86 : decode m_Ma_actOnObject.2.1 86 = .ok (.aload_n 0, 1) := by decide +kernel
theorem d_Ma_actOnObject_87 : decode m_Ma_actOnObject.2.1 87 = .ok (.getfield 28, 3) := by decide +kernel
theorem d_Ma_actOnObject_90 : decode m_Ma_actOnObject.2.1 90 = .ok (.iload_n 3, 1) := by decide +kernel
theorem d_Ma_actOnObject_91 : decode m_Ma_actOnObject.2.1 91 = .ok (.iaload, 1) := by decide +kernel
theorem d_Ma_actOnObject_92 : decode m_Ma_actOnObject.2.1 92 = .ok (.bipush 10, 2) := by decide +kernel
theorem d_Ma_actOnObject_94 : decode m_Ma_actOnObject.2.1 94 = .ok (.iload_n 2, 1) := by decide +kernel
theorem d_Ma_actOnObject_95 : decode m_Ma_actOnObject.2.1 95 = .ok (.iadd, 1) := by decide +kernel
theorem k_Ma_actOnObject_190 : jl_cv m_Ma_actOnObject m_Wo_isPart 190 2 = true := by decide +kernel
theorem d_Ma_actOnObject_96 : decode m_Ma_actOnObject.2.1 96 = .ok (.invokevirtual 190, 3) := by decide +kernel
theorem d_Ma_actOnObject_99 : decode m_Ma_actOnObject.2.1 99 = .ok (.ifCond .eq 7, 3) := by decide +kernel
theorem d_Ma_actOnObject_102 : decode m_Ma_actOnObject.2.1 102 = .ok (.iconst 0, 1) := by decide +kernel
theorem d_Ma_actOnObject_103 : decode m_Ma_actOnObject.2.1 103 = .ok (.goto 4, 3) := by decide +kernel
theorem d_Ma_actOnObject_107 : decode m_Ma_actOnObject.2.1 107 = .ok (.ireturn, 1) := by decide +kernel
theorem ma_obj_15y (hl : l.stackTraces = false) {P : jl_O → jl_S → Prop} {n : Nat} (hk : KB σ0 mt σ (7 + (b + 1)) t m p (R) (V) (fs) (H) su dt dq aw) (hwx : WX σ0 tb pr ow fi ft mt sg D MP FH) (hmt : MtOk mt) (hok : WoOk tb pr ow fi) (ht : t < 12) (hh : R 6 = some (b + 1)) (hb : b + 1 ≤ 5) (hn : n < 6) (hpt : part pr (R (7 + b)) (some (10 + n)) = true) (hT : ∀ σ', KB σ0 mt σ' (8 + b) t m p (R) (V) (fs) (H) su dt dq aw → P (.inl (some (.int (nI 0)))) σ') : jl_mE l G m_Ma_actOnObject [.ref 13, .int (nI 15), .int (nI n)] σ P := by
  obtain ⟨uw, ps, ty, va, hX, u1, u2, t1, t2, hS, hx, hto, hF⟩ := id hk
  obtain ⟨s0, s1, s2, s3⟩ := id hS
  obtain ⟨⟨⟨a, hma, hua⟩, hps, hty, hva⟩, hfs, hln, hob⟩ := id hx
  have hma : mt m = some a := hma
  have hps : ps t = p := hps
  have hty : ∀ j, j < _ → ty (t * 12 + j) = R j := hty
  have hva : ∀ j, j < _ → j ≠ 6 → va (t * 12 + j) = V j := hva
  have hRo := hx.rob
  have hw := (hwx.fr hF hmt).1
  obtain ⟨hW, h2, h3, h4, h5w, h6w, h7⟩ := id hw
  have hh6 : ty (t * 12 + 6) = some (b + 1) := (hty 6 (by omega)).trans hh
  have hT0 : ty (t * 12 + 7 + b) = R (7 + b) := by rw [show t * 12 + 7 + b = t * 12 + (7 + b) by omega]; exact hty _ (by omega)
  have hV0 : va (t * 12 + 7 + b) = V (7 + b) := by rw [show t * 12 + 7 + b = t * 12 + (7 + b) by omega]; exact hva _ (by omega) (by omega)
  refine jl_ofE (as := [.ref 13, .int (nI 15), .int (nI n)]) rfl (by decide) hl (jl_cc rfl (jl_cc rfl (jl_cc rfl jl_ca))) (Nat.le_of_ble_eq_true rfl) ?_
  show jl_E l G m_Ma_actOnObject (0, 0) 0 [some (.ref 13), some (.int (nI 15)), some (.int (nI n)), none, none, none] [] (σ) P
  refine er_iload_n d_Ma_actOnObject_0 rfl ?_
  refine er_tableIn (off := 60) 61 d_Ma_actOnObject_1 (by decide +kernel) (by decide +kernel) (by decide +kernel) (by decide) ?_
  refine er_aload_n d_Ma_actOnObject_61 rfl ?_
  refine er_callV (As := []) d_Ma_actOnObject_62 k_Ma_actOnObject_121 hX rfl rfl rfl (Nat.le_of_ble_eq_true rfl) (by decide) (by decide) (ma_takeA (h := b) hl hX t1 t2 ht hh6 (by omega)) ?_
  show jl_E l G m_Ma_actOnObject (0, 0) 65 [some (.ref 13), some (.int (nI 15)), some (.int (nI n)), none, none, none] [.int (nI (t * 12 + 7 + b))] (σ.set (20) (.inl (0, 144, .inl (fun j => en ((va_up ty (t * 12 + 6) (some (b))) j))))) P
  refine er_istore_n d_Ma_actOnObject_65 (by decide) ?_
  show jl_E l G m_Ma_actOnObject (0, 0) 66 [some (.ref 13), some (.int (nI 15)), some (.int (nI n)), some (.int (nI (t * 12 + 7 + b))), none, none] [] (σ.set (20) (.inl (0, 144, .inl (fun j => en ((va_up ty (t * 12 + 6) (some (b))) j))))) P
  refine er_aload_n d_Ma_actOnObject_66 rfl ?_
  refine er_aload_n d_Ma_actOnObject_67 rfl ?_
  refine er_getf d_Ma_actOnObject_68 f_Ma_actOnObject_28 (jl_sn (by decide) hX) rfl ?_
  refine er_iload_n d_Ma_actOnObject_71 rfl ?_
  refine er_ialdQ (v := (en (R (7 + b)))) d_Ma_actOnObject_72 (jl_ss t1) (by omega) (by omega) (congrArg en ((va_up_ne _ _ (by omega)).trans (hT0))) ?_
  refine er_aload_n d_Ma_actOnObject_73 rfl ?_
  refine er_getf d_Ma_actOnObject_74 f_Ma_actOnObject_31 (jl_sn (by decide) hX) rfl ?_
  refine er_iload_n d_Ma_actOnObject_77 rfl ?_
  refine er_ialdQ (v := (V (7 + b))) d_Ma_actOnObject_78 (jl_sn (by decide) t2) (by omega) (by omega) (hV0) ?_
  refine er_callV (As := [.int (en (R (7 + b))), .int (V (7 + b))]) d_Ma_actOnObject_79 k_Ma_actOnObject_133 (jl_sn (by decide) hX) rfl rfl rfl (Nat.le_of_ble_eq_true rfl) (by decide) (by decide) (ma_put (h := b) (y := (R (7 + b))) (v := (V (7 + b))) hl (jl_sn (by decide) hX) (jl_ss t1) (jl_sn (by decide) t2) ht (va_up_self _ _ _) (by omega)) ?_
  show jl_E l G m_Ma_actOnObject (0, 0) 82 [some (.ref 13), some (.int (nI 15)), some (.int (nI n)), some (.int (nI (t * 12 + 7 + b))), none, none] [] ((((σ.set (20) (.inl (0, 144, .inl (fun j => en ((va_up ty (t * 12 + 6) (some (b))) j))))).set (20) (.inl (0, 144, .inl (fun j => en ((va_up (va_up ty (t * 12 + 6) (some (b))) (t * 12 + 7 + b) (R (7 + b))) j))))).set (21) (.inl (0, 144, .inl (upd va (t * 12 + 7 + b) (V (7 + b)))))).set (20) (.inl (0, 144, .inl (fun j => en ((va_up (va_up (va_up ty (t * 12 + 6) (some (b))) (t * 12 + 7 + b) (R (7 + b))) (t * 12 + 6) (some (b + 1))) j))))) P
  refine er_aload_n d_Ma_actOnObject_82 rfl ?_
  refine er_getf d_Ma_actOnObject_83 f_Ma_actOnObject_50 (jl_sn (by decide) (jl_sn (by decide) (jl_sn (by decide) (jl_sn (by decide) hX)))) rfl ?_
  refine er_aload_n d_Ma_actOnObject_86 rfl ?_
  refine er_getf d_Ma_actOnObject_87 f_Ma_actOnObject_28 (jl_sn (by decide) (jl_sn (by decide) (jl_sn (by decide) (jl_sn (by decide) hX)))) rfl ?_
  refine er_iload_n d_Ma_actOnObject_90 rfl ?_
  refine er_ialdQ (v := (en (R (7 + b)))) d_Ma_actOnObject_91 (jl_ss (jl_sn (by decide) (jl_ss (jl_ss t1)))) (by omega) (by omega) (congrArg en ((va_up_ne _ _ (by omega)).trans (va_up_self _ _ _))) ?_
  refine er_bipush ((nI (10))) d_Ma_actOnObject_92 (by decide) ?_
  refine er_iload_n d_Ma_actOnObject_94 rfl ?_
  refine er_iaddN d_Ma_actOnObject_95 ?_
  refine er_callV (As := [.int (en (R (7 + b))), .int (nI ((10) + (n)))]) d_Ma_actOnObject_96 k_Ma_actOnObject_190 (jl_sn (by decide) (jl_sn (by decide) (jl_sn (by decide) (jl_sn (by decide) hW)))) rfl rfl rfl (Nat.le_of_ble_eq_true rfl) (by decide) (by decide) (wo_partT (x := R (7 + b)) (y := some ((10) + (n))) hl (hwx.fr ((((hF.set (by omega)).set (by omega)).set (by omega)).set (by omega)) hmt).1 hok.1 (hRo _ (by omega)) (ob_s (by omega)) hpt) ?_
  show jl_E l G m_Ma_actOnObject (0, 0) 99 [some (.ref 13), some (.int (nI 15)), some (.int (nI n)), some (.int (nI (t * 12 + 7 + b))), none, none] [.int (nI 1)] ((((σ.set (20) (.inl (0, 144, .inl (fun j => en ((va_up ty (t * 12 + 6) (some (b))) j))))).set (20) (.inl (0, 144, .inl (fun j => en ((va_up (va_up ty (t * 12 + 6) (some (b))) (t * 12 + 7 + b) (R (7 + b))) j))))).set (21) (.inl (0, 144, .inl (upd va (t * 12 + 7 + b) (V (7 + b)))))).set (20) (.inl (0, 144, .inl (fun j => en ((va_up (va_up (va_up ty (t * 12 + 6) (some (b))) (t * 12 + 7 + b) (R (7 + b))) (t * 12 + 6) (some (b + 1))) j))))) P
  refine er_if_eq 106 d_Ma_actOnObject_99 (by decide) (fun z => absurd z (by decide)) (fun _ => ?_)
  refine er_iconst ((nI (0))) d_Ma_actOnObject_102 (by decide) ?_
  refine er_goto 107 d_Ma_actOnObject_103 (by decide) ?_
  exact er_iret d_Ma_actOnObject_107 rfl (hT _ ⟨_, _, _, _, (jl_sn (by decide) (jl_sn (by decide) (jl_sn (by decide) (jl_sn (by decide) hX)))), (jl_sn (by decide) (jl_sn (by decide) (jl_sn (by decide) (jl_sn (by decide) u1)))), (jl_sn (by decide) (jl_sn (by decide) (jl_sn (by decide) (jl_sn (by decide) u2)))), (jl_ss (jl_sn (by decide) (jl_ss (jl_ss t1)))), (jl_sn (by decide) (jl_ss (jl_sn (by decide) (jl_sn (by decide) t2)))), ⟨(jl_sn (by decide) (jl_sn (by decide) (jl_sn (by decide) (jl_sn (by decide) s0)))), (jl_sn (by decide) (jl_sn (by decide) (jl_sn (by decide) (jl_sn (by decide) s1)))), (jl_sn (by decide) (jl_sn (by decide) (jl_sn (by decide) (jl_sn (by decide) s2)))), (jl_sn (by decide) (jl_sn (by decide) (jl_sn (by decide) (jl_sn (by decide) s3))))⟩, ((((((hx).six (y := some (b)) (ob_s (by omega)))).put (i := b) (y := (R (7 + b))) (v := (V (7 + b))) (by omega) (by omega) (hRo _ (by omega)))).cc (by first | rfl | simp only [psh_six, psh_id hh, up_id]) (by first | rfl | simp only [psh_six, psh_id hh, up_id])), hto, ((((hF.set (by omega)).set (by omega)).set (by omega)).set (by omega))⟩) (by decide) (by decide)
theorem ma_act_15y (hl : l.stackTraces = false) {P : jl_O → jl_S → Prop} {n : Nat} (hk : KB σ0 mt σ (7 + (b + 1)) t m p (R) (V) (fs) (H) su dt dq aw) (hwx : WX σ0 tb pr ow fi ft mt sg D MP FH) (hmt : MtOk mt) (hok : WoOk tb pr ow fi) (ht : t < 12) (hh : R 6 = some (b + 1)) (hb : b + 1 ≤ 5) (hn : n < 6) (hpt : part pr (R (7 + b)) (some (10 + n)) = true) (hT : ∀ σ', KB σ0 mt σ' (8 + b) t m p (R) (V) (fs) (H) su dt dq aw → P (.inl (some (.int (nI 0)))) σ') : jl_mE l G m_Ma_actOnStack [.ref 13, .int (nI 15), .int (nI n)] σ P := by
  obtain ⟨uw, ps, ty, va, hX, u1, u2, t1, t2, hS, hx, hto, hF⟩ := id hk
  obtain ⟨s0, s1, s2, s3⟩ := id hS
  obtain ⟨⟨⟨a, hma, hua⟩, hps, hty, hva⟩, hfs, hln, hob⟩ := id hx
  have hma : mt m = some a := hma
  have hps : ps t = p := hps
  have hty : ∀ j, j < _ → ty (t * 12 + j) = R j := hty
  have hva : ∀ j, j < _ → j ≠ 6 → va (t * 12 + j) = V j := hva
  have hRo := hx.rob
  have hw := (hwx.fr hF hmt).1
  obtain ⟨hW, h2, h3, h4, h5w, h6w, h7⟩ := id hw
  refine jl_ofE (as := [.ref 13, .int (nI 15), .int (nI n)]) rfl (by decide) hl (jl_cc rfl (jl_cc rfl (jl_cc rfl jl_ca))) (Nat.le_of_ble_eq_true rfl) ?_
  show jl_E l G m_Ma_actOnStack (0, 0) 0 [some (.ref 13), some (.int (nI 15)), some (.int (nI n)), none, none] [] (σ) P
  refine er_iload_n d_Ma_actOnStack_0 rfl ?_
  refine er_tableIn (off := 252) 253 d_Ma_actOnStack_1 (by decide +kernel) (by decide +kernel) (by decide +kernel) (by decide) ?_
  refine er_aload_n d_Ma_actOnStack_253 rfl ?_
  refine er_iload_n d_Ma_actOnStack_254 rfl ?_
  refine er_iload_n d_Ma_actOnStack_255 rfl ?_
  refine er_callVE (As := [.int (nI 15), .int (nI n)]) d_Ma_actOnStack_256 k_Ma_actOnStack_161 hX rfl rfl rfl (Nat.le_of_ble_eq_true rfl) (by decide) (by decide) (ma_obj_15y hl hk hwx hmt hok ht hh hb hn hpt (fun σ hk => ⟨_, rfl, ?_⟩))
  show jl_E l G m_Ma_actOnStack (0, 0) 259 [some (.ref 13), some (.int (nI 15)), some (.int (nI n)), none, none] [.int (nI 0)] (σ) P
  exact er_iret d_Ma_actOnStack_259 rfl (hT _ hk) (by decide) (by decide)
theorem d_Ma_actOnObject_106 : decode m_Ma_actOnObject.2.1 106 = .ok (.iconst 4, 1) := by decide +kernel
theorem ma_obj_15n (hl : l.stackTraces = false) {P : jl_O → jl_S → Prop} {n : Nat} (hk : KB σ0 mt σ (7 + (b + 1)) t m p (R) (V) (fs) (H) su dt dq aw) (hwx : WX σ0 tb pr ow fi ft mt sg D MP FH) (hmt : MtOk mt) (hok : WoOk tb pr ow fi) (ht : t < 12) (hh : R 6 = some (b + 1)) (hb : b + 1 ≤ 5) (hn : n < 6) (hpt : ¬ part pr (R (7 + b)) (some (10 + n)) = true) (hT : ∀ σ', KB σ0 mt σ' (6) t m p (R) (V) (fs) (H) su dt dq aw → P (.inl (some (.int (nI 4)))) σ') : jl_mE l G m_Ma_actOnObject [.ref 13, .int (nI 15), .int (nI n)] σ P := by
  obtain ⟨uw, ps, ty, va, hX, u1, u2, t1, t2, hS, hx, hto, hF⟩ := id hk
  obtain ⟨s0, s1, s2, s3⟩ := id hS
  obtain ⟨⟨⟨a, hma, hua⟩, hps, hty, hva⟩, hfs, hln, hob⟩ := id hx
  have hma : mt m = some a := hma
  have hps : ps t = p := hps
  have hty : ∀ j, j < _ → ty (t * 12 + j) = R j := hty
  have hva : ∀ j, j < _ → j ≠ 6 → va (t * 12 + j) = V j := hva
  have hRo := hx.rob
  have hw := (hwx.fr hF hmt).1
  obtain ⟨hW, h2, h3, h4, h5w, h6w, h7⟩ := id hw
  have hh6 : ty (t * 12 + 6) = some (b + 1) := (hty 6 (by omega)).trans hh
  have hT0 : ty (t * 12 + 7 + b) = R (7 + b) := by rw [show t * 12 + 7 + b = t * 12 + (7 + b) by omega]; exact hty _ (by omega)
  have hV0 : va (t * 12 + 7 + b) = V (7 + b) := by rw [show t * 12 + 7 + b = t * 12 + (7 + b) by omega]; exact hva _ (by omega) (by omega)
  refine jl_ofE (as := [.ref 13, .int (nI 15), .int (nI n)]) rfl (by decide) hl (jl_cc rfl (jl_cc rfl (jl_cc rfl jl_ca))) (Nat.le_of_ble_eq_true rfl) ?_
  show jl_E l G m_Ma_actOnObject (0, 0) 0 [some (.ref 13), some (.int (nI 15)), some (.int (nI n)), none, none, none] [] (σ) P
  refine er_iload_n d_Ma_actOnObject_0 rfl ?_
  refine er_tableIn (off := 60) 61 d_Ma_actOnObject_1 (by decide +kernel) (by decide +kernel) (by decide +kernel) (by decide) ?_
  refine er_aload_n d_Ma_actOnObject_61 rfl ?_
  refine er_callV (As := []) d_Ma_actOnObject_62 k_Ma_actOnObject_121 hX rfl rfl rfl (Nat.le_of_ble_eq_true rfl) (by decide) (by decide) (ma_takeA (h := b) hl hX t1 t2 ht hh6 (by omega)) ?_
  show jl_E l G m_Ma_actOnObject (0, 0) 65 [some (.ref 13), some (.int (nI 15)), some (.int (nI n)), none, none, none] [.int (nI (t * 12 + 7 + b))] (σ.set (20) (.inl (0, 144, .inl (fun j => en ((va_up ty (t * 12 + 6) (some (b))) j))))) P
  refine er_istore_n d_Ma_actOnObject_65 (by decide) ?_
  show jl_E l G m_Ma_actOnObject (0, 0) 66 [some (.ref 13), some (.int (nI 15)), some (.int (nI n)), some (.int (nI (t * 12 + 7 + b))), none, none] [] (σ.set (20) (.inl (0, 144, .inl (fun j => en ((va_up ty (t * 12 + 6) (some (b))) j))))) P
  refine er_aload_n d_Ma_actOnObject_66 rfl ?_
  refine er_aload_n d_Ma_actOnObject_67 rfl ?_
  refine er_getf d_Ma_actOnObject_68 f_Ma_actOnObject_28 (jl_sn (by decide) hX) rfl ?_
  refine er_iload_n d_Ma_actOnObject_71 rfl ?_
  refine er_ialdQ (v := (en (R (7 + b)))) d_Ma_actOnObject_72 (jl_ss t1) (by omega) (by omega) (congrArg en ((va_up_ne _ _ (by omega)).trans (hT0))) ?_
  refine er_aload_n d_Ma_actOnObject_73 rfl ?_
  refine er_getf d_Ma_actOnObject_74 f_Ma_actOnObject_31 (jl_sn (by decide) hX) rfl ?_
  refine er_iload_n d_Ma_actOnObject_77 rfl ?_
  refine er_ialdQ (v := (V (7 + b))) d_Ma_actOnObject_78 (jl_sn (by decide) t2) (by omega) (by omega) (hV0) ?_
  refine er_callV (As := [.int (en (R (7 + b))), .int (V (7 + b))]) d_Ma_actOnObject_79 k_Ma_actOnObject_133 (jl_sn (by decide) hX) rfl rfl rfl (Nat.le_of_ble_eq_true rfl) (by decide) (by decide) (ma_put (h := b) (y := (R (7 + b))) (v := (V (7 + b))) hl (jl_sn (by decide) hX) (jl_ss t1) (jl_sn (by decide) t2) ht (va_up_self _ _ _) (by omega)) ?_
  show jl_E l G m_Ma_actOnObject (0, 0) 82 [some (.ref 13), some (.int (nI 15)), some (.int (nI n)), some (.int (nI (t * 12 + 7 + b))), none, none] [] ((((σ.set (20) (.inl (0, 144, .inl (fun j => en ((va_up ty (t * 12 + 6) (some (b))) j))))).set (20) (.inl (0, 144, .inl (fun j => en ((va_up (va_up ty (t * 12 + 6) (some (b))) (t * 12 + 7 + b) (R (7 + b))) j))))).set (21) (.inl (0, 144, .inl (upd va (t * 12 + 7 + b) (V (7 + b)))))).set (20) (.inl (0, 144, .inl (fun j => en ((va_up (va_up (va_up ty (t * 12 + 6) (some (b))) (t * 12 + 7 + b) (R (7 + b))) (t * 12 + 6) (some (b + 1))) j))))) P
  refine er_aload_n d_Ma_actOnObject_82 rfl ?_
  refine er_getf d_Ma_actOnObject_83 f_Ma_actOnObject_50 (jl_sn (by decide) (jl_sn (by decide) (jl_sn (by decide) (jl_sn (by decide) hX)))) rfl ?_
  refine er_aload_n d_Ma_actOnObject_86 rfl ?_
  refine er_getf d_Ma_actOnObject_87 f_Ma_actOnObject_28 (jl_sn (by decide) (jl_sn (by decide) (jl_sn (by decide) (jl_sn (by decide) hX)))) rfl ?_
  refine er_iload_n d_Ma_actOnObject_90 rfl ?_
  refine er_ialdQ (v := (en (R (7 + b)))) d_Ma_actOnObject_91 (jl_ss (jl_sn (by decide) (jl_ss (jl_ss t1)))) (by omega) (by omega) (congrArg en ((va_up_ne _ _ (by omega)).trans (va_up_self _ _ _))) ?_
  refine er_bipush ((nI (10))) d_Ma_actOnObject_92 (by decide) ?_
  refine er_iload_n d_Ma_actOnObject_94 rfl ?_
  refine er_iaddN d_Ma_actOnObject_95 ?_
  refine er_callV (As := [.int (en (R (7 + b))), .int (nI ((10) + (n)))]) d_Ma_actOnObject_96 k_Ma_actOnObject_190 (jl_sn (by decide) (jl_sn (by decide) (jl_sn (by decide) (jl_sn (by decide) hW)))) rfl rfl rfl (Nat.le_of_ble_eq_true rfl) (by decide) (by decide) (wo_partF (x := R (7 + b)) (y := some ((10) + (n))) hl (hwx.fr ((((hF.set (by omega)).set (by omega)).set (by omega)).set (by omega)) hmt).1 hok.1 (hRo _ (by omega)) (ob_s (by omega)) hpt) ?_
  show jl_E l G m_Ma_actOnObject (0, 0) 99 [some (.ref 13), some (.int (nI 15)), some (.int (nI n)), some (.int (nI (t * 12 + 7 + b))), none, none] [.int (nI 0)] ((((σ.set (20) (.inl (0, 144, .inl (fun j => en ((va_up ty (t * 12 + 6) (some (b))) j))))).set (20) (.inl (0, 144, .inl (fun j => en ((va_up (va_up ty (t * 12 + 6) (some (b))) (t * 12 + 7 + b) (R (7 + b))) j))))).set (21) (.inl (0, 144, .inl (upd va (t * 12 + 7 + b) (V (7 + b)))))).set (20) (.inl (0, 144, .inl (fun j => en ((va_up (va_up (va_up ty (t * 12 + 6) (some (b))) (t * 12 + 7 + b) (R (7 + b))) (t * 12 + 6) (some (b + 1))) j))))) P
  refine er_if_eq 106 d_Ma_actOnObject_99 (by decide) (fun _ => ?_) (fun z => absurd (by decide) z)
  refine er_iconst ((nI (4))) d_Ma_actOnObject_106 (by decide) ?_
  exact er_iret d_Ma_actOnObject_107 rfl (hT _ ⟨_, _, _, _, (jl_sn (by decide) (jl_sn (by decide) (jl_sn (by decide) (jl_sn (by decide) hX)))), (jl_sn (by decide) (jl_sn (by decide) (jl_sn (by decide) (jl_sn (by decide) u1)))), (jl_sn (by decide) (jl_sn (by decide) (jl_sn (by decide) (jl_sn (by decide) u2)))), (jl_ss (jl_sn (by decide) (jl_ss (jl_ss t1)))), (jl_sn (by decide) (jl_ss (jl_sn (by decide) (jl_sn (by decide) t2)))), ⟨(jl_sn (by decide) (jl_sn (by decide) (jl_sn (by decide) (jl_sn (by decide) s0)))), (jl_sn (by decide) (jl_sn (by decide) (jl_sn (by decide) (jl_sn (by decide) s1)))), (jl_sn (by decide) (jl_sn (by decide) (jl_sn (by decide) (jl_sn (by decide) s2)))), (jl_sn (by decide) (jl_sn (by decide) (jl_sn (by decide) (jl_sn (by decide) s3))))⟩, (((((hx).six (y := some (b)) (ob_s (by omega)))).put (i := b) (y := (R (7 + b))) (v := (V (7 + b))) (by omega) (by omega) (hRo _ (by omega)))).lo (by omega) (fun j hj => ⟨by simp only [va_up, psh, if_neg (show ¬ j = 6 by omega), if_neg (show ¬ j = 7 + b by omega)], by simp only [va_up, psh, if_neg (show ¬ j = 6 by omega), if_neg (show ¬ j = 7 + b by omega)]⟩), hto, ((((hF.set (by omega)).set (by omega)).set (by omega)).set (by omega))⟩) (by decide) (by decide)
theorem ma_act_15n (hl : l.stackTraces = false) {P : jl_O → jl_S → Prop} {n : Nat} (hk : KB σ0 mt σ (7 + (b + 1)) t m p (R) (V) (fs) (H) su dt dq aw) (hwx : WX σ0 tb pr ow fi ft mt sg D MP FH) (hmt : MtOk mt) (hok : WoOk tb pr ow fi) (ht : t < 12) (hh : R 6 = some (b + 1)) (hb : b + 1 ≤ 5) (hn : n < 6) (hpt : ¬ part pr (R (7 + b)) (some (10 + n)) = true) (hT : ∀ σ', KB σ0 mt σ' (6) t m p (R) (V) (fs) (H) su dt dq aw → P (.inl (some (.int (nI 4)))) σ') : jl_mE l G m_Ma_actOnStack [.ref 13, .int (nI 15), .int (nI n)] σ P := by
  obtain ⟨uw, ps, ty, va, hX, u1, u2, t1, t2, hS, hx, hto, hF⟩ := id hk
  obtain ⟨s0, s1, s2, s3⟩ := id hS
  obtain ⟨⟨⟨a, hma, hua⟩, hps, hty, hva⟩, hfs, hln, hob⟩ := id hx
  have hma : mt m = some a := hma
  have hps : ps t = p := hps
  have hty : ∀ j, j < _ → ty (t * 12 + j) = R j := hty
  have hva : ∀ j, j < _ → j ≠ 6 → va (t * 12 + j) = V j := hva
  have hRo := hx.rob
  have hw := (hwx.fr hF hmt).1
  obtain ⟨hW, h2, h3, h4, h5w, h6w, h7⟩ := id hw
  refine jl_ofE (as := [.ref 13, .int (nI 15), .int (nI n)]) rfl (by decide) hl (jl_cc rfl (jl_cc rfl (jl_cc rfl jl_ca))) (Nat.le_of_ble_eq_true rfl) ?_
  show jl_E l G m_Ma_actOnStack (0, 0) 0 [some (.ref 13), some (.int (nI 15)), some (.int (nI n)), none, none] [] (σ) P
  refine er_iload_n d_Ma_actOnStack_0 rfl ?_
  refine er_tableIn (off := 252) 253 d_Ma_actOnStack_1 (by decide +kernel) (by decide +kernel) (by decide +kernel) (by decide) ?_
  refine er_aload_n d_Ma_actOnStack_253 rfl ?_
  refine er_iload_n d_Ma_actOnStack_254 rfl ?_
  refine er_iload_n d_Ma_actOnStack_255 rfl ?_
  refine er_callVE (As := [.int (nI 15), .int (nI n)]) d_Ma_actOnStack_256 k_Ma_actOnStack_161 hX rfl rfl rfl (Nat.le_of_ble_eq_true rfl) (by decide) (by decide) (ma_obj_15n hl hk hwx hmt hok ht hh hb hn hpt (fun σ hk => ⟨_, rfl, ?_⟩))
  show jl_E l G m_Ma_actOnStack (0, 0) 259 [some (.ref 13), some (.int (nI 15)), some (.int (nI n)), none, none] [.int (nI 4)] (σ) P
  exact er_iret d_Ma_actOnStack_259 rfl (hT _ hk) (by decide) (by decide)
theorem d_Ma_actOnObject_108 : decode m_Ma_actOnObject.2.1 108 = .ok (.aload_n 0, 1) := by decide +kernel
theorem d_Ma_actOnObject_109 : decode m_Ma_actOnObject.2.1 109 = .ok (.getfield 31, 3) := by decide +kernel
theorem d_Ma_actOnObject_112 : decode m_Ma_actOnObject.2.1 112 = .ok (.aload_n 0, 1) := by decide +kernel
theorem d_Ma_actOnObject_113 : decode m_Ma_actOnObject.2.1 113 = .ok (.invokevirtual 121, 3) := by decide +kernel
theorem d_Ma_actOnObject_116 : decode m_Ma_actOnObject.2.1 116 = .ok (.iaload, 1) := by decide +kernel
theorem d_Ma_actOnObject_117 : decode m_Ma_actOnObject.2.1 117 = .ok (.istore 4, 2) := by decide +kernel
theorem d_Ma_actOnObject_119 : decode m_Ma_actOnObject.2.1 119 = .ok (.aload_n 0, 1) := by decide +kernel
theorem d_Ma_actOnObject_120 : decode m_Ma_actOnObject.2.1 120 = .ok (.getfield 31, 3) := by decide +kernel
theorem d_Ma_actOnObject_123 : decode m_Ma_actOnObject.2.1 123 = .ok (.aload_n 0, 1) := by decide +kernel
theorem d_Ma_actOnObject_124 : decode m_Ma_actOnObject.2.1 124 = .ok (.invokevirtual 121, 3) := by decide +kernel
theorem d_Ma_actOnObject_127 : decode m_Ma_actOnObject.2.1 127 = .ok (.iaload, 1) := by decide +kernel
theorem d_Ma_actOnObject_128 : decode m_Ma_actOnObject.2.1 128 = .ok (.istore 5, 2) := by decide +kernel
theorem d_Ma_actOnObject_130 : decode m_Ma_actOnObject.2.1 130 = .ok (.aload_n 0, 1) := by decide +kernel
theorem d_Ma_actOnObject_131 : decode m_Ma_actOnObject.2.1 131 = .ok (.iconst 0, 1) := by decide +kernel
theorem d_Ma_actOnObject_132 : decode m_Ma_actOnObject.2.1 132 = .ok (.iload 5, 2) := by decide +kernel
theorem d_Ma_actOnObject_134 : decode m_Ma_actOnObject.2.1 134 = .ok (.iload 4, 2) := by decide +kernel
theorem d_Ma_actOnObject_136 : decode m_Ma_actOnObject.2.1 136 = .ok (.if_icmp .ne 7, 3) := by decide +kernel
theorem d_Ma_actOnObject_139 : decode m_Ma_actOnObject.2.1 139 = .ok (.iconst 1, 1) := by decide +kernel
theorem d_Ma_actOnObject_140 : decode m_Ma_actOnObject.2.1 140 = .ok (.goto 4, 3) := by decide +kernel
theorem d_Ma_actOnObject_144 : decode m_Ma_actOnObject.2.1 144 = .ok (.invokevirtual 133, 3) := by decide +kernel
theorem d_Ma_actOnObject_147 : decode m_Ma_actOnObject.2.1 147 = .ok (.iconst 0, 1) := by decide +kernel
theorem d_Ma_actOnObject_148 : decode m_Ma_actOnObject.2.1 148 = .ok (.ireturn, 1) := by decide +kernel
theorem ma_obj_25e (hl : l.stackTraces = false) {P : jl_O → jl_S → Prop}  (hk : KB σ0 mt σ (7 + (b + 2)) t m p (R) (V) (fs) (H) su dt dq aw) (ht : t < 12) (hh : R 6 = some (b + 2)) (hb : b + 2 ≤ 5) (he : V (7 + b) = V (8 + b)) (hT : ∀ σ', KB σ0 mt σ' (8 + b) t m p (psh R b (some 0)) (va_up V (7 + b) (nI 1)) (fs) (H) su dt dq aw → P (.inl (some (.int (nI 0)))) σ') : jl_mE l G m_Ma_actOnObject [.ref 13, .int (nI 25), .int (x)] σ P := by
  obtain ⟨uw, ps, ty, va, hX, u1, u2, t1, t2, hS, hx, hto, hF⟩ := id hk
  obtain ⟨s0, s1, s2, s3⟩ := id hS
  obtain ⟨⟨⟨a, hma, hua⟩, hps, hty, hva⟩, hfs, hln, hob⟩ := id hx
  have hma : mt m = some a := hma
  have hps : ps t = p := hps
  have hty : ∀ j, j < _ → ty (t * 12 + j) = R j := hty
  have hva : ∀ j, j < _ → j ≠ 6 → va (t * 12 + j) = V j := hva
  have hRo := hx.rob
  have hh6 : ty (t * 12 + 6) = some (b + 2) := (hty 6 (by omega)).trans hh
  have hT0 : ty (t * 12 + 7 + b) = R (7 + b) := by rw [show t * 12 + 7 + b = t * 12 + (7 + b) by omega]; exact hty _ (by omega)
  have hV0 : va (t * 12 + 7 + b) = V (7 + b) := by rw [show t * 12 + 7 + b = t * 12 + (7 + b) by omega]; exact hva _ (by omega) (by omega)
  have hT1 : ty (t * 12 + 7 + (b + 1)) = R (8 + b) := by rw [show t * 12 + 7 + (b + 1) = t * 12 + (8 + b) by omega]; exact hty _ (by omega)
  have hV1 : va (t * 12 + 7 + (b + 1)) = V (8 + b) := by rw [show t * 12 + 7 + (b + 1) = t * 12 + (8 + b) by omega]; exact hva _ (by omega) (by omega)
  refine jl_ofE (as := [.ref 13, .int (nI 25), .int (x)]) rfl (by decide) hl (jl_cc rfl (jl_cc rfl (jl_cc rfl jl_ca))) (Nat.le_of_ble_eq_true rfl) ?_
  show jl_E l G m_Ma_actOnObject (0, 0) 0 [some (.ref 13), some (.int (nI 25)), some (.int (x)), none, none, none] [] (σ) P
  refine er_iload_n d_Ma_actOnObject_0 rfl ?_
  refine er_tableOut 108 d_Ma_actOnObject_1 (by decide +kernel) (by decide) ?_
  refine er_aload_n d_Ma_actOnObject_108 rfl ?_
  refine er_getf d_Ma_actOnObject_109 f_Ma_actOnObject_31 hX rfl ?_
  refine er_aload_n d_Ma_actOnObject_112 rfl ?_
  refine er_callV (As := []) d_Ma_actOnObject_113 k_Ma_actOnObject_121 hX rfl rfl rfl (Nat.le_of_ble_eq_true rfl) (by decide) (by decide) (ma_takeA (h := b + 1) hl hX t1 t2 ht hh6 (by omega)) ?_
  show jl_E l G m_Ma_actOnObject (0, 0) 116 [some (.ref 13), some (.int (nI 25)), some (.int (x)), none, none, none] [.int (nI (t * 12 + 7 + (b + 1))), .ref 21] (σ.set (20) (.inl (0, 144, .inl (fun j => en ((va_up ty (t * 12 + 6) (some (b + 1))) j))))) P
  refine er_ialdQ (v := (V (8 + b))) d_Ma_actOnObject_116 (jl_sn (by decide) t2) (by omega) (by omega) (hV1) ?_
  refine er_istore d_Ma_actOnObject_117 (by decide) ?_
  show jl_E l G m_Ma_actOnObject (0, 0) 119 [some (.ref 13), some (.int (nI 25)), some (.int (x)), none, some (.int (V (8 + b))), none] [] (σ.set (20) (.inl (0, 144, .inl (fun j => en ((va_up ty (t * 12 + 6) (some (b + 1))) j))))) P
  refine er_aload_n d_Ma_actOnObject_119 rfl ?_
  refine er_getf d_Ma_actOnObject_120 f_Ma_actOnObject_31 (jl_sn (by decide) hX) rfl ?_
  refine er_aload_n d_Ma_actOnObject_123 rfl ?_
  refine er_callV (As := []) d_Ma_actOnObject_124 k_Ma_actOnObject_121 (jl_sn (by decide) hX) rfl rfl rfl (Nat.le_of_ble_eq_true rfl) (by decide) (by decide) (ma_takeA (h := b) hl (jl_sn (by decide) hX) (jl_ss t1) (jl_sn (by decide) t2) ht (va_up_self _ _ _) (by omega)) ?_
  show jl_E l G m_Ma_actOnObject (0, 0) 127 [some (.ref 13), some (.int (nI 25)), some (.int (x)), none, some (.int (V (8 + b))), none] [.int (nI (t * 12 + 7 + b)), .ref 21] ((σ.set (20) (.inl (0, 144, .inl (fun j => en ((va_up ty (t * 12 + 6) (some (b + 1))) j))))).set (20) (.inl (0, 144, .inl (fun j => en ((va_up (va_up ty (t * 12 + 6) (some (b + 1))) (t * 12 + 6) (some (b))) j))))) P
  refine er_ialdQ (v := (V (7 + b))) d_Ma_actOnObject_127 (jl_sn (by decide) (jl_sn (by decide) t2)) (by omega) (by omega) (hV0) ?_
  refine er_istore d_Ma_actOnObject_128 (by decide) ?_
  show jl_E l G m_Ma_actOnObject (0, 0) 130 [some (.ref 13), some (.int (nI 25)), some (.int (x)), none, some (.int (V (8 + b))), some (.int (V (7 + b)))] [] ((σ.set (20) (.inl (0, 144, .inl (fun j => en ((va_up ty (t * 12 + 6) (some (b + 1))) j))))).set (20) (.inl (0, 144, .inl (fun j => en ((va_up (va_up ty (t * 12 + 6) (some (b + 1))) (t * 12 + 6) (some (b))) j))))) P
  refine er_aload_n d_Ma_actOnObject_130 rfl ?_
  refine er_iconst ((nI (0))) d_Ma_actOnObject_131 (by decide) ?_
  refine er_iload d_Ma_actOnObject_132 rfl ?_
  refine er_iload d_Ma_actOnObject_134 rfl ?_
  refine er_icmp_ne 143 d_Ma_actOnObject_136 (by decide) (fun z => absurd (he) z) (fun _ => ?_)
  refine er_iconst ((nI (1))) d_Ma_actOnObject_139 (by decide) ?_
  refine er_goto 144 d_Ma_actOnObject_140 (by decide) ?_
  refine er_callV (As := [.int (nI 0), .int (nI 1)]) d_Ma_actOnObject_144 k_Ma_actOnObject_133 (jl_sn (by decide) (jl_sn (by decide) hX)) rfl rfl rfl (Nat.le_of_ble_eq_true rfl) (by decide) (by decide) (ma_put (h := b) (y := (some (0))) (v := (nI (1))) hl (jl_sn (by decide) (jl_sn (by decide) hX)) (jl_ss (jl_ss t1)) (jl_sn (by decide) (jl_sn (by decide) t2)) ht (va_up_self _ _ _) (by omega)) ?_
  show jl_E l G m_Ma_actOnObject (0, 0) 147 [some (.ref 13), some (.int (nI 25)), some (.int (x)), none, some (.int (V (8 + b))), some (.int (V (7 + b)))] [] (((((σ.set (20) (.inl (0, 144, .inl (fun j => en ((va_up ty (t * 12 + 6) (some (b + 1))) j))))).set (20) (.inl (0, 144, .inl (fun j => en ((va_up (va_up ty (t * 12 + 6) (some (b + 1))) (t * 12 + 6) (some (b))) j))))).set (20) (.inl (0, 144, .inl (fun j => en ((va_up (va_up (va_up ty (t * 12 + 6) (some (b + 1))) (t * 12 + 6) (some (b))) (t * 12 + 7 + b) (some (0))) j))))).set (21) (.inl (0, 144, .inl (upd va (t * 12 + 7 + b) (nI (1)))))).set (20) (.inl (0, 144, .inl (fun j => en ((va_up (va_up (va_up (va_up ty (t * 12 + 6) (some (b + 1))) (t * 12 + 6) (some (b))) (t * 12 + 7 + b) (some (0))) (t * 12 + 6) (some (b + 1))) j))))) P
  refine er_iconst ((nI (0))) d_Ma_actOnObject_147 (by decide) ?_
  exact er_iret d_Ma_actOnObject_148 rfl (hT _ ⟨_, _, _, _, (jl_sn (by decide) (jl_sn (by decide) (jl_sn (by decide) (jl_sn (by decide) (jl_sn (by decide) hX))))), (jl_sn (by decide) (jl_sn (by decide) (jl_sn (by decide) (jl_sn (by decide) (jl_sn (by decide) u1))))), (jl_sn (by decide) (jl_sn (by decide) (jl_sn (by decide) (jl_sn (by decide) (jl_sn (by decide) u2))))), (jl_ss (jl_sn (by decide) (jl_ss (jl_ss (jl_ss t1))))), (jl_sn (by decide) (jl_ss (jl_sn (by decide) (jl_sn (by decide) (jl_sn (by decide) t2))))), ⟨(jl_sn (by decide) (jl_sn (by decide) (jl_sn (by decide) (jl_sn (by decide) (jl_sn (by decide) s0))))), (jl_sn (by decide) (jl_sn (by decide) (jl_sn (by decide) (jl_sn (by decide) (jl_sn (by decide) s1))))), (jl_sn (by decide) (jl_sn (by decide) (jl_sn (by decide) (jl_sn (by decide) (jl_sn (by decide) s2))))), (jl_sn (by decide) (jl_sn (by decide) (jl_sn (by decide) (jl_sn (by decide) (jl_sn (by decide) s3)))))⟩, ((((((((hx).six (y := some (b + 1)) (ob_s (by omega)))).six (y := some (b)) (ob_s (by omega)))).put (i := b) (y := (some (0))) (v := (nI (1))) (by omega) (by omega) (ob_s (by omega)))).cc (by first | rfl | simp only [psh_six, six_six]) (by first | rfl | simp only [psh_six, six_six])), hto, (((((hF.set (by omega)).set (by omega)).set (by omega)).set (by omega)).set (by omega))⟩) (by decide) (by decide)
theorem ma_act_25e (hl : l.stackTraces = false) {P : jl_O → jl_S → Prop}  (hk : KB σ0 mt σ (7 + (b + 2)) t m p (R) (V) (fs) (H) su dt dq aw) (ht : t < 12) (hh : R 6 = some (b + 2)) (hb : b + 2 ≤ 5) (he : V (7 + b) = V (8 + b)) (hT : ∀ σ', KB σ0 mt σ' (8 + b) t m p (psh R b (some 0)) (va_up V (7 + b) (nI 1)) (fs) (H) su dt dq aw → P (.inl (some (.int (nI 0)))) σ') : jl_mE l G m_Ma_actOnStack [.ref 13, .int (nI 25), .int (x)] σ P := by
  obtain ⟨uw, ps, ty, va, hX, u1, u2, t1, t2, hS, hx, hto, hF⟩ := id hk
  obtain ⟨s0, s1, s2, s3⟩ := id hS
  obtain ⟨⟨⟨a, hma, hua⟩, hps, hty, hva⟩, hfs, hln, hob⟩ := id hx
  have hma : mt m = some a := hma
  have hps : ps t = p := hps
  have hty : ∀ j, j < _ → ty (t * 12 + j) = R j := hty
  have hva : ∀ j, j < _ → j ≠ 6 → va (t * 12 + j) = V j := hva
  have hRo := hx.rob
  refine jl_ofE (as := [.ref 13, .int (nI 25), .int (x)]) rfl (by decide) hl (jl_cc rfl (jl_cc rfl (jl_cc rfl jl_ca))) (Nat.le_of_ble_eq_true rfl) ?_
  show jl_E l G m_Ma_actOnStack (0, 0) 0 [some (.ref 13), some (.int (nI 25)), some (.int (x)), none, none] [] (σ) P
  refine er_iload_n d_Ma_actOnStack_0 rfl ?_
  refine er_tableOut 253 d_Ma_actOnStack_1 (by decide +kernel) (by decide) ?_
  refine er_aload_n d_Ma_actOnStack_253 rfl ?_
  refine er_iload_n d_Ma_actOnStack_254 rfl ?_
  refine er_iload_n d_Ma_actOnStack_255 rfl ?_
  refine er_callVE (As := [.int (nI 25), .int (x)]) d_Ma_actOnStack_256 k_Ma_actOnStack_161 hX rfl rfl rfl (Nat.le_of_ble_eq_true rfl) (by decide) (by decide) (ma_obj_25e hl hk ht hh hb he (fun σ hk => ⟨_, rfl, ?_⟩))
  show jl_E l G m_Ma_actOnStack (0, 0) 259 [some (.ref 13), some (.int (nI 25)), some (.int (x)), none, none] [.int (nI 0)] (σ) P
  exact er_iret d_Ma_actOnStack_259 rfl (hT _ hk) (by decide) (by decide)
theorem d_Ma_actOnObject_143 : decode m_Ma_actOnObject.2.1 143 = .ok (.iconst 0, 1) := by decide +kernel
theorem ma_obj_25d (hl : l.stackTraces = false) {P : jl_O → jl_S → Prop}  (hk : KB σ0 mt σ (7 + (b + 2)) t m p (R) (V) (fs) (H) su dt dq aw) (ht : t < 12) (hh : R 6 = some (b + 2)) (hb : b + 2 ≤ 5) (he : ¬ V (7 + b) = V (8 + b)) (hT : ∀ σ', KB σ0 mt σ' (8 + b) t m p (psh R b (some 0)) (va_up V (7 + b) (nI 0)) (fs) (H) su dt dq aw → P (.inl (some (.int (nI 0)))) σ') : jl_mE l G m_Ma_actOnObject [.ref 13, .int (nI 25), .int (x)] σ P := by
  obtain ⟨uw, ps, ty, va, hX, u1, u2, t1, t2, hS, hx, hto, hF⟩ := id hk
  obtain ⟨s0, s1, s2, s3⟩ := id hS
  obtain ⟨⟨⟨a, hma, hua⟩, hps, hty, hva⟩, hfs, hln, hob⟩ := id hx
  have hma : mt m = some a := hma
  have hps : ps t = p := hps
  have hty : ∀ j, j < _ → ty (t * 12 + j) = R j := hty
  have hva : ∀ j, j < _ → j ≠ 6 → va (t * 12 + j) = V j := hva
  have hRo := hx.rob
  have hh6 : ty (t * 12 + 6) = some (b + 2) := (hty 6 (by omega)).trans hh
  have hT0 : ty (t * 12 + 7 + b) = R (7 + b) := by rw [show t * 12 + 7 + b = t * 12 + (7 + b) by omega]; exact hty _ (by omega)
  have hV0 : va (t * 12 + 7 + b) = V (7 + b) := by rw [show t * 12 + 7 + b = t * 12 + (7 + b) by omega]; exact hva _ (by omega) (by omega)
  have hT1 : ty (t * 12 + 7 + (b + 1)) = R (8 + b) := by rw [show t * 12 + 7 + (b + 1) = t * 12 + (8 + b) by omega]; exact hty _ (by omega)
  have hV1 : va (t * 12 + 7 + (b + 1)) = V (8 + b) := by rw [show t * 12 + 7 + (b + 1) = t * 12 + (8 + b) by omega]; exact hva _ (by omega) (by omega)
  refine jl_ofE (as := [.ref 13, .int (nI 25), .int (x)]) rfl (by decide) hl (jl_cc rfl (jl_cc rfl (jl_cc rfl jl_ca))) (Nat.le_of_ble_eq_true rfl) ?_
  show jl_E l G m_Ma_actOnObject (0, 0) 0 [some (.ref 13), some (.int (nI 25)), some (.int (x)), none, none, none] [] (σ) P
  refine er_iload_n d_Ma_actOnObject_0 rfl ?_
  refine er_tableOut 108 d_Ma_actOnObject_1 (by decide +kernel) (by decide) ?_
  refine er_aload_n d_Ma_actOnObject_108 rfl ?_
  refine er_getf d_Ma_actOnObject_109 f_Ma_actOnObject_31 hX rfl ?_
  refine er_aload_n d_Ma_actOnObject_112 rfl ?_
  refine er_callV (As := []) d_Ma_actOnObject_113 k_Ma_actOnObject_121 hX rfl rfl rfl (Nat.le_of_ble_eq_true rfl) (by decide) (by decide) (ma_takeA (h := b + 1) hl hX t1 t2 ht hh6 (by omega)) ?_
  show jl_E l G m_Ma_actOnObject (0, 0) 116 [some (.ref 13), some (.int (nI 25)), some (.int (x)), none, none, none] [.int (nI (t * 12 + 7 + (b + 1))), .ref 21] (σ.set (20) (.inl (0, 144, .inl (fun j => en ((va_up ty (t * 12 + 6) (some (b + 1))) j))))) P
  refine er_ialdQ (v := (V (8 + b))) d_Ma_actOnObject_116 (jl_sn (by decide) t2) (by omega) (by omega) (hV1) ?_
  refine er_istore d_Ma_actOnObject_117 (by decide) ?_
  show jl_E l G m_Ma_actOnObject (0, 0) 119 [some (.ref 13), some (.int (nI 25)), some (.int (x)), none, some (.int (V (8 + b))), none] [] (σ.set (20) (.inl (0, 144, .inl (fun j => en ((va_up ty (t * 12 + 6) (some (b + 1))) j))))) P
  refine er_aload_n d_Ma_actOnObject_119 rfl ?_
  refine er_getf d_Ma_actOnObject_120 f_Ma_actOnObject_31 (jl_sn (by decide) hX) rfl ?_
  refine er_aload_n d_Ma_actOnObject_123 rfl ?_
  refine er_callV (As := []) d_Ma_actOnObject_124 k_Ma_actOnObject_121 (jl_sn (by decide) hX) rfl rfl rfl (Nat.le_of_ble_eq_true rfl) (by decide) (by decide) (ma_takeA (h := b) hl (jl_sn (by decide) hX) (jl_ss t1) (jl_sn (by decide) t2) ht (va_up_self _ _ _) (by omega)) ?_
  show jl_E l G m_Ma_actOnObject (0, 0) 127 [some (.ref 13), some (.int (nI 25)), some (.int (x)), none, some (.int (V (8 + b))), none] [.int (nI (t * 12 + 7 + b)), .ref 21] ((σ.set (20) (.inl (0, 144, .inl (fun j => en ((va_up ty (t * 12 + 6) (some (b + 1))) j))))).set (20) (.inl (0, 144, .inl (fun j => en ((va_up (va_up ty (t * 12 + 6) (some (b + 1))) (t * 12 + 6) (some (b))) j))))) P
  refine er_ialdQ (v := (V (7 + b))) d_Ma_actOnObject_127 (jl_sn (by decide) (jl_sn (by decide) t2)) (by omega) (by omega) (hV0) ?_
  refine er_istore d_Ma_actOnObject_128 (by decide) ?_
  show jl_E l G m_Ma_actOnObject (0, 0) 130 [some (.ref 13), some (.int (nI 25)), some (.int (x)), none, some (.int (V (8 + b))), some (.int (V (7 + b)))] [] ((σ.set (20) (.inl (0, 144, .inl (fun j => en ((va_up ty (t * 12 + 6) (some (b + 1))) j))))).set (20) (.inl (0, 144, .inl (fun j => en ((va_up (va_up ty (t * 12 + 6) (some (b + 1))) (t * 12 + 6) (some (b))) j))))) P
  refine er_aload_n d_Ma_actOnObject_130 rfl ?_
  refine er_iconst ((nI (0))) d_Ma_actOnObject_131 (by decide) ?_
  refine er_iload d_Ma_actOnObject_132 rfl ?_
  refine er_iload d_Ma_actOnObject_134 rfl ?_
  refine er_icmp_ne 143 d_Ma_actOnObject_136 (by decide) (fun _ => ?_) (fun z => absurd z (he))
  refine er_iconst ((nI (0))) d_Ma_actOnObject_143 (by decide) ?_
  refine er_callV (As := [.int (nI 0), .int (nI 0)]) d_Ma_actOnObject_144 k_Ma_actOnObject_133 (jl_sn (by decide) (jl_sn (by decide) hX)) rfl rfl rfl (Nat.le_of_ble_eq_true rfl) (by decide) (by decide) (ma_put (h := b) (y := (some (0))) (v := (nI (0))) hl (jl_sn (by decide) (jl_sn (by decide) hX)) (jl_ss (jl_ss t1)) (jl_sn (by decide) (jl_sn (by decide) t2)) ht (va_up_self _ _ _) (by omega)) ?_
  show jl_E l G m_Ma_actOnObject (0, 0) 147 [some (.ref 13), some (.int (nI 25)), some (.int (x)), none, some (.int (V (8 + b))), some (.int (V (7 + b)))] [] (((((σ.set (20) (.inl (0, 144, .inl (fun j => en ((va_up ty (t * 12 + 6) (some (b + 1))) j))))).set (20) (.inl (0, 144, .inl (fun j => en ((va_up (va_up ty (t * 12 + 6) (some (b + 1))) (t * 12 + 6) (some (b))) j))))).set (20) (.inl (0, 144, .inl (fun j => en ((va_up (va_up (va_up ty (t * 12 + 6) (some (b + 1))) (t * 12 + 6) (some (b))) (t * 12 + 7 + b) (some (0))) j))))).set (21) (.inl (0, 144, .inl (upd va (t * 12 + 7 + b) (nI (0)))))).set (20) (.inl (0, 144, .inl (fun j => en ((va_up (va_up (va_up (va_up ty (t * 12 + 6) (some (b + 1))) (t * 12 + 6) (some (b))) (t * 12 + 7 + b) (some (0))) (t * 12 + 6) (some (b + 1))) j))))) P
  refine er_iconst ((nI (0))) d_Ma_actOnObject_147 (by decide) ?_
  exact er_iret d_Ma_actOnObject_148 rfl (hT _ ⟨_, _, _, _, (jl_sn (by decide) (jl_sn (by decide) (jl_sn (by decide) (jl_sn (by decide) (jl_sn (by decide) hX))))), (jl_sn (by decide) (jl_sn (by decide) (jl_sn (by decide) (jl_sn (by decide) (jl_sn (by decide) u1))))), (jl_sn (by decide) (jl_sn (by decide) (jl_sn (by decide) (jl_sn (by decide) (jl_sn (by decide) u2))))), (jl_ss (jl_sn (by decide) (jl_ss (jl_ss (jl_ss t1))))), (jl_sn (by decide) (jl_ss (jl_sn (by decide) (jl_sn (by decide) (jl_sn (by decide) t2))))), ⟨(jl_sn (by decide) (jl_sn (by decide) (jl_sn (by decide) (jl_sn (by decide) (jl_sn (by decide) s0))))), (jl_sn (by decide) (jl_sn (by decide) (jl_sn (by decide) (jl_sn (by decide) (jl_sn (by decide) s1))))), (jl_sn (by decide) (jl_sn (by decide) (jl_sn (by decide) (jl_sn (by decide) (jl_sn (by decide) s2))))), (jl_sn (by decide) (jl_sn (by decide) (jl_sn (by decide) (jl_sn (by decide) (jl_sn (by decide) s3)))))⟩, ((((((((hx).six (y := some (b + 1)) (ob_s (by omega)))).six (y := some (b)) (ob_s (by omega)))).put (i := b) (y := (some (0))) (v := (nI (0))) (by omega) (by omega) (ob_s (by omega)))).cc (by first | rfl | simp only [psh_six, six_six]) (by first | rfl | simp only [psh_six, six_six])), hto, (((((hF.set (by omega)).set (by omega)).set (by omega)).set (by omega)).set (by omega))⟩) (by decide) (by decide)
theorem ma_act_25d (hl : l.stackTraces = false) {P : jl_O → jl_S → Prop}  (hk : KB σ0 mt σ (7 + (b + 2)) t m p (R) (V) (fs) (H) su dt dq aw) (ht : t < 12) (hh : R 6 = some (b + 2)) (hb : b + 2 ≤ 5) (he : ¬ V (7 + b) = V (8 + b)) (hT : ∀ σ', KB σ0 mt σ' (8 + b) t m p (psh R b (some 0)) (va_up V (7 + b) (nI 0)) (fs) (H) su dt dq aw → P (.inl (some (.int (nI 0)))) σ') : jl_mE l G m_Ma_actOnStack [.ref 13, .int (nI 25), .int (x)] σ P := by
  obtain ⟨uw, ps, ty, va, hX, u1, u2, t1, t2, hS, hx, hto, hF⟩ := id hk
  obtain ⟨s0, s1, s2, s3⟩ := id hS
  obtain ⟨⟨⟨a, hma, hua⟩, hps, hty, hva⟩, hfs, hln, hob⟩ := id hx
  have hma : mt m = some a := hma
  have hps : ps t = p := hps
  have hty : ∀ j, j < _ → ty (t * 12 + j) = R j := hty
  have hva : ∀ j, j < _ → j ≠ 6 → va (t * 12 + j) = V j := hva
  have hRo := hx.rob
  refine jl_ofE (as := [.ref 13, .int (nI 25), .int (x)]) rfl (by decide) hl (jl_cc rfl (jl_cc rfl (jl_cc rfl jl_ca))) (Nat.le_of_ble_eq_true rfl) ?_
  show jl_E l G m_Ma_actOnStack (0, 0) 0 [some (.ref 13), some (.int (nI 25)), some (.int (x)), none, none] [] (σ) P
  refine er_iload_n d_Ma_actOnStack_0 rfl ?_
  refine er_tableOut 253 d_Ma_actOnStack_1 (by decide +kernel) (by decide) ?_
  refine er_aload_n d_Ma_actOnStack_253 rfl ?_
  refine er_iload_n d_Ma_actOnStack_254 rfl ?_
  refine er_iload_n d_Ma_actOnStack_255 rfl ?_
  refine er_callVE (As := [.int (nI 25), .int (x)]) d_Ma_actOnStack_256 k_Ma_actOnStack_161 hX rfl rfl rfl (Nat.le_of_ble_eq_true rfl) (by decide) (by decide) (ma_obj_25d hl hk ht hh hb he (fun σ hk => ⟨_, rfl, ?_⟩))
  show jl_E l G m_Ma_actOnStack (0, 0) 259 [some (.ref 13), some (.int (nI 25)), some (.int (x)), none, none] [.int (nI 0)] (σ) P
  exact er_iret d_Ma_actOnStack_259 rfl (hT _ hk) (by decide) (by decide)
end JMd
