/-! the class Machine: carryOn (wip/gen/p97yc.py) -/
section JMyc
variable {l : Launch} {G : jl_G} {σ : jl_S}
variable {tb : Nat → Bool} {pr : Nat → Option Nat} {ow fi ft : Nat → Nat} {mt : Nat → Option Nat}
variable {hs : Nat → Bool} {σ0 : jl_S} {f : Fm} {fs : List Fm} {H : Hp} {su dt dq aw tp : Int32} {sg : Int32 → Option Sg} {D : Nat → MDt} {MP : Nat → Nat → Int32} {FH : Nat → Nat → Bool} {W : Nat → Nat → Option Rw} {gd : Bool} {n d how : Nat}
section JCkE
variable {l : Launch} {G : jl_G} {σ : jl_S}
variable {tb : Nat → Bool} {pr : Nat → Option Nat} {ow fi ft : Nat → Nat} {mt : Nat → Option Nat}
variable {a : Nat} {q1 q2 : Option Nat} {rs : Nat} {op : Nat → Nat} {ag : Nat → Int32} {sz : Nat} {fr tt tg kd : Nat → Nat} {nc : Nat} {mp : Nat → Int32} {fh : Nat → Bool}
variable {sg : Int32 → Option Sg} {rr N : Nat} {ty : Nat → Option Nat}
theorem ck_firstE (hl : l.stackTraces = false) {pc at_ h : Nat} (hc : CkAt σ) (hw : WoAt σ tb pr ow fi ft mt) (hm : MeAt σ a q1 q2 rs op ag sz fr tt tg kd nc mp fh) (hok : WoOk tb pr ow fi) (hsg : SgC σ tb pr mt sg) (hR : σ[rr]? = some (.inl (0, N, .inl fun j => en (ty j)))) (hN : N ≤ 144) (hty : ∀ j, ob 16 (ty j)) (hop : op pc < 26) (hpc : pc < 24) (hsz : sz ≤ 24) (hnc : nc ≤ 2) (hcf : ∀ i, i < 2 → fr i < 100 ∧ tt i < 100 ∧ tg i < 24 ∧ kd i < 7) (hat : at_ + 12 ≤ N) (hh : ty (at_ + 6) = some h) (hh5 : h ≤ 5) (hft : ∀ k f, fty pr fi ft k f < 16) (hrs : rs < 16) {q : Nat} (hq : flt tb pr ow fi ft sg (op pc) (ag pc) sz fr tt tg kd nc rs pc (fun j => ty (at_ + j)) h = q) : jl_m l G m_Ck_firstFault [.ref 8, .ref a, .int (nI pc), .ref rr, .int (nI (at_))] σ (.inl (some (.int (nI q)))) (σ) := hq ▸ ck_first hl hc hw hm hok hsg hR hN hty hop hpc hsz hnc hcf hat hh hh5 hft hrs
end JCkE

theorem d_Ma_carryOn_5 : decode m_Ma_carryOn.2.1 5 = .ok (.aload_n 0, 1) := by decide +kernel
theorem f_Ma_carryOn_44 : jl_fd m_Ma_carryOn 44 1 10 = true := by decide +kernel
theorem d_Ma_carryOn_6 : decode m_Ma_carryOn.2.1 6 = .ok (.getfield 44, 3) := by decide +kernel
theorem d_Ma_carryOn_9 : decode m_Ma_carryOn.2.1 9 = .ok (.iload_n 1, 1) := by decide +kernel
theorem d_Ma_carryOn_10 : decode m_Ma_carryOn.2.1 10 = .ok (.if_icmp .ge 82, 3) := by decide +kernel
theorem d_Ma_carryOn_92 : decode m_Ma_carryOn.2.1 92 = .ok (.aload_n 0, 1) := by decide +kernel
theorem f_Ma_carryOn_38 : jl_fd m_Ma_carryOn 38 1 8 = true := by decide +kernel
theorem d_Ma_carryOn_93 : decode m_Ma_carryOn.2.1 93 = .ok (.getfield 38, 3) := by decide +kernel
theorem d_Ma_carryOn_96 : decode m_Ma_carryOn.2.1 96 = .ok (.bipush 9, 2) := by decide +kernel
theorem d_Ma_carryOn_98 : decode m_Ma_carryOn.2.1 98 = .ok (.if_icmp .ne 9, 3) := by decide +kernel
theorem d_Ma_carryOn_107 : decode m_Ma_carryOn.2.1 107 = .ok (.return_, 1) := by decide +kernel
theorem d_Ma_carryOn_13 : decode m_Ma_carryOn.2.1 13 = .ok (.aload_n 0, 1) := by decide +kernel
theorem d_Ma_carryOn_14 : decode m_Ma_carryOn.2.1 14 = .ok (.getfield 38, 3) := by decide +kernel
theorem d_Ma_carryOn_17 : decode m_Ma_carryOn.2.1 17 = .ok (.bipush 9, 2) := by decide +kernel
theorem d_Ma_carryOn_19 : decode m_Ma_carryOn.2.1 19 = .ok (.if_icmp .ne 73, 3) := by decide +kernel
theorem ma_carry_z (hl : l.stackTraces = false) {P : jl_O → jl_S → Prop}  (hX : MaAt σ tp (nI how) dt (nI d) aw) (hh : how < 9) (hd : d < 2 ^ 31) (hn : n ≤ 400) (hP : P (.inl none) σ) : jl_E l G m_Ma_carryOn (0, 0) 5 [some (.ref 13), some (.int (nI n)), some (.int (bi gd)), none] [] σ P := by
  refine er_aload_n d_Ma_carryOn_5 rfl ?_
  refine er_getf d_Ma_carryOn_6 f_Ma_carryOn_44 hX rfl ?_
  refine er_iload_n d_Ma_carryOn_9 rfl ?_
  refine er_icmp_geN 92 d_Ma_carryOn_10 (by decide) (by omega) (by omega) (fun c1 => ?_) (fun c1 => ?_)
  · refine er_aload_n d_Ma_carryOn_92 rfl ?_
    refine er_getf d_Ma_carryOn_93 f_Ma_carryOn_38 hX rfl ?_
    refine er_bipush ((nI (9))) d_Ma_carryOn_96 (by decide) ?_
    refine er_icmp_ne 107 d_Ma_carryOn_98 (by decide) (fun _ => ?_) (fun z => absurd z ((fun z => by rw [nI_eq (by omega) (by omega)] at z; omega)))
    exact er_vret d_Ma_carryOn_107 rfl (hP) (by decide) (by decide)
  · refine er_aload_n d_Ma_carryOn_13 rfl ?_
    refine er_getf d_Ma_carryOn_14 f_Ma_carryOn_38 hX rfl ?_
    refine er_bipush ((nI (9))) d_Ma_carryOn_17 (by decide) ?_
    refine er_icmp_ne 92 d_Ma_carryOn_19 (by decide) (fun _ => ?_) (fun z => absurd z ((fun z => by rw [nI_eq (by omega) (by omega)] at z; omega)))
    refine er_aload_n d_Ma_carryOn_92 rfl ?_
    refine er_getf d_Ma_carryOn_93 f_Ma_carryOn_38 hX rfl ?_
    refine er_bipush ((nI (9))) d_Ma_carryOn_96 (by decide) ?_
    refine er_icmp_ne 107 d_Ma_carryOn_98 (by decide) (fun _ => ?_) (fun z => absurd z ((fun z => by rw [nI_eq (by omega) (by omega)] at z; omega)))
    exact er_vret d_Ma_carryOn_107 rfl (hP) (by decide) (by decide)
theorem d_Ma_carryOn_101 : decode m_Ma_carryOn.2.1 101 = .ok (.aload_n 0, 1) := by decide +kernel
theorem d_Ma_carryOn_102 : decode m_Ma_carryOn.2.1 102 = .ok (.iconst 5, 1) := by decide +kernel
theorem d_Ma_carryOn_103 : decode m_Ma_carryOn.2.1 103 = .ok (.iconst 0, 1) := by decide +kernel
theorem k_Ma_carryOn_87 : jl_cv m_Ma_carryOn m_Ma_end 87 2 = true := by decide +kernel
theorem d_Ma_carryOn_104 : decode m_Ma_carryOn.2.1 104 = .ok (.invokevirtual 87, 3) := by decide +kernel
theorem d_Ma_carryOn_22 : decode m_Ma_carryOn.2.1 22 = .ok (.iload_n 2, 1) := by decide +kernel
theorem d_Ma_carryOn_23 : decode m_Ma_carryOn.2.1 23 = .ok (.ifCond .eq 52, 3) := by decide +kernel
theorem d_Ma_carryOn_75 : decode m_Ma_carryOn.2.1 75 = .ok (.aload_n 0, 1) := by decide +kernel
theorem k_Ma_carryOn_91 : jl_cv m_Ma_carryOn m_Ma_step 91 0 = true := by decide +kernel
theorem d_Ma_carryOn_76 : decode m_Ma_carryOn.2.1 76 = .ok (.invokevirtual 91, 3) := by decide +kernel
theorem d_Ma_carryOn_79 : decode m_Ma_carryOn.2.1 79 = .ok (.aload_n 0, 1) := by decide +kernel
theorem d_Ma_carryOn_80 : decode m_Ma_carryOn.2.1 80 = .ok (.dup, 1) := by decide +kernel
theorem d_Ma_carryOn_81 : decode m_Ma_carryOn.2.1 81 = .ok (.getfield 44, 3) := by decide +kernel
theorem d_Ma_carryOn_84 : decode m_Ma_carryOn.2.1 84 = .ok (.iconst 1, 1) := by decide +kernel
theorem d_Ma_carryOn_85 : decode m_Ma_carryOn.2.1 85 = .ok (.iadd, 1) := by decide +kernel
theorem p_Ma_carryOn_44 : jl_fp m_Ma_carryOn 44 1 10 = true := by decide +kernel
theorem d_Ma_carryOn_86 : decode m_Ma_carryOn.2.1 86 = .ok (.putfield 44, 3) := by decide +kernel
theorem d_Ma_carryOn_89 : decode m_Ma_carryOn.2.1 89 = .ok (.goto (-84), 3) := by decide +kernel
theorem d_Ma_carryOn_26 : decode m_Ma_carryOn.2.1 26 = .ok (.aload_n 0, 1) := by decide +kernel
theorem f_Ma_carryOn_54 : jl_fd m_Ma_carryOn 54 1 1 = true := by decide +kernel
theorem d_Ma_carryOn_27 : decode m_Ma_carryOn.2.1 27 = .ok (.getfield 54, 3) := by decide +kernel
theorem d_Ma_carryOn_30 : decode m_Ma_carryOn.2.1 30 = .ok (.aload_n 0, 1) := by decide +kernel
theorem f_Ma_carryOn_20 : jl_fd m_Ma_carryOn 20 1 3 = true := by decide +kernel
theorem d_Ma_carryOn_31 : decode m_Ma_carryOn.2.1 31 = .ok (.getfield 20, 3) := by decide +kernel
theorem d_Ma_carryOn_34 : decode m_Ma_carryOn.2.1 34 = .ok (.aload_n 0, 1) := by decide +kernel
theorem f_Ma_carryOn_34 : jl_fd m_Ma_carryOn 34 1 7 = true := by decide +kernel
theorem d_Ma_carryOn_35 : decode m_Ma_carryOn.2.1 35 = .ok (.getfield 34, 3) := by decide +kernel
theorem d_Ma_carryOn_38 : decode m_Ma_carryOn.2.1 38 = .ok (.aaload, 1) := by decide +kernel
theorem d_Ma_carryOn_39 : decode m_Ma_carryOn.2.1 39 = .ok (.aload_n 0, 1) := by decide +kernel
theorem f_Ma_carryOn_24 : jl_fd m_Ma_carryOn 24 1 4 = true := by decide +kernel
theorem d_Ma_carryOn_40 : decode m_Ma_carryOn.2.1 40 = .ok (.getfield 24, 3) := by decide +kernel
theorem d_Ma_carryOn_43 : decode m_Ma_carryOn.2.1 43 = .ok (.aload_n 0, 1) := by decide +kernel
theorem d_Ma_carryOn_44 : decode m_Ma_carryOn.2.1 44 = .ok (.getfield 34, 3) := by decide +kernel
theorem d_Ma_carryOn_47 : decode m_Ma_carryOn.2.1 47 = .ok (.iaload, 1) := by decide +kernel
theorem d_Ma_carryOn_48 : decode m_Ma_carryOn.2.1 48 = .ok (.aload_n 0, 1) := by decide +kernel
theorem f_Ma_carryOn_28 : jl_fd m_Ma_carryOn 28 1 5 = true := by decide +kernel
theorem d_Ma_carryOn_49 : decode m_Ma_carryOn.2.1 49 = .ok (.getfield 28, 3) := by decide +kernel
theorem d_Ma_carryOn_52 : decode m_Ma_carryOn.2.1 52 = .ok (.aload_n 0, 1) := by decide +kernel
theorem d_Ma_carryOn_53 : decode m_Ma_carryOn.2.1 53 = .ok (.getfield 34, 3) := by decide +kernel
theorem d_Ma_carryOn_56 : decode m_Ma_carryOn.2.1 56 = .ok (.bipush 12, 2) := by decide +kernel
theorem d_Ma_carryOn_58 : decode m_Ma_carryOn.2.1 58 = .ok (.imul, 1) := by decide +kernel
theorem k_Ma_carryOn_81 : jl_cv m_Ma_carryOn m_Ck_firstFault 81 4 = true := by decide +kernel
theorem d_Ma_carryOn_59 : decode m_Ma_carryOn.2.1 59 = .ok (.invokevirtual 81, 3) := by decide +kernel
theorem d_Ma_carryOn_62 : decode m_Ma_carryOn.2.1 62 = .ok (.istore_n 3, 1) := by decide +kernel
theorem d_Ma_carryOn_63 : decode m_Ma_carryOn.2.1 63 = .ok (.iload_n 3, 1) := by decide +kernel
theorem d_Ma_carryOn_64 : decode m_Ma_carryOn.2.1 64 = .ok (.ifCond .eq 11, 3) := by decide +kernel
theorem d_Ma_carryOn_67 : decode m_Ma_carryOn.2.1 67 = .ok (.aload_n 0, 1) := by decide +kernel
theorem d_Ma_carryOn_68 : decode m_Ma_carryOn.2.1 68 = .ok (.bipush 8, 2) := by decide +kernel
theorem d_Ma_carryOn_70 : decode m_Ma_carryOn.2.1 70 = .ok (.iload_n 3, 1) := by decide +kernel
theorem d_Ma_carryOn_71 : decode m_Ma_carryOn.2.1 71 = .ok (.invokevirtual 87, 3) := by decide +kernel
theorem d_Ma_carryOn_74 : decode m_Ma_carryOn.2.1 74 = .ok (.return_, 1) := by decide +kernel
theorem ma_carry_l (hl : l.stackTraces = false) {P : jl_O → jl_S → Prop}   (hwx : WX σ0 tb pr ow fi ft mt sg D MP FH) (hmt : MtOk mt) (hok : WoOk tb pr ow fi) (hft : ∀ k f, tyv (some (fty pr fi ft k f))) (hmH : ∀ m, hs m = (mt m).isSome) (hD : ∀ m, m < 24 → hs m = true → MdOk (D m)) (hD2 : ∀ m, mt m ≠ none → MdOk (D m)) (hsg : SgM tb pr hs (fun m => (D m).1) (fun m => (D m).2.1) (fun m => (D m).2.2.1) sg) (hfd : ∀ k sl m2, k < 6 → sl < 4 → mmo pr hs sl 6 (some k) = some m2 → ∃ a2, mt m2 = some a2 ∧ found tb pr mt (nI k) (nI sl) = some a2) (hW : gd = false → FixW tb pr ow fi ft sg hs D W) (hE : SgE pr hs D) (hn : n ≤ 400) : ∀ (nn : Nat) (d : Nat) (σ : jl_S) (f : Fm) (fs : List Fm) (H : Hp) (aw : Int32), n - d < nn → d ≤ n → KB σ0 mt σ (7 + hgt f.R) fs.length f.m f.p f.R f.V fs H (nI 9) (nI 0) (nI d) aw → SF tb pr ow fi ft hs D W gd f fs H → (∀ how what dn an H' aw' σ', mrn tb pr ow fi ft sg hs D gd (n - d) f fs H d = (how, what, dn, an, H') → (∀ v, an = some v → aw' = v) → KZ σ0 σ' H' (nI how) (nI what) (nI dn) aw' → P (.inl none) σ') → jl_E l G m_Ma_carryOn (0, 0) 5 [some (.ref 13), some (.int (nI n)), some (.int (bi gd)), none] [] σ P := by
  intro nn
  induction nn with
  | zero => intro d σ f fs H aw hnn; exact absurd hnn (Nat.not_lt_zero _)
  | succ nn ihn =>
    intro d σ f fs H aw hnn hd hk hsf hT
    obtain ⟨uw, ps, ty, va, hX, u1, u2, t1, t2, hS, hx, hto, hF⟩ := id hk
    obtain ⟨s0, s1, s2, s3⟩ := id hS
    obtain ⟨⟨⟨a, hma, hua⟩, hps, hty, hva⟩, hfs, hln, hob⟩ := id hx
    have hma : mt f.m = some a := hma
    have hps : ps fs.length = f.p := hps
    have hty : ∀ j, j < _ → ty (fs.length * 12 + j) = f.R j := hty
    have hwx1 := hwx.fr hF hmt
    obtain ⟨hW1, h2, h3, h4, h5w, h6w, h7⟩ := id hwx1.1
    have hc8 : CkAt σ := hwx1.2.1
    have hmD := hwx1.2.2.2 f.m a hma
    obtain ⟨hM, g1, g2, g3, g4, g5, g6, g7, g8⟩ := id hmD
    obtain ⟨r1, r2, r3, r4, r5, r6⟩ := hsf.1.2.1
    have hmd := hD f.m r1 r2
    have h12 := hsf.1.2.2.2
    have hh6 : ty (fs.length * 12 + 6) = some (hgt f.R) := (hty 6 (by omega)).trans r4
    refine er_aload_n d_Ma_carryOn_5 rfl ?_
    refine er_getf d_Ma_carryOn_6 f_Ma_carryOn_44 hX rfl ?_
    refine er_iload_n d_Ma_carryOn_9 rfl ?_
    refine er_icmp_geN 92 d_Ma_carryOn_10 (by decide) (by omega) (by omega) (fun c1 => ?_) (fun c1 => ?_)
    · refine er_aload_n d_Ma_carryOn_92 rfl ?_
      refine er_getf d_Ma_carryOn_93 f_Ma_carryOn_38 hX rfl ?_
      refine er_bipush ((nI (9))) d_Ma_carryOn_96 (by decide) ?_
      refine er_icmp_ne 107 d_Ma_carryOn_98 (by decide) (fun z => absurd rfl z) (fun _ => ?_)
      refine er_aload_n d_Ma_carryOn_101 rfl ?_
      refine er_iconst ((nI (5))) d_Ma_carryOn_102 (by decide) ?_
      refine er_iconst ((nI (0))) d_Ma_carryOn_103 (by decide) ?_
      refine er_callV (As := [.int (nI 5), .int (nI 0)]) d_Ma_carryOn_104 k_Ma_carryOn_87 hX rfl rfl rfl (Nat.le_of_ble_eq_true rfl) (by decide) (by decide) (ma_end hl hX) ?_
      show jl_E l G m_Ma_carryOn (0, 0) 107 [some (.ref 13), some (.int (nI n)), some (.int (bi gd)), none] [] (σ.set (13) (.inr (1, [.ref 1, .ref 8, .ref 14, .ref 18, .ref 19, .ref 20, .ref 21, .int (nI (fs.length)), .int (nI 5), .int (nI 0), .int (nI d), .int (aw)]))) P
      exact er_vret d_Ma_carryOn_107 rfl (hT 5 0 d none H aw _ (by rw [show n - d = 0 by omega]; rfl) (fun _ q => by cases q) ⟨_, _, _, _, _, (jl_ss hX), (jl_sn (by decide) u1), (jl_sn (by decide) u2), (jl_sn (by decide) t1), (jl_sn (by decide) t2), ⟨(jl_sn (by decide) s0), (jl_sn (by decide) s1), (jl_sn (by decide) s2), (jl_sn (by decide) s3)⟩, hob, hto, (hF.set (by omega))⟩) (by decide) (by decide)
    · refine er_aload_n d_Ma_carryOn_13 rfl ?_
      refine er_getf d_Ma_carryOn_14 f_Ma_carryOn_38 hX rfl ?_
      refine er_bipush ((nI (9))) d_Ma_carryOn_17 (by decide) ?_
      refine er_icmp_ne 92 d_Ma_carryOn_19 (by decide) (fun z => absurd rfl z) (fun _ => ?_)
      refine er_iload_n d_Ma_carryOn_22 rfl ?_
      refine er_if_eq 75 d_Ma_carryOn_23 (by decide) (fun c2 => ?_) (fun c2 => ?_)
      · have hng : ¬ (gd = true ∧ fltF tb pr ow fi ft sg D f ≠ 0) := fun z => by have q := bi_0.mp c2; rw [q] at z; cases z.1
        have h0 := hsf.flt hok hD hsg hW hng
        refine er_aload_n d_Ma_carryOn_75 rfl ?_
        refine er_callVE (As := []) d_Ma_carryOn_76 k_Ma_carryOn_91 hX rfl rfl rfl (Nat.le_of_ble_eq_true rfl) (by decide) (by decide) (ma_step hl hwx hmt hok hft hmH hD hD2 hsg hfd hsf.1 h0 hk (fun f1 fs1 H1 σ e1 hk1 => ⟨_, rfl, ?_⟩) (fun how what an H1 aw' σ e1 e2 hz1 => ⟨_, rfl, ?_⟩))
        · skip
          obtain ⟨uw1, ps1, ty1, va1, hX, u1, u2, t1, t2, hS, hx, hto, hF⟩ := id hk1
          show jl_E l G m_Ma_carryOn (0, 0) 79 [some (.ref 13), some (.int (nI n)), some (.int (bi gd)), none] [] (σ) P
          refine er_aload_n d_Ma_carryOn_79 rfl ?_
          refine er_dup d_Ma_carryOn_80 rfl ?_
          refine er_getf d_Ma_carryOn_81 f_Ma_carryOn_44 hX rfl ?_
          refine er_iconst ((nI (1))) d_Ma_carryOn_84 (by decide) ?_
          refine er_iaddN d_Ma_carryOn_85 ?_
          refine er_putf d_Ma_carryOn_86 p_Ma_carryOn_44 hX (Nat.le_of_ble_eq_true rfl) jl_fit_int ?_
          show jl_E l G m_Ma_carryOn (0, 0) 89 [some (.ref 13), some (.int (nI n)), some (.int (bi gd)), none] [] (σ.set (13) (.inr (1, [.ref 1, .ref 8, .ref 14, .ref 18, .ref 19, .ref 20, .ref 21, .int (nI (fs1.length)), .int (nI 9), .int (nI 0), .int (nI ((d) + (1))), .int (aw)]))) P
          refine er_goto 5 d_Ma_carryOn_89 (by decide) ?_
          (obtain ⟨f2, fs2, eq2, hsf2⟩ := hsf.step hok hft hD hsg hW hE h0 e1; cases eq2; exact ihn (d + 1) _ f1 fs1 H1 aw (by omega) (by omega) ⟨_, _, _, _, (jl_ss hX), jl_sn (by decide) u1, jl_sn (by decide) u2, jl_sn (by decide) t1, jl_sn (by decide) t2, ⟨jl_sn (by decide) hS.1, jl_sn (by decide) hS.2.1, jl_sn (by decide) hS.2.2.1, jl_sn (by decide) hS.2.2.2⟩, hx, hto, hF.set (by omega)⟩ hsf2 (fun how what dn an H2 aw2 σ2 q => hT how what dn an H2 aw2 σ2 ((show mrn tb pr ow fi ft sg hs D gd (n - d) f fs H d = mrn tb pr ow fi ft sg hs D gd (n - (d + 1)) f1 fs1 H1 (d + 1) from (by rw [show n - d = (n - (d + 1)) + 1 by omega, mrn, if_neg hng, e1])).trans q)))
        · skip
          obtain ⟨tp, uw1, ps1, ty1, va1, hX, u1, u2, t1, t2, hS, hob1, hto, hF⟩ := id hz1
          show jl_E l G m_Ma_carryOn (0, 0) 79 [some (.ref 13), some (.int (nI n)), some (.int (bi gd)), none] [] (σ) P
          refine er_aload_n d_Ma_carryOn_79 rfl ?_
          refine er_dup d_Ma_carryOn_80 rfl ?_
          refine er_getf d_Ma_carryOn_81 f_Ma_carryOn_44 hX rfl ?_
          refine er_iconst ((nI (1))) d_Ma_carryOn_84 (by decide) ?_
          refine er_iaddN d_Ma_carryOn_85 ?_
          refine er_putf d_Ma_carryOn_86 p_Ma_carryOn_44 hX (Nat.le_of_ble_eq_true rfl) jl_fit_int ?_
          show jl_E l G m_Ma_carryOn (0, 0) 89 [some (.ref 13), some (.int (nI n)), some (.int (bi gd)), none] [] (σ.set (13) (.inr (1, [.ref 1, .ref 8, .ref 14, .ref 18, .ref 19, .ref 20, .ref 21, .int (tp), .int (nI how), .int (nI what), .int (nI ((d) + (1))), .int (aw')]))) P
          refine er_goto 5 d_Ma_carryOn_89 (by decide) ?_
          (have h7 := (hsf.fin hok hft hD hsg h0 e1).2; exact ma_carry_z hl (jl_ss hX) (by omega) (by omega) hn (hT how what (d + 1) an H1 aw' _ (by rw [show n - d = (n - (d + 1)) + 1 by omega, mrn, if_neg hng, e1]) e2 ⟨_, _, _, _, _, (jl_ss hX), jl_sn (by decide) u1, jl_sn (by decide) u2, jl_sn (by decide) t1, jl_sn (by decide) t2, ⟨jl_sn (by decide) hS.1, jl_sn (by decide) hS.2.1, jl_sn (by decide) hS.2.2.1, jl_sn (by decide) hS.2.2.2⟩, hob1, hto, hF.set (by omega)⟩))
      · have hflw : flt tb pr ow fi ft sg (dop (D f.m) f.p) (dag (D f.m) f.p) (dsz (D f.m)) (dfr (D f.m)) (dtt (D f.m)) (dtg (D f.m)) (dkd (D f.m)) (dnc (D f.m)) (D f.m).2.2.1 f.p (fun j => ty (fs.length * 12 + j)) (hgt f.R) = fltF tb pr ow fi ft sg D f := (flt_w hok (hmd.2.2.2.1 _ r3) (sg_pq hok hD hsg) (fun j hj hn => (hty j hj).symm) (fun j hj hn => hx.rob j hj)).symm
        have hfl5 : fltF tb pr ow fi ft sg D f ≤ 5 := flt_le
        refine er_aload_n d_Ma_carryOn_26 rfl ?_
        refine er_getf d_Ma_carryOn_27 f_Ma_carryOn_54 hX rfl ?_
        refine er_aload_n d_Ma_carryOn_30 rfl ?_
        refine er_getf d_Ma_carryOn_31 f_Ma_carryOn_20 hX rfl ?_
        refine er_aload_n d_Ma_carryOn_34 rfl ?_
        refine er_getf d_Ma_carryOn_35 f_Ma_carryOn_34 hX rfl ?_
        refine er_aaldQ (v := some (a)) d_Ma_carryOn_38 u1 (by omega) (by omega) (hua) ?_
        show jl_E l G m_Ma_carryOn (0, 0) 39 [some (.ref 13), some (.int (nI n)), some (.int (bi gd)), none] [.ref a, .ref 8] (σ) P
        refine er_aload_n d_Ma_carryOn_39 rfl ?_
        refine er_getf d_Ma_carryOn_40 f_Ma_carryOn_24 hX rfl ?_
        refine er_aload_n d_Ma_carryOn_43 rfl ?_
        refine er_getf d_Ma_carryOn_44 f_Ma_carryOn_34 hX rfl ?_
        refine er_ialdQ (v := (nI (f.p))) d_Ma_carryOn_47 u2 (by omega) (by omega) (congrArg nI hps) ?_
        refine er_aload_n d_Ma_carryOn_48 rfl ?_
        refine er_getf d_Ma_carryOn_49 f_Ma_carryOn_28 hX rfl ?_
        refine er_aload_n d_Ma_carryOn_52 rfl ?_
        refine er_getf d_Ma_carryOn_53 f_Ma_carryOn_34 hX rfl ?_
        refine er_bipush ((nI (12))) d_Ma_carryOn_56 (by decide) ?_
        refine er_imulN d_Ma_carryOn_58 ?_
        refine er_callV (As := [.ref a, .int (nI (f.p)), .ref 20, .int (nI ((fs.length) * (12)))]) d_Ma_carryOn_59 k_Ma_carryOn_81 hc8 rfl rfl rfl (Nat.le_of_ble_eq_true rfl) (by decide) (by decide) (ck_firstE (pc := f.p) (at_ := fs.length * 12) (h := hgt f.R) hl hc8 hwx1.1 hmD hok hwx1.2.2.1 t1 (by decide) hob (hmd.2.2.2.1 _ r3) r3 hmd.2.2.2.2.1 hmd.2.2.2.2.2.1 hmd.2.2.2.2.2.2.1 (by omega) hh6 r5 (fun k f => (hft k f _ rfl).1) (hmd.2.2.1 _ rfl).1 hflw) ?_
        show jl_E l G m_Ma_carryOn (0, 0) 62 [some (.ref 13), some (.int (nI n)), some (.int (bi gd)), none] [.int (nI (fltF tb pr ow fi ft sg D f))] (σ) P
        refine er_istore_n d_Ma_carryOn_62 (by decide) ?_
        show jl_E l G m_Ma_carryOn (0, 0) 63 [some (.ref 13), some (.int (nI n)), some (.int (bi gd)), some (.int (nI (fltF tb pr ow fi ft sg D f)))] [] (σ) P
        refine er_iload_n d_Ma_carryOn_63 rfl ?_
        refine er_if_eqN 75 d_Ma_carryOn_64 (by decide) (by omega) (fun c3 => ?_) (fun c3 => ?_)
        · have hng : ¬ (gd = true ∧ fltF tb pr ow fi ft sg D f ≠ 0) := fun z => z.2 (by omega)
          have h0 := hsf.flt hok hD hsg hW hng
          refine er_weak (ls' := [some (.ref 13), some (.int (nI n)), some (.int (bi gd)), none]) (fun q v hv => by match q, hv with | 0, hv => exact hv | 1, hv => exact hv | 2, hv => exact hv | 3, hv => cases hv | q + 4, hv => cases hv) ?_
          show jl_E l G m_Ma_carryOn (0, 0) 75 [some (.ref 13), some (.int (nI n)), some (.int (bi gd)), none] [] (σ) P
          refine er_aload_n d_Ma_carryOn_75 rfl ?_
          refine er_callVE (As := []) d_Ma_carryOn_76 k_Ma_carryOn_91 hX rfl rfl rfl (Nat.le_of_ble_eq_true rfl) (by decide) (by decide) (ma_step hl hwx hmt hok hft hmH hD hD2 hsg hfd hsf.1 h0 hk (fun f1 fs1 H1 σ e1 hk1 => ⟨_, rfl, ?_⟩) (fun how what an H1 aw' σ e1 e2 hz1 => ⟨_, rfl, ?_⟩))
          · skip
            obtain ⟨uw1, ps1, ty1, va1, hX, u1, u2, t1, t2, hS, hx, hto, hF⟩ := id hk1
            show jl_E l G m_Ma_carryOn (0, 0) 79 [some (.ref 13), some (.int (nI n)), some (.int (bi gd)), none] [] (σ) P
            refine er_aload_n d_Ma_carryOn_79 rfl ?_
            refine er_dup d_Ma_carryOn_80 rfl ?_
            refine er_getf d_Ma_carryOn_81 f_Ma_carryOn_44 hX rfl ?_
            refine er_iconst ((nI (1))) d_Ma_carryOn_84 (by decide) ?_
            refine er_iaddN d_Ma_carryOn_85 ?_
            refine er_putf d_Ma_carryOn_86 p_Ma_carryOn_44 hX (Nat.le_of_ble_eq_true rfl) jl_fit_int ?_
            show jl_E l G m_Ma_carryOn (0, 0) 89 [some (.ref 13), some (.int (nI n)), some (.int (bi gd)), none] [] (σ.set (13) (.inr (1, [.ref 1, .ref 8, .ref 14, .ref 18, .ref 19, .ref 20, .ref 21, .int (nI (fs1.length)), .int (nI 9), .int (nI 0), .int (nI ((d) + (1))), .int (aw)]))) P
            refine er_goto 5 d_Ma_carryOn_89 (by decide) ?_
            (obtain ⟨f2, fs2, eq2, hsf2⟩ := hsf.step hok hft hD hsg hW hE h0 e1; cases eq2; exact ihn (d + 1) _ f1 fs1 H1 aw (by omega) (by omega) ⟨_, _, _, _, (jl_ss hX), jl_sn (by decide) u1, jl_sn (by decide) u2, jl_sn (by decide) t1, jl_sn (by decide) t2, ⟨jl_sn (by decide) hS.1, jl_sn (by decide) hS.2.1, jl_sn (by decide) hS.2.2.1, jl_sn (by decide) hS.2.2.2⟩, hx, hto, hF.set (by omega)⟩ hsf2 (fun how what dn an H2 aw2 σ2 q => hT how what dn an H2 aw2 σ2 ((show mrn tb pr ow fi ft sg hs D gd (n - d) f fs H d = mrn tb pr ow fi ft sg hs D gd (n - (d + 1)) f1 fs1 H1 (d + 1) from (by rw [show n - d = (n - (d + 1)) + 1 by omega, mrn, if_neg hng, e1])).trans q)))
          · skip
            obtain ⟨tp, uw1, ps1, ty1, va1, hX, u1, u2, t1, t2, hS, hob1, hto, hF⟩ := id hz1
            show jl_E l G m_Ma_carryOn (0, 0) 79 [some (.ref 13), some (.int (nI n)), some (.int (bi gd)), none] [] (σ) P
            refine er_aload_n d_Ma_carryOn_79 rfl ?_
            refine er_dup d_Ma_carryOn_80 rfl ?_
            refine er_getf d_Ma_carryOn_81 f_Ma_carryOn_44 hX rfl ?_
            refine er_iconst ((nI (1))) d_Ma_carryOn_84 (by decide) ?_
            refine er_iaddN d_Ma_carryOn_85 ?_
            refine er_putf d_Ma_carryOn_86 p_Ma_carryOn_44 hX (Nat.le_of_ble_eq_true rfl) jl_fit_int ?_
            show jl_E l G m_Ma_carryOn (0, 0) 89 [some (.ref 13), some (.int (nI n)), some (.int (bi gd)), none] [] (σ.set (13) (.inr (1, [.ref 1, .ref 8, .ref 14, .ref 18, .ref 19, .ref 20, .ref 21, .int (tp), .int (nI how), .int (nI what), .int (nI ((d) + (1))), .int (aw')]))) P
            refine er_goto 5 d_Ma_carryOn_89 (by decide) ?_
            (have h7 := (hsf.fin hok hft hD hsg h0 e1).2; exact ma_carry_z hl (jl_ss hX) (by omega) (by omega) hn (hT how what (d + 1) an H1 aw' _ (by rw [show n - d = (n - (d + 1)) + 1 by omega, mrn, if_neg hng, e1]) e2 ⟨_, _, _, _, _, (jl_ss hX), jl_sn (by decide) u1, jl_sn (by decide) u2, jl_sn (by decide) t1, jl_sn (by decide) t2, ⟨jl_sn (by decide) hS.1, jl_sn (by decide) hS.2.1, jl_sn (by decide) hS.2.2.1, jl_sn (by decide) hS.2.2.2⟩, hob1, hto, hF.set (by omega)⟩))
        · refine er_aload_n d_Ma_carryOn_67 rfl ?_
          refine er_bipush ((nI (8))) d_Ma_carryOn_68 (by decide) ?_
          refine er_iload_n d_Ma_carryOn_70 rfl ?_
          refine er_callV (As := [.int (nI 8), .int (nI (fltF tb pr ow fi ft sg D f))]) d_Ma_carryOn_71 k_Ma_carryOn_87 hX rfl rfl rfl (Nat.le_of_ble_eq_true rfl) (by decide) (by decide) (ma_end hl hX) ?_
          show jl_E l G m_Ma_carryOn (0, 0) 74 [some (.ref 13), some (.int (nI n)), some (.int (bi gd)), some (.int (nI (fltF tb pr ow fi ft sg D f)))] [] (σ.set (13) (.inr (1, [.ref 1, .ref 8, .ref 14, .ref 18, .ref 19, .ref 20, .ref 21, .int (nI (fs.length)), .int (nI 8), .int (nI (fltF tb pr ow fi ft sg D f)), .int (nI d), .int (aw)]))) P
          exact er_vret d_Ma_carryOn_74 rfl (hT 8 (fltF tb pr ow fi ft sg D f) d none H aw _ (by rw [show n - d = (n - (d + 1)) + 1 by omega, mrn, if_pos ⟨bi_nf c2, by omega⟩]) (fun _ q => by cases q) ⟨_, _, _, _, _, (jl_ss hX), (jl_sn (by decide) u1), (jl_sn (by decide) u2), (jl_sn (by decide) t1), (jl_sn (by decide) t2), ⟨(jl_sn (by decide) s0), (jl_sn (by decide) s1), (jl_sn (by decide) s2), (jl_sn (by decide) s3)⟩, hob, hto, (hF.set (by omega))⟩) (by decide) (by decide)
theorem d_Ma_carryOn_0 : decode m_Ma_carryOn.2.1 0 = .ok (.aload_n 0, 1) := by decide +kernel
theorem d_Ma_carryOn_1 : decode m_Ma_carryOn.2.1 1 = .ok (.iconst 0, 1) := by decide +kernel
theorem d_Ma_carryOn_2 : decode m_Ma_carryOn.2.1 2 = .ok (.putfield 44, 3) := by decide +kernel
theorem ma_carry (hl : l.stackTraces = false) {P : jl_O → jl_S → Prop}   (hwx : WX σ0 tb pr ow fi ft mt sg D MP FH) (hmt : MtOk mt) (hok : WoOk tb pr ow fi) (hft : ∀ k f, tyv (some (fty pr fi ft k f))) (hmH : ∀ m, hs m = (mt m).isSome) (hD : ∀ m, m < 24 → hs m = true → MdOk (D m)) (hD2 : ∀ m, mt m ≠ none → MdOk (D m)) (hsg : SgM tb pr hs (fun m => (D m).1) (fun m => (D m).2.1) (fun m => (D m).2.2.1) sg) (hfd : ∀ k sl m2, k < 6 → sl < 4 → mmo pr hs sl 6 (some k) = some m2 → ∃ a2, mt m2 = some a2 ∧ found tb pr mt (nI k) (nI sl) = some a2) (hW : gd = false → FixW tb pr ow fi ft sg hs D W) (hE : SgE pr hs D) (hn : n ≤ 400) (hk : KB σ0 mt σ (7 + hgt f.R) fs.length f.m f.p f.R f.V fs H (nI 9) (nI 0) dq aw) (hsf : SF tb pr ow fi ft hs D W gd f fs H) (hT : (∀ how what dn an H' aw' σ', mrn tb pr ow fi ft sg hs D gd (n - 0) f fs H 0 = (how, what, dn, an, H') → (∀ v, an = some v → aw' = v) → KZ σ0 σ' H' (nI how) (nI what) (nI dn) aw' → P (.inl none) σ')) : jl_mE l G m_Ma_carryOn [.ref 13, .int (nI n), .int (bi gd)] σ P := by
  obtain ⟨uw, ps, ty, va, hX, u1, u2, t1, t2, hS, hx, hto, hF⟩ := id hk
  obtain ⟨s0, s1, s2, s3⟩ := id hS
  refine jl_ofE (as := [.ref 13, .int (nI n), .int (bi gd)]) rfl (by decide) hl (jl_cc rfl (jl_cc rfl (jl_cc rfl jl_ca))) (Nat.le_of_ble_eq_true rfl) ?_
  show jl_E l G m_Ma_carryOn (0, 0) 0 [some (.ref 13), some (.int (nI n)), some (.int (bi gd)), none] [] (σ) P
  refine er_aload_n d_Ma_carryOn_0 rfl ?_
  refine er_iconst ((nI (0))) d_Ma_carryOn_1 (by decide) ?_
  refine er_putf d_Ma_carryOn_2 p_Ma_carryOn_44 hX (Nat.le_of_ble_eq_true rfl) jl_fit_int ?_
  show jl_E l G m_Ma_carryOn (0, 0) 5 [some (.ref 13), some (.int (nI n)), some (.int (bi gd)), none] [] (σ.set (13) (.inr (1, [.ref 1, .ref 8, .ref 14, .ref 18, .ref 19, .ref 20, .ref 21, .int (nI (fs.length)), .int (nI 9), .int (nI 0), .int (nI 0), .int (aw)]))) P
  exact ma_carry_l hl hwx hmt hok hft hmH hD hD2 hsg hfd hW hE hn (n + 1) 0 _ f fs H aw (by omega) (by omega) ⟨_, _, _, _, (jl_ss hX), jl_sn (by decide) u1, jl_sn (by decide) u2, jl_sn (by decide) t1, jl_sn (by decide) t2, ⟨jl_sn (by decide) s0, jl_sn (by decide) s1, jl_sn (by decide) s2, jl_sn (by decide) s3⟩, hx, hto, hF.set (by omega)⟩ hsf hT
end JMyc
