/-! the law's cases, 2 (wip/gen/p97zv.py) -/
section JLx
variable {l : Launch} {G : jl_G} {σ : jl_S}
variable {U : Un} {fa : Int32} {f : Nat → Int64} {n uc us : Nat}
theorem d_La_law_540 : decode m_La_law.2.1 540 = .ok (.aload_n 1, 1) := by decide +kernel
theorem d_La_law_541 : decode m_La_law.2.1 541 = .ok (.aload_n 3, 1) := by decide +kernel
theorem k_La_law_85 : jl_cw m_La_law m_La_verify [(0, 8, 11, 37)] 85 2 = true := by decide +kernel
theorem d_La_law_542 : decode m_La_law.2.1 542 = .ok (.invokestatic 85, 3) := by decide +kernel
theorem d_La_law_545 : decode m_La_law.2.1 545 = .ok (.istore 5, 2) := by decide +kernel
theorem d_La_law_547 : decode m_La_law.2.1 547 = .ok (.aload_n 2, 1) := by decide +kernel
theorem k_La_law_88 : jl_cv m_La_law m_Mo_verify 88 0 = true := by decide +kernel
theorem d_La_law_548 : decode m_La_law.2.1 548 = .ok (.invokevirtual 88, 3) := by decide +kernel
theorem d_La_law_551 : decode m_La_law.2.1 551 = .ok (.istore 6, 2) := by decide +kernel
theorem d_La_law_553 : decode m_La_law.2.1 553 = .ok (.aload_n 2, 1) := by decide +kernel
theorem d_La_law_554 : decode m_La_law.2.1 554 = .ok (.invokevirtual 68, 3) := by decide +kernel
theorem d_La_law_557 : decode m_La_law.2.1 557 = .ok (.iload 5, 2) := by decide +kernel
theorem d_La_law_559 : decode m_La_law.2.1 559 = .ok (.if_icmp .eq 5, 3) := by decide +kernel
theorem d_La_law_564 : decode m_La_law.2.1 564 = .ok (.iload 5, 2) := by decide +kernel
theorem d_La_law_581 : decode m_La_law.2.1 581 = .ok (.goto 448, 3) := by decide +kernel
theorem d_La_law_566 : decode m_La_law.2.1 566 = .ok (.ifCond .ne 15, 3) := by decide +kernel
theorem d_La_law_569 : decode m_La_law.2.1 569 = .ok (.aload_n 3, 1) := by decide +kernel
theorem d_La_law_570 : decode m_La_law.2.1 570 = .ok (.iconst 0, 1) := by decide +kernel
theorem d_La_law_571 : decode m_La_law.2.1 571 = .ok (.laload, 1) := by decide +kernel
theorem d_La_law_572 : decode m_La_law.2.1 572 = .ok (.iload 6, 2) := by decide +kernel
theorem d_La_law_574 : decode m_La_law.2.1 574 = .ok (.i2l, 1) := by decide +kernel
theorem d_La_law_575 : decode m_La_law.2.1 575 = .ok (.lcmp, 1) := by decide +kernel
theorem d_La_law_576 : decode m_La_law.2.1 576 = .ok (.ifCond .eq 5, 3) := by decide +kernel
theorem law_verify (hl : l.stackTraces = false) {P : jl_O → jl_S → Prop} (hL : G.2.2.2.2.2.2.1 ≤ 3072) (hn : 6 * n + 6 ≤ G.2.2.2.2.2.2.1) (hU : UI U) (hC : RC σ U) (hM : RM σ U fa) (h53 : σ[53]? = some (.inl (2, 1, .inr (.inl f)))) (hu1 : uc + 15 ≤ 601024) (hu2 : us + 417 ≤ 7293034) (k : ∀ (σ' : jl_S) (U' : Un) (fa' : Int32) (g : Nat → Int64), UI U' → RC σ' U' → RM σ' U' fa' → σ'[53]? = some (.inl (2, 1, .inr (.inl g))) → jl_E l G m_La_law (uc + 1, us + 6) 1029 [some (.retAddr G.2.2.2.2.2.1), some (.ref 0), some (.ref 22), some (.ref 53), some (.int (nI (6 * n))), none, none] [] σ' P) : jl_E l G m_La_law (uc, us) 540 [some (.retAddr G.2.2.2.2.2.1), some (.ref 0), some (.ref 22), some (.ref 53), some (.int (nI (6 * n))), none, none] [] σ P := by
  obtain ⟨c, v, U1, hU1, hc, h1, h2⟩ := co_verify (G := G) hl hU hC
  have hj := hC.j
  refine er_aload_n d_La_law_540 rfl ?_
  refine er_aload_n d_La_law_541 rfl ?_
  refine er_callSWE (As := [.ref 0, .ref 53]) d_La_law_542 k_La_law_85 rfl (Nat.le_of_ble_eq_true rfl) (by show uc + 1 ≤ 601024; omega) (by show us + 6 ≤ 7293034; omega) (la_verify (xx := 0) hl hj h53 hU1 hc h1 (fun g σ2 hrc hfr h532 hg0 => ⟨_, rfl, ?_⟩))
  show jl_E l G m_La_law (uc + 1, us + 6) 545 [some (.retAddr G.2.2.2.2.2.1), some (.ref 0), some (.ref 22), some (.ref 53), some (.int (nI (6 * n))), none, none] [.int (nI c)] σ2 P
  have hM2 : RM σ2 U fa := hM.fr hfr
  obtain ⟨fs2, hO2⟩ := hM2.o
  refine er_istore d_La_law_545 (by decide) ?_
  show jl_E l G m_La_law (uc + 1, us + 6) 547 [some (.retAddr G.2.2.2.2.2.1), some (.ref 0), some (.ref 22), some (.ref 53), some (.int (nI (6 * n))), some (.int (nI c)), none] [] σ2 P
  refine er_aload_n d_La_law_547 rfl ?_
  refine er_callVE (As := []) d_La_law_548 k_La_law_88 hO2 rfl rfl rfl (Nat.le_of_ble_eq_true rfl) (by show uc + 1 + 0 ≤ 601024; omega) (by show us + 6 + 0 ≤ 7293034; omega) (jl_mE.mono (h2 σ2 fa hM2) (fun o3 σ3 ho3 => ?_))
  obtain ⟨eo, hM3, hfx⟩ := ho3
  refine ⟨_, eo, ?_⟩
  show jl_E l G m_La_law (uc + 1, us + 6) 551 [some (.retAddr G.2.2.2.2.2.1), some (.ref 0), some (.ref 22), some (.ref 53), some (.int (nI (6 * n))), some (.int (nI c)), none] [.int v] σ3 P
  obtain ⟨fs3, hO3⟩ := hM3.o
  have h533 : σ3[53]? = some (.inl (2, 1, .inr (.inl g))) := (hfx.2 53 (by decide)).trans h532
  refine er_istore d_La_law_551 (by decide) ?_
  show jl_E l G m_La_law (uc + 1, us + 6) 553 [some (.retAddr G.2.2.2.2.2.1), some (.ref 0), some (.ref 22), some (.ref 53), some (.int (nI (6 * n))), some (.int (nI c)), some (.int v)] [] σ3 P
  refine er_aload_n d_La_law_553 rfl ?_
  refine er_callV (As := []) d_La_law_554 k_La_law_68 hO3 rfl rfl rfl (Nat.le_of_ble_eq_true rfl) (by show uc + 1 + 0 ≤ 601024; omega) (by show us + 6 + 0 ≤ 7293034; omega) (hM3.thr hl) ?_
  show jl_E l G m_La_law (uc + 1, us + 6) 557 [some (.retAddr G.2.2.2.2.2.1), some (.ref 0), some (.ref 22), some (.ref 53), some (.int (nI (6 * n))), some (.int (nI c)), some (.int v)] [.int (nI c)] σ3 P
  refine er_iload d_La_law_557 rfl ?_
  refine er_icmp_eq 564 d_La_law_559 (by decide) (fun _ => ?_) (fun z => absurd rfl z)
  refine er_iload d_La_law_564 rfl ?_
  have hk : jl_E l G m_La_law (uc + 1, us + 6) 581 [some (.retAddr G.2.2.2.2.2.1), some (.ref 0), some (.ref 22), some (.ref 53), some (.int (nI (6 * n))), some (.int (nI c)), some (.int v)] [] σ3 P := er_weak (ls' := [some (.retAddr G.2.2.2.2.2.1), some (.ref 0), some (.ref 22), some (.ref 53), some (.int (nI (6 * n))), none, none]) (fun q v hv => by match q, hv with | 0, hv => exact hv | 1, hv => exact hv | 2, hv => exact hv | 3, hv => exact hv | 4, hv => exact hv | 5, hv => cases hv | 6, hv => cases hv | q + 7, hv => cases hv) (er_goto 1029 d_La_law_581 (by decide) (k σ3 U1 (nI c) g hU1 (hrc.fr hU1 hfx) hM3 h533))
  refine er_if_ne 581 d_La_law_566 (by decide) (fun _ => hk) (fun zc => ?_)
  have c0 : c = 0 := by
    have hc5 : c ≤ 1 := hc
    rw [← nI_0, nI_eq (by omega) (by omega)] at zc
    exact zc
  refine er_aload_n d_La_law_569 rfl ?_
  refine er_iconst (nI 0) d_La_law_570 (by decide) ?_
  refine er_lald d_La_law_571 h533 vp_in0 ?_
  refine er_iload d_La_law_572 rfl ?_
  refine er_i2l d_La_law_574 ?_
  refine er_lcmp d_La_law_575 ?_
  refine er_if_eq 581 d_La_law_576 (by decide) (fun _ => hk) (fun zl => absurd ?_ zl)
  have e0 : g (nI 0).toNatClampNeg = v.toInt64 := hg0 c0
  rw [e0]
  exact lg_self _
theorem d_La_law_584 : decode m_La_law.2.1 584 = .ok (.aload_n 1, 1) := by decide +kernel
theorem d_La_law_585 : decode m_La_law.2.1 585 = .ok (.aload_n 0, 1) := by decide +kernel
theorem d_La_law_586 : decode m_La_law.2.1 586 = .ok (.iload 4, 2) := by decide +kernel
theorem d_La_law_588 : decode m_La_law.2.1 588 = .ok (.iconst 1, 1) := by decide +kernel
theorem d_La_law_589 : decode m_La_law.2.1 589 = .ok (.iadd, 1) := by decide +kernel
theorem d_La_law_590 : decode m_La_law.2.1 590 = .ok (.iaload, 1) := by decide +kernel
theorem d_La_law_591 : decode m_La_law.2.1 591 = .ok (.aload_n 0, 1) := by decide +kernel
theorem d_La_law_592 : decode m_La_law.2.1 592 = .ok (.iload 4, 2) := by decide +kernel
theorem d_La_law_594 : decode m_La_law.2.1 594 = .ok (.iconst 2, 1) := by decide +kernel
theorem d_La_law_595 : decode m_La_law.2.1 595 = .ok (.iadd, 1) := by decide +kernel
theorem d_La_law_596 : decode m_La_law.2.1 596 = .ok (.iaload, 1) := by decide +kernel
theorem d_La_law_597 : decode m_La_law.2.1 597 = .ok (.aload_n 0, 1) := by decide +kernel
theorem d_La_law_598 : decode m_La_law.2.1 598 = .ok (.iload 4, 2) := by decide +kernel
theorem d_La_law_600 : decode m_La_law.2.1 600 = .ok (.iconst 3, 1) := by decide +kernel
theorem d_La_law_601 : decode m_La_law.2.1 601 = .ok (.iadd, 1) := by decide +kernel
theorem d_La_law_602 : decode m_La_law.2.1 602 = .ok (.iaload, 1) := by decide +kernel
theorem d_La_law_603 : decode m_La_law.2.1 603 = .ok (.aload_n 0, 1) := by decide +kernel
theorem d_La_law_604 : decode m_La_law.2.1 604 = .ok (.iload 4, 2) := by decide +kernel
theorem d_La_law_606 : decode m_La_law.2.1 606 = .ok (.iconst 4, 1) := by decide +kernel
theorem d_La_law_607 : decode m_La_law.2.1 607 = .ok (.iadd, 1) := by decide +kernel
theorem d_La_law_608 : decode m_La_law.2.1 608 = .ok (.iaload, 1) := by decide +kernel
theorem d_La_law_609 : decode m_La_law.2.1 609 = .ok (.aload_n 3, 1) := by decide +kernel
theorem k_La_law_89 : jl_cw m_La_law m_La_map [(0, 14, 17, 13), (0, 14, 21, 20)] 89 6 = true := by decide +kernel
theorem d_La_law_610 : decode m_La_law.2.1 610 = .ok (.invokestatic 89, 3) := by decide +kernel
theorem d_La_law_613 : decode m_La_law.2.1 613 = .ok (.istore 5, 2) := by decide +kernel
theorem d_La_law_615 : decode m_La_law.2.1 615 = .ok (.aload_n 2, 1) := by decide +kernel
theorem d_La_law_616 : decode m_La_law.2.1 616 = .ok (.aload_n 0, 1) := by decide +kernel
theorem d_La_law_617 : decode m_La_law.2.1 617 = .ok (.iload 4, 2) := by decide +kernel
theorem d_La_law_619 : decode m_La_law.2.1 619 = .ok (.iconst 1, 1) := by decide +kernel
theorem d_La_law_620 : decode m_La_law.2.1 620 = .ok (.iadd, 1) := by decide +kernel
theorem d_La_law_621 : decode m_La_law.2.1 621 = .ok (.iaload, 1) := by decide +kernel
theorem d_La_law_622 : decode m_La_law.2.1 622 = .ok (.aload_n 0, 1) := by decide +kernel
theorem d_La_law_623 : decode m_La_law.2.1 623 = .ok (.iload 4, 2) := by decide +kernel
theorem d_La_law_625 : decode m_La_law.2.1 625 = .ok (.iconst 2, 1) := by decide +kernel
theorem d_La_law_626 : decode m_La_law.2.1 626 = .ok (.iadd, 1) := by decide +kernel
theorem d_La_law_627 : decode m_La_law.2.1 627 = .ok (.iaload, 1) := by decide +kernel
theorem d_La_law_628 : decode m_La_law.2.1 628 = .ok (.aload_n 0, 1) := by decide +kernel
theorem d_La_law_629 : decode m_La_law.2.1 629 = .ok (.iload 4, 2) := by decide +kernel
theorem d_La_law_631 : decode m_La_law.2.1 631 = .ok (.iconst 3, 1) := by decide +kernel
theorem d_La_law_632 : decode m_La_law.2.1 632 = .ok (.iadd, 1) := by decide +kernel
theorem d_La_law_633 : decode m_La_law.2.1 633 = .ok (.iaload, 1) := by decide +kernel
theorem d_La_law_634 : decode m_La_law.2.1 634 = .ok (.aload_n 0, 1) := by decide +kernel
theorem d_La_law_635 : decode m_La_law.2.1 635 = .ok (.iload 4, 2) := by decide +kernel
theorem d_La_law_637 : decode m_La_law.2.1 637 = .ok (.iconst 4, 1) := by decide +kernel
theorem d_La_law_638 : decode m_La_law.2.1 638 = .ok (.iadd, 1) := by decide +kernel
theorem d_La_law_639 : decode m_La_law.2.1 639 = .ok (.iaload, 1) := by decide +kernel
theorem k_La_law_91 : jl_cv m_La_law m_Mo_map 91 4 = true := by decide +kernel
theorem d_La_law_640 : decode m_La_law.2.1 640 = .ok (.invokevirtual 91, 3) := by decide +kernel
theorem d_La_law_643 : decode m_La_law.2.1 643 = .ok (.istore 6, 2) := by decide +kernel
theorem d_La_law_645 : decode m_La_law.2.1 645 = .ok (.aload_n 2, 1) := by decide +kernel
theorem d_La_law_646 : decode m_La_law.2.1 646 = .ok (.invokevirtual 68, 3) := by decide +kernel
theorem d_La_law_649 : decode m_La_law.2.1 649 = .ok (.iload 5, 2) := by decide +kernel
theorem d_La_law_651 : decode m_La_law.2.1 651 = .ok (.if_icmp .eq 5, 3) := by decide +kernel
theorem d_La_law_656 : decode m_La_law.2.1 656 = .ok (.iload 5, 2) := by decide +kernel
theorem d_La_law_673 : decode m_La_law.2.1 673 = .ok (.goto 356, 3) := by decide +kernel
theorem d_La_law_658 : decode m_La_law.2.1 658 = .ok (.ifCond .ne 15, 3) := by decide +kernel
theorem d_La_law_661 : decode m_La_law.2.1 661 = .ok (.aload_n 3, 1) := by decide +kernel
theorem d_La_law_662 : decode m_La_law.2.1 662 = .ok (.iconst 0, 1) := by decide +kernel
theorem d_La_law_663 : decode m_La_law.2.1 663 = .ok (.laload, 1) := by decide +kernel
theorem d_La_law_664 : decode m_La_law.2.1 664 = .ok (.iload 6, 2) := by decide +kernel
theorem d_La_law_666 : decode m_La_law.2.1 666 = .ok (.i2l, 1) := by decide +kernel
theorem d_La_law_667 : decode m_La_law.2.1 667 = .ok (.lcmp, 1) := by decide +kernel
theorem d_La_law_668 : decode m_La_law.2.1 668 = .ok (.ifCond .eq 5, 3) := by decide +kernel
theorem law_map (hl : l.stackTraces = false) {P : jl_O → jl_S → Prop} (hL : G.2.2.2.2.2.2.1 ≤ 3072) (hn : 6 * n + 6 ≤ G.2.2.2.2.2.2.1) (hU : UI U) (hC : RC σ U) (hM : RM σ U fa) (h53 : σ[53]? = some (.inl (2, 1, .inr (.inl f)))) (hu1 : uc + 15 ≤ 601024) (hu2 : us + 417 ≤ 7293034) (k : ∀ (σ' : jl_S) (U' : Un) (fa' : Int32) (g : Nat → Int64), UI U' → RC σ' U' → RM σ' U' fa' → σ'[53]? = some (.inl (2, 1, .inr (.inl g))) → jl_E l G m_La_law (uc + 5, us + 30) 1029 [some (.retAddr G.2.2.2.2.2.1), some (.ref 0), some (.ref 22), some (.ref 53), some (.int (nI (6 * n))), none, none] [] σ' P) : jl_E l G m_La_law (uc, us) 584 [some (.retAddr G.2.2.2.2.2.1), some (.ref 0), some (.ref 22), some (.ref 53), some (.int (nI (6 * n))), none, none] [] σ P := by
  obtain ⟨c, v, U1, hU1, hc, h1, h2⟩ := co_map (G := G) hl hU hC (k := G.2.2.2.2.2.2.2 (6 * n + 1)) (sl := G.2.2.2.2.2.2.2 (6 * n + 2)) (pc := G.2.2.2.2.2.2.2 (6 * n + 3)) (i := G.2.2.2.2.2.2.2 (6 * n + 4))
  have hj := hC.j
  refine er_aload_n d_La_law_584 rfl ?_
  refine er_aload_nR d_La_law_585 rfl ?_
  refine er_iload d_La_law_586 rfl ?_
  refine er_iconst (nI 1) d_La_law_588 (by decide) ?_
  refine er_iaddN d_La_law_589 ?_
  refine er_sldN d_La_law_590 (by omega) (by omega) ?_
  refine er_aload_nR d_La_law_591 rfl ?_
  refine er_iload d_La_law_592 rfl ?_
  refine er_iconst (nI 2) d_La_law_594 (by decide) ?_
  refine er_iaddN d_La_law_595 ?_
  refine er_sldN d_La_law_596 (by omega) (by omega) ?_
  refine er_aload_nR d_La_law_597 rfl ?_
  refine er_iload d_La_law_598 rfl ?_
  refine er_iconst (nI 3) d_La_law_600 (by decide) ?_
  refine er_iaddN d_La_law_601 ?_
  refine er_sldN d_La_law_602 (by omega) (by omega) ?_
  refine er_aload_nR d_La_law_603 rfl ?_
  refine er_iload d_La_law_604 rfl ?_
  refine er_iconst (nI 4) d_La_law_606 (by decide) ?_
  refine er_iaddN d_La_law_607 ?_
  refine er_sldN d_La_law_608 (by omega) (by omega) ?_
  refine er_aload_n d_La_law_609 rfl ?_
  refine er_callSWE (As := [.ref 0, .int (G.2.2.2.2.2.2.2 (6 * n + 1)), .int (G.2.2.2.2.2.2.2 (6 * n + 2)), .int (G.2.2.2.2.2.2.2 (6 * n + 3)), .int (G.2.2.2.2.2.2.2 (6 * n + 4)), .ref 53]) d_La_law_610 k_La_law_89 rfl (Nat.le_of_ble_eq_true rfl) (by show uc + 5 ≤ 601024; omega) (by show us + 30 ≤ 7293034; omega) (la_map hl hj h53 hU1 hc h1 (fun g σ2 hrc hfr h532 hg0 => ⟨_, rfl, ?_⟩))
  show jl_E l G m_La_law (uc + 5, us + 30) 613 [some (.retAddr G.2.2.2.2.2.1), some (.ref 0), some (.ref 22), some (.ref 53), some (.int (nI (6 * n))), none, none] [.int (nI c)] σ2 P
  have hM2 : RM σ2 U fa := hM.fr hfr
  obtain ⟨fs2, hO2⟩ := hM2.o
  refine er_istore d_La_law_613 (by decide) ?_
  show jl_E l G m_La_law (uc + 5, us + 30) 615 [some (.retAddr G.2.2.2.2.2.1), some (.ref 0), some (.ref 22), some (.ref 53), some (.int (nI (6 * n))), some (.int (nI c)), none] [] σ2 P
  refine er_aload_n d_La_law_615 rfl ?_
  refine er_aload_nR d_La_law_616 rfl ?_
  refine er_iload d_La_law_617 rfl ?_
  refine er_iconst (nI 1) d_La_law_619 (by decide) ?_
  refine er_iaddN d_La_law_620 ?_
  refine er_sldN d_La_law_621 (by omega) (by omega) ?_
  refine er_aload_nR d_La_law_622 rfl ?_
  refine er_iload d_La_law_623 rfl ?_
  refine er_iconst (nI 2) d_La_law_625 (by decide) ?_
  refine er_iaddN d_La_law_626 ?_
  refine er_sldN d_La_law_627 (by omega) (by omega) ?_
  refine er_aload_nR d_La_law_628 rfl ?_
  refine er_iload d_La_law_629 rfl ?_
  refine er_iconst (nI 3) d_La_law_631 (by decide) ?_
  refine er_iaddN d_La_law_632 ?_
  refine er_sldN d_La_law_633 (by omega) (by omega) ?_
  refine er_aload_nR d_La_law_634 rfl ?_
  refine er_iload d_La_law_635 rfl ?_
  refine er_iconst (nI 4) d_La_law_637 (by decide) ?_
  refine er_iaddN d_La_law_638 ?_
  refine er_sldN d_La_law_639 (by omega) (by omega) ?_
  refine er_callVE (As := [.int (G.2.2.2.2.2.2.2 (6 * n + 1)), .int (G.2.2.2.2.2.2.2 (6 * n + 2)), .int (G.2.2.2.2.2.2.2 (6 * n + 3)), .int (G.2.2.2.2.2.2.2 (6 * n + 4))]) d_La_law_640 k_La_law_91 hO2 rfl rfl rfl (Nat.le_of_ble_eq_true rfl) (by show uc + 5 + 0 ≤ 601024; omega) (by show us + 30 + 0 ≤ 7293034; omega) (jl_mE.mono (h2 σ2 fa hM2) (fun o3 σ3 ho3 => ?_))
  obtain ⟨eo, hM3, hfx⟩ := ho3
  refine ⟨_, eo, ?_⟩
  show jl_E l G m_La_law (uc + 5, us + 30) 643 [some (.retAddr G.2.2.2.2.2.1), some (.ref 0), some (.ref 22), some (.ref 53), some (.int (nI (6 * n))), some (.int (nI c)), none] [.int v] σ3 P
  obtain ⟨fs3, hO3⟩ := hM3.o
  have h533 : σ3[53]? = some (.inl (2, 1, .inr (.inl g))) := (hfx.2 53 (by decide)).trans h532
  refine er_istore d_La_law_643 (by decide) ?_
  show jl_E l G m_La_law (uc + 5, us + 30) 645 [some (.retAddr G.2.2.2.2.2.1), some (.ref 0), some (.ref 22), some (.ref 53), some (.int (nI (6 * n))), some (.int (nI c)), some (.int v)] [] σ3 P
  refine er_aload_n d_La_law_645 rfl ?_
  refine er_callV (As := []) d_La_law_646 k_La_law_68 hO3 rfl rfl rfl (Nat.le_of_ble_eq_true rfl) (by show uc + 5 + 0 ≤ 601024; omega) (by show us + 30 + 0 ≤ 7293034; omega) (hM3.thr hl) ?_
  show jl_E l G m_La_law (uc + 5, us + 30) 649 [some (.retAddr G.2.2.2.2.2.1), some (.ref 0), some (.ref 22), some (.ref 53), some (.int (nI (6 * n))), some (.int (nI c)), some (.int v)] [.int (nI c)] σ3 P
  refine er_iload d_La_law_649 rfl ?_
  refine er_icmp_eq 656 d_La_law_651 (by decide) (fun _ => ?_) (fun z => absurd rfl z)
  refine er_iload d_La_law_656 rfl ?_
  have hk : jl_E l G m_La_law (uc + 5, us + 30) 673 [some (.retAddr G.2.2.2.2.2.1), some (.ref 0), some (.ref 22), some (.ref 53), some (.int (nI (6 * n))), some (.int (nI c)), some (.int v)] [] σ3 P := er_weak (ls' := [some (.retAddr G.2.2.2.2.2.1), some (.ref 0), some (.ref 22), some (.ref 53), some (.int (nI (6 * n))), none, none]) (fun q v hv => by match q, hv with | 0, hv => exact hv | 1, hv => exact hv | 2, hv => exact hv | 3, hv => exact hv | 4, hv => exact hv | 5, hv => cases hv | 6, hv => cases hv | q + 7, hv => cases hv) (er_goto 1029 d_La_law_673 (by decide) (k σ3 U1 (nI c) g hU1 (hrc.fr hU1 hfx) hM3 h533))
  refine er_if_ne 673 d_La_law_658 (by decide) (fun _ => hk) (fun zc => ?_)
  have c0 : c = 0 := by
    have hc5 : c ≤ 2 := hc
    rw [← nI_0, nI_eq (by omega) (by omega)] at zc
    exact zc
  refine er_aload_n d_La_law_661 rfl ?_
  refine er_iconst (nI 0) d_La_law_662 (by decide) ?_
  refine er_lald d_La_law_663 h533 vp_in0 ?_
  refine er_iload d_La_law_664 rfl ?_
  refine er_i2l d_La_law_666 ?_
  refine er_lcmp d_La_law_667 ?_
  refine er_if_eq 673 d_La_law_668 (by decide) (fun _ => hk) (fun zl => absurd ?_ zl)
  have e0 : g (nI 0).toNatClampNeg = v.toInt64 := hg0 c0
  rw [e0]
  exact lg_self _
theorem d_La_law_676 : decode m_La_law.2.1 676 = .ok (.aload_n 1, 1) := by decide +kernel
theorem d_La_law_677 : decode m_La_law.2.1 677 = .ok (.aload_n 0, 1) := by decide +kernel
theorem d_La_law_678 : decode m_La_law.2.1 678 = .ok (.iload 4, 2) := by decide +kernel
theorem d_La_law_680 : decode m_La_law.2.1 680 = .ok (.iconst 1, 1) := by decide +kernel
theorem d_La_law_681 : decode m_La_law.2.1 681 = .ok (.iadd, 1) := by decide +kernel
theorem d_La_law_682 : decode m_La_law.2.1 682 = .ok (.iaload, 1) := by decide +kernel
theorem d_La_law_683 : decode m_La_law.2.1 683 = .ok (.ifCond .eq 7, 3) := by decide +kernel
theorem d_La_law_686 : decode m_La_law.2.1 686 = .ok (.iconst 1, 1) := by decide +kernel
theorem d_La_law_687 : decode m_La_law.2.1 687 = .ok (.goto 4, 3) := by decide +kernel
theorem k_La_law_92 : jl_cv m_La_law m_JC_fault 92 1 = true := by decide +kernel
theorem d_La_law_691 : decode m_La_law.2.1 691 = .ok (.invokevirtual 92, 3) := by decide +kernel
theorem d_La_law_694 : decode m_La_law.2.1 694 = .ok (.aload_n 2, 1) := by decide +kernel
theorem d_La_law_695 : decode m_La_law.2.1 695 = .ok (.aload_n 0, 1) := by decide +kernel
theorem d_La_law_696 : decode m_La_law.2.1 696 = .ok (.iload 4, 2) := by decide +kernel
theorem d_La_law_698 : decode m_La_law.2.1 698 = .ok (.iconst 1, 1) := by decide +kernel
theorem d_La_law_699 : decode m_La_law.2.1 699 = .ok (.iadd, 1) := by decide +kernel
theorem d_La_law_700 : decode m_La_law.2.1 700 = .ok (.iaload, 1) := by decide +kernel
theorem d_La_law_701 : decode m_La_law.2.1 701 = .ok (.ifCond .eq 7, 3) := by decide +kernel
theorem d_La_law_704 : decode m_La_law.2.1 704 = .ok (.iconst 1, 1) := by decide +kernel
theorem d_La_law_705 : decode m_La_law.2.1 705 = .ok (.goto 4, 3) := by decide +kernel
theorem k_La_law_96 : jl_cv m_La_law m_Mo_fault 96 1 = true := by decide +kernel
theorem d_La_law_709 : decode m_La_law.2.1 709 = .ok (.invokevirtual 96, 3) := by decide +kernel
theorem d_La_law_712 : decode m_La_law.2.1 712 = .ok (.if_icmp .eq 317, 3) := by decide +kernel
theorem law_fault1 (hl : l.stackTraces = false) {P : jl_O → jl_S → Prop} (hL : G.2.2.2.2.2.2.1 ≤ 3072) (hn : 6 * n + 6 ≤ G.2.2.2.2.2.2.1) (hU : UI U) (hC : RC σ U) (hM : RM σ U fa) (h53 : σ[53]? = some (.inl (2, 1, .inr (.inl f)))) (hu1 : uc + 15 ≤ 601024) (hu2 : us + 417 ≤ 7293034) (hg : ¬ G.2.2.2.2.2.2.2 (6 * n + 1) = 0) (k : ∀ (σ' : jl_S) (U' : Un) (fa' : Int32) (g : Nat → Int64), UI U' → RC σ' U' → RM σ' U' fa' → σ'[53]? = some (.inl (2, 1, .inr (.inl g))) → jl_E l G m_La_law (uc + 0, us + 0) 1029 [some (.retAddr G.2.2.2.2.2.1), some (.ref 0), some (.ref 22), some (.ref 53), some (.int (nI (6 * n))), none, none] [] σ' P) : jl_E l G m_La_law (uc, us) 676 [some (.retAddr G.2.2.2.2.2.1), some (.ref 0), some (.ref 22), some (.ref 53), some (.int (nI (6 * n))), none, none] [] σ P := by
  obtain ⟨c, v, U1, hU1, hc, h1, h2⟩ := co_fault (G := G) hl hU hC (b := nI 1)
  have c0 : c = 0 := Nat.le_zero.mp hc
  subst c0
  have hj := hC.j
  refine er_aload_n d_La_law_676 rfl ?_
  refine er_aload_nR d_La_law_677 rfl ?_
  refine er_iload d_La_law_678 rfl ?_
  refine er_iconst (nI 1) d_La_law_680 (by decide) ?_
  refine er_iaddN d_La_law_681 ?_
  refine er_sldN d_La_law_682 (by omega) (by omega) ?_
  refine er_if_eq 690 d_La_law_683 (by decide) (fun z => absurd z hg) (fun _ => ?_)
  refine er_iconst (nI 1) d_La_law_686 (by decide) ?_
  refine er_goto 691 d_La_law_687 (by decide) ?_
  refine er_callVE (As := [.int (nI 1)]) d_La_law_691 k_La_law_92 hj rfl rfl rfl (Nat.le_of_ble_eq_true rfl) (by show uc + 0 ≤ 601024; omega) (by show us + 0 ≤ 7293034; omega) (jl_mE.mono h1 (fun o2 σ2 ho2 => ?_))
  obtain ⟨eo, hrc, hfc⟩ := ho2
  refine ⟨_, eo, ?_⟩
  show jl_E l G m_La_law (uc + 0, us + 0) 694 [some (.retAddr G.2.2.2.2.2.1), some (.ref 0), some (.ref 22), some (.ref 53), some (.int (nI (6 * n))), none, none] [.int v] σ2 P
  have hM2 : RM σ2 U fa := hM.fr (fun i h1 h2 => hfc.2 i h1 (by omega))
  obtain ⟨fs2, hO2⟩ := hM2.o
  have h532 := (hfc.2 53 (by decide) (by decide)).trans h53
  refine er_aload_n d_La_law_694 rfl ?_
  refine er_aload_nR d_La_law_695 rfl ?_
  refine er_iload d_La_law_696 rfl ?_
  refine er_iconst (nI 1) d_La_law_698 (by decide) ?_
  refine er_iaddN d_La_law_699 ?_
  refine er_sldN d_La_law_700 (by omega) (by omega) ?_
  refine er_if_eq 708 d_La_law_701 (by decide) (fun z => absurd z hg) (fun _ => ?_)
  refine er_iconst (nI 1) d_La_law_704 (by decide) ?_
  refine er_goto 709 d_La_law_705 (by decide) ?_
  refine er_callVE (As := [.int (nI 1)]) d_La_law_709 k_La_law_96 hO2 rfl rfl rfl (Nat.le_of_ble_eq_true rfl) (by show uc + 0 ≤ 601024; omega) (by show us + 0 ≤ 7293034; omega) (jl_mE.mono (h2 σ2 fa hM2) (fun o3 σ3 ho3 => ?_))
  obtain ⟨eo3, hM3, hfx⟩ := ho3
  refine ⟨_, eo3, ?_⟩
  show jl_E l G m_La_law (uc + 0, us + 0) 712 [some (.retAddr G.2.2.2.2.2.1), some (.ref 0), some (.ref 22), some (.ref 53), some (.int (nI (6 * n))), none, none] [.int v, .int v] σ3 P
  refine er_icmp_eq 1029 d_La_law_712 (by decide) (fun _ => ?_) (fun z => absurd rfl z)
  exact k σ3 U1 (nI 0) f hU1 (hrc.fr hU1 hfx) hM3 ((hfx.2 53 (by decide)).trans h532)
theorem d_La_law_690 : decode m_La_law.2.1 690 = .ok (.iconst 0, 1) := by decide +kernel
theorem d_La_law_708 : decode m_La_law.2.1 708 = .ok (.iconst 0, 1) := by decide +kernel
theorem law_fault0 (hl : l.stackTraces = false) {P : jl_O → jl_S → Prop} (hL : G.2.2.2.2.2.2.1 ≤ 3072) (hn : 6 * n + 6 ≤ G.2.2.2.2.2.2.1) (hU : UI U) (hC : RC σ U) (hM : RM σ U fa) (h53 : σ[53]? = some (.inl (2, 1, .inr (.inl f)))) (hu1 : uc + 15 ≤ 601024) (hu2 : us + 417 ≤ 7293034) (hg : G.2.2.2.2.2.2.2 (6 * n + 1) = 0) (k : ∀ (σ' : jl_S) (U' : Un) (fa' : Int32) (g : Nat → Int64), UI U' → RC σ' U' → RM σ' U' fa' → σ'[53]? = some (.inl (2, 1, .inr (.inl g))) → jl_E l G m_La_law (uc + 0, us + 0) 1029 [some (.retAddr G.2.2.2.2.2.1), some (.ref 0), some (.ref 22), some (.ref 53), some (.int (nI (6 * n))), none, none] [] σ' P) : jl_E l G m_La_law (uc, us) 676 [some (.retAddr G.2.2.2.2.2.1), some (.ref 0), some (.ref 22), some (.ref 53), some (.int (nI (6 * n))), none, none] [] σ P := by
  obtain ⟨c, v, U1, hU1, hc, h1, h2⟩ := co_fault (G := G) hl hU hC (b := nI 0)
  have c0 : c = 0 := Nat.le_zero.mp hc
  subst c0
  have hj := hC.j
  refine er_aload_n d_La_law_676 rfl ?_
  refine er_aload_nR d_La_law_677 rfl ?_
  refine er_iload d_La_law_678 rfl ?_
  refine er_iconst (nI 1) d_La_law_680 (by decide) ?_
  refine er_iaddN d_La_law_681 ?_
  refine er_sldN d_La_law_682 (by omega) (by omega) ?_
  refine er_if_eq 690 d_La_law_683 (by decide) (fun _ => ?_) (fun z => absurd hg z)
  refine er_iconst (nI 0) d_La_law_690 (by decide) ?_
  refine er_callVE (As := [.int (nI 0)]) d_La_law_691 k_La_law_92 hj rfl rfl rfl (Nat.le_of_ble_eq_true rfl) (by show uc + 0 ≤ 601024; omega) (by show us + 0 ≤ 7293034; omega) (jl_mE.mono h1 (fun o2 σ2 ho2 => ?_))
  obtain ⟨eo, hrc, hfc⟩ := ho2
  refine ⟨_, eo, ?_⟩
  show jl_E l G m_La_law (uc + 0, us + 0) 694 [some (.retAddr G.2.2.2.2.2.1), some (.ref 0), some (.ref 22), some (.ref 53), some (.int (nI (6 * n))), none, none] [.int v] σ2 P
  have hM2 : RM σ2 U fa := hM.fr (fun i h1 h2 => hfc.2 i h1 (by omega))
  obtain ⟨fs2, hO2⟩ := hM2.o
  have h532 := (hfc.2 53 (by decide) (by decide)).trans h53
  refine er_aload_n d_La_law_694 rfl ?_
  refine er_aload_nR d_La_law_695 rfl ?_
  refine er_iload d_La_law_696 rfl ?_
  refine er_iconst (nI 1) d_La_law_698 (by decide) ?_
  refine er_iaddN d_La_law_699 ?_
  refine er_sldN d_La_law_700 (by omega) (by omega) ?_
  refine er_if_eq 708 d_La_law_701 (by decide) (fun _ => ?_) (fun z => absurd hg z)
  refine er_iconst (nI 0) d_La_law_708 (by decide) ?_
  refine er_callVE (As := [.int (nI 0)]) d_La_law_709 k_La_law_96 hO2 rfl rfl rfl (Nat.le_of_ble_eq_true rfl) (by show uc + 0 ≤ 601024; omega) (by show us + 0 ≤ 7293034; omega) (jl_mE.mono (h2 σ2 fa hM2) (fun o3 σ3 ho3 => ?_))
  obtain ⟨eo3, hM3, hfx⟩ := ho3
  refine ⟨_, eo3, ?_⟩
  show jl_E l G m_La_law (uc + 0, us + 0) 712 [some (.retAddr G.2.2.2.2.2.1), some (.ref 0), some (.ref 22), some (.ref 53), some (.int (nI (6 * n))), none, none] [.int v, .int v] σ3 P
  refine er_icmp_eq 1029 d_La_law_712 (by decide) (fun _ => ?_) (fun z => absurd rfl z)
  exact k σ3 U1 (nI 0) f hU1 (hrc.fr hU1 hfx) hM3 ((hfx.2 53 (by decide)).trans h532)
theorem d_La_law_717 : decode m_La_law.2.1 717 = .ok (.aload_n 1, 1) := by decide +kernel
theorem d_La_law_718 : decode m_La_law.2.1 718 = .ok (.aload_n 0, 1) := by decide +kernel
theorem d_La_law_719 : decode m_La_law.2.1 719 = .ok (.iload 4, 2) := by decide +kernel
theorem d_La_law_721 : decode m_La_law.2.1 721 = .ok (.iconst 1, 1) := by decide +kernel
theorem d_La_law_722 : decode m_La_law.2.1 722 = .ok (.iadd, 1) := by decide +kernel
theorem d_La_law_723 : decode m_La_law.2.1 723 = .ok (.iaload, 1) := by decide +kernel
theorem d_La_law_724 : decode m_La_law.2.1 724 = .ok (.aload_n 0, 1) := by decide +kernel
theorem d_La_law_725 : decode m_La_law.2.1 725 = .ok (.iload 4, 2) := by decide +kernel
theorem d_La_law_727 : decode m_La_law.2.1 727 = .ok (.iconst 2, 1) := by decide +kernel
theorem d_La_law_728 : decode m_La_law.2.1 728 = .ok (.iadd, 1) := by decide +kernel
theorem d_La_law_729 : decode m_La_law.2.1 729 = .ok (.iaload, 1) := by decide +kernel
theorem d_La_law_730 : decode m_La_law.2.1 730 = .ok (.aload_n 0, 1) := by decide +kernel
theorem d_La_law_731 : decode m_La_law.2.1 731 = .ok (.iload 4, 2) := by decide +kernel
theorem d_La_law_733 : decode m_La_law.2.1 733 = .ok (.iconst 3, 1) := by decide +kernel
theorem d_La_law_734 : decode m_La_law.2.1 734 = .ok (.iadd, 1) := by decide +kernel
theorem d_La_law_735 : decode m_La_law.2.1 735 = .ok (.iaload, 1) := by decide +kernel
theorem d_La_law_736 : decode m_La_law.2.1 736 = .ok (.aload_n 0, 1) := by decide +kernel
theorem d_La_law_737 : decode m_La_law.2.1 737 = .ok (.iload 4, 2) := by decide +kernel
theorem d_La_law_739 : decode m_La_law.2.1 739 = .ok (.iconst 4, 1) := by decide +kernel
theorem d_La_law_740 : decode m_La_law.2.1 740 = .ok (.iadd, 1) := by decide +kernel
theorem d_La_law_741 : decode m_La_law.2.1 741 = .ok (.iaload, 1) := by decide +kernel
theorem d_La_law_742 : decode m_La_law.2.1 742 = .ok (.aload_n 0, 1) := by decide +kernel
theorem d_La_law_743 : decode m_La_law.2.1 743 = .ok (.iload 4, 2) := by decide +kernel
theorem d_La_law_745 : decode m_La_law.2.1 745 = .ok (.iconst 5, 1) := by decide +kernel
theorem d_La_law_746 : decode m_La_law.2.1 746 = .ok (.iadd, 1) := by decide +kernel
theorem d_La_law_747 : decode m_La_law.2.1 747 = .ok (.iaload, 1) := by decide +kernel
theorem d_La_law_748 : decode m_La_law.2.1 748 = .ok (.ifCond .eq 7, 3) := by decide +kernel
theorem d_La_law_751 : decode m_La_law.2.1 751 = .ok (.iconst 1, 1) := by decide +kernel
theorem d_La_law_752 : decode m_La_law.2.1 752 = .ok (.goto 4, 3) := by decide +kernel
theorem d_La_law_756 : decode m_La_law.2.1 756 = .ok (.aload_n 3, 1) := by decide +kernel
theorem k_La_law_97 : jl_cw m_La_law m_La_run [(0, 16, 19, 13), (0, 16, 23, 20), (0, 16, 27, 15), (0, 16, 31, 37), (0, 16, 35, 46)] 97 7 = true := by decide +kernel
theorem d_La_law_757 : decode m_La_law.2.1 757 = .ok (.invokestatic 97, 3) := by decide +kernel
theorem d_La_law_760 : decode m_La_law.2.1 760 = .ok (.istore 5, 2) := by decide +kernel
theorem d_La_law_762 : decode m_La_law.2.1 762 = .ok (.aload_n 2, 1) := by decide +kernel
theorem d_La_law_763 : decode m_La_law.2.1 763 = .ok (.aload_n 0, 1) := by decide +kernel
theorem d_La_law_764 : decode m_La_law.2.1 764 = .ok (.iload 4, 2) := by decide +kernel
theorem d_La_law_766 : decode m_La_law.2.1 766 = .ok (.iconst 1, 1) := by decide +kernel
theorem d_La_law_767 : decode m_La_law.2.1 767 = .ok (.iadd, 1) := by decide +kernel
theorem d_La_law_768 : decode m_La_law.2.1 768 = .ok (.iaload, 1) := by decide +kernel
theorem d_La_law_769 : decode m_La_law.2.1 769 = .ok (.aload_n 0, 1) := by decide +kernel
theorem d_La_law_770 : decode m_La_law.2.1 770 = .ok (.iload 4, 2) := by decide +kernel
theorem d_La_law_772 : decode m_La_law.2.1 772 = .ok (.iconst 2, 1) := by decide +kernel
theorem d_La_law_773 : decode m_La_law.2.1 773 = .ok (.iadd, 1) := by decide +kernel
theorem d_La_law_774 : decode m_La_law.2.1 774 = .ok (.iaload, 1) := by decide +kernel
theorem d_La_law_775 : decode m_La_law.2.1 775 = .ok (.aload_n 0, 1) := by decide +kernel
theorem d_La_law_776 : decode m_La_law.2.1 776 = .ok (.iload 4, 2) := by decide +kernel
theorem d_La_law_778 : decode m_La_law.2.1 778 = .ok (.iconst 3, 1) := by decide +kernel
theorem d_La_law_779 : decode m_La_law.2.1 779 = .ok (.iadd, 1) := by decide +kernel
theorem d_La_law_780 : decode m_La_law.2.1 780 = .ok (.iaload, 1) := by decide +kernel
theorem d_La_law_781 : decode m_La_law.2.1 781 = .ok (.aload_n 0, 1) := by decide +kernel
theorem d_La_law_782 : decode m_La_law.2.1 782 = .ok (.iload 4, 2) := by decide +kernel
theorem d_La_law_784 : decode m_La_law.2.1 784 = .ok (.iconst 4, 1) := by decide +kernel
theorem d_La_law_785 : decode m_La_law.2.1 785 = .ok (.iadd, 1) := by decide +kernel
theorem d_La_law_786 : decode m_La_law.2.1 786 = .ok (.iaload, 1) := by decide +kernel
theorem d_La_law_787 : decode m_La_law.2.1 787 = .ok (.aload_n 0, 1) := by decide +kernel
theorem d_La_law_788 : decode m_La_law.2.1 788 = .ok (.iload 4, 2) := by decide +kernel
theorem d_La_law_790 : decode m_La_law.2.1 790 = .ok (.iconst 5, 1) := by decide +kernel
theorem d_La_law_791 : decode m_La_law.2.1 791 = .ok (.iadd, 1) := by decide +kernel
theorem d_La_law_792 : decode m_La_law.2.1 792 = .ok (.iaload, 1) := by decide +kernel
theorem d_La_law_793 : decode m_La_law.2.1 793 = .ok (.ifCond .eq 7, 3) := by decide +kernel
theorem d_La_law_796 : decode m_La_law.2.1 796 = .ok (.iconst 1, 1) := by decide +kernel
theorem d_La_law_797 : decode m_La_law.2.1 797 = .ok (.goto 4, 3) := by decide +kernel
theorem k_La_law_100 : jl_cv m_La_law m_Mo_run 100 5 = true := by decide +kernel
theorem d_La_law_801 : decode m_La_law.2.1 801 = .ok (.invokevirtual 100, 3) := by decide +kernel
theorem d_La_law_804 : decode m_La_law.2.1 804 = .ok (.istore 6, 2) := by decide +kernel
theorem d_La_law_806 : decode m_La_law.2.1 806 = .ok (.aload_n 2, 1) := by decide +kernel
theorem d_La_law_807 : decode m_La_law.2.1 807 = .ok (.invokevirtual 68, 3) := by decide +kernel
theorem d_La_law_810 : decode m_La_law.2.1 810 = .ok (.iload 5, 2) := by decide +kernel
theorem d_La_law_812 : decode m_La_law.2.1 812 = .ok (.if_icmp .eq 5, 3) := by decide +kernel
theorem d_La_law_817 : decode m_La_law.2.1 817 = .ok (.iload 5, 2) := by decide +kernel
theorem d_La_law_834 : decode m_La_law.2.1 834 = .ok (.goto 195, 3) := by decide +kernel
theorem d_La_law_819 : decode m_La_law.2.1 819 = .ok (.ifCond .ne 15, 3) := by decide +kernel
theorem d_La_law_822 : decode m_La_law.2.1 822 = .ok (.aload_n 3, 1) := by decide +kernel
theorem d_La_law_823 : decode m_La_law.2.1 823 = .ok (.iconst 0, 1) := by decide +kernel
theorem d_La_law_824 : decode m_La_law.2.1 824 = .ok (.laload, 1) := by decide +kernel
theorem d_La_law_825 : decode m_La_law.2.1 825 = .ok (.iload 6, 2) := by decide +kernel
theorem d_La_law_827 : decode m_La_law.2.1 827 = .ok (.i2l, 1) := by decide +kernel
theorem d_La_law_828 : decode m_La_law.2.1 828 = .ok (.lcmp, 1) := by decide +kernel
theorem d_La_law_829 : decode m_La_law.2.1 829 = .ok (.ifCond .eq 5, 3) := by decide +kernel
theorem law_run1 (hl : l.stackTraces = false) {P : jl_O → jl_S → Prop} (hL : G.2.2.2.2.2.2.1 ≤ 3072) (hn : 6 * n + 6 ≤ G.2.2.2.2.2.2.1) (hU : UI U) (hC : RC σ U) (hM : RM σ U fa) (h53 : σ[53]? = some (.inl (2, 1, .inr (.inl f)))) (hu1 : uc + 15 ≤ 601024) (hu2 : us + 417 ≤ 7293034) (hg : ¬ G.2.2.2.2.2.2.2 (6 * n + 5) = 0) (k : ∀ (σ' : jl_S) (U' : Un) (fa' : Int32) (g : Nat → Int64), UI U' → RC σ' U' → RM σ' U' fa' → σ'[53]? = some (.inl (2, 1, .inr (.inl g))) → jl_E l G m_La_law (uc + 6, us + 36) 1029 [some (.retAddr G.2.2.2.2.2.1), some (.ref 0), some (.ref 22), some (.ref 53), some (.int (nI (6 * n))), none, none] [] σ' P) : jl_E l G m_La_law (uc, us) 717 [some (.retAddr G.2.2.2.2.2.1), some (.ref 0), some (.ref 22), some (.ref 53), some (.int (nI (6 * n))), none, none] [] σ P := by
  obtain ⟨c, v, U1, hU1, hc, h1, h2⟩ := co_run (G := G) (gd := true) hl hU hC (k := G.2.2.2.2.2.2.2 (6 * n + 1)) (xa := G.2.2.2.2.2.2.2 (6 * n + 2)) (xb := G.2.2.2.2.2.2.2 (6 * n + 3)) (fu := G.2.2.2.2.2.2.2 (6 * n + 4))
  have hj := hC.j
  refine er_aload_n d_La_law_717 rfl ?_
  refine er_aload_nR d_La_law_718 rfl ?_
  refine er_iload d_La_law_719 rfl ?_
  refine er_iconst (nI 1) d_La_law_721 (by decide) ?_
  refine er_iaddN d_La_law_722 ?_
  refine er_sldN d_La_law_723 (by omega) (by omega) ?_
  refine er_aload_nR d_La_law_724 rfl ?_
  refine er_iload d_La_law_725 rfl ?_
  refine er_iconst (nI 2) d_La_law_727 (by decide) ?_
  refine er_iaddN d_La_law_728 ?_
  refine er_sldN d_La_law_729 (by omega) (by omega) ?_
  refine er_aload_nR d_La_law_730 rfl ?_
  refine er_iload d_La_law_731 rfl ?_
  refine er_iconst (nI 3) d_La_law_733 (by decide) ?_
  refine er_iaddN d_La_law_734 ?_
  refine er_sldN d_La_law_735 (by omega) (by omega) ?_
  refine er_aload_nR d_La_law_736 rfl ?_
  refine er_iload d_La_law_737 rfl ?_
  refine er_iconst (nI 4) d_La_law_739 (by decide) ?_
  refine er_iaddN d_La_law_740 ?_
  refine er_sldN d_La_law_741 (by omega) (by omega) ?_
  refine er_aload_nR d_La_law_742 rfl ?_
  refine er_iload d_La_law_743 rfl ?_
  refine er_iconst (nI 5) d_La_law_745 (by decide) ?_
  refine er_iaddN d_La_law_746 ?_
  refine er_sldN d_La_law_747 (by omega) (by omega) ?_
  refine er_if_eq 755 d_La_law_748 (by decide) (fun z => absurd z hg) (fun _ => ?_)
  refine er_iconst (nI 1) d_La_law_751 (by decide) ?_
  refine er_goto 756 d_La_law_752 (by decide) ?_
  refine er_aload_n d_La_law_756 rfl ?_
  refine er_callSWE (As := [.ref 0, .int (G.2.2.2.2.2.2.2 (6 * n + 1)), .int (G.2.2.2.2.2.2.2 (6 * n + 2)), .int (G.2.2.2.2.2.2.2 (6 * n + 3)), .int (G.2.2.2.2.2.2.2 (6 * n + 4)), .int (nI 1), .ref 53]) d_La_law_757 k_La_law_97 rfl (Nat.le_of_ble_eq_true rfl) (by show uc + 6 ≤ 601024; omega) (by show us + 36 ≤ 7293034; omega) (la_run hl hj h53 hU1 hc h1 (fun g σ2 hrc hfr h532 hg0 => ⟨_, rfl, ?_⟩))
  show jl_E l G m_La_law (uc + 6, us + 36) 760 [some (.retAddr G.2.2.2.2.2.1), some (.ref 0), some (.ref 22), some (.ref 53), some (.int (nI (6 * n))), none, none] [.int (nI c)] σ2 P
  have hM2 : RM σ2 U fa := hM.fr hfr
  obtain ⟨fs2, hO2⟩ := hM2.o
  refine er_istore d_La_law_760 (by decide) ?_
  show jl_E l G m_La_law (uc + 6, us + 36) 762 [some (.retAddr G.2.2.2.2.2.1), some (.ref 0), some (.ref 22), some (.ref 53), some (.int (nI (6 * n))), some (.int (nI c)), none] [] σ2 P
  refine er_aload_n d_La_law_762 rfl ?_
  refine er_aload_nR d_La_law_763 rfl ?_
  refine er_iload d_La_law_764 rfl ?_
  refine er_iconst (nI 1) d_La_law_766 (by decide) ?_
  refine er_iaddN d_La_law_767 ?_
  refine er_sldN d_La_law_768 (by omega) (by omega) ?_
  refine er_aload_nR d_La_law_769 rfl ?_
  refine er_iload d_La_law_770 rfl ?_
  refine er_iconst (nI 2) d_La_law_772 (by decide) ?_
  refine er_iaddN d_La_law_773 ?_
  refine er_sldN d_La_law_774 (by omega) (by omega) ?_
  refine er_aload_nR d_La_law_775 rfl ?_
  refine er_iload d_La_law_776 rfl ?_
  refine er_iconst (nI 3) d_La_law_778 (by decide) ?_
  refine er_iaddN d_La_law_779 ?_
  refine er_sldN d_La_law_780 (by omega) (by omega) ?_
  refine er_aload_nR d_La_law_781 rfl ?_
  refine er_iload d_La_law_782 rfl ?_
  refine er_iconst (nI 4) d_La_law_784 (by decide) ?_
  refine er_iaddN d_La_law_785 ?_
  refine er_sldN d_La_law_786 (by omega) (by omega) ?_
  refine er_aload_nR d_La_law_787 rfl ?_
  refine er_iload d_La_law_788 rfl ?_
  refine er_iconst (nI 5) d_La_law_790 (by decide) ?_
  refine er_iaddN d_La_law_791 ?_
  refine er_sldN d_La_law_792 (by omega) (by omega) ?_
  refine er_if_eq 800 d_La_law_793 (by decide) (fun z => absurd z hg) (fun _ => ?_)
  refine er_iconst (nI 1) d_La_law_796 (by decide) ?_
  refine er_goto 801 d_La_law_797 (by decide) ?_
  refine er_callVE (As := [.int (G.2.2.2.2.2.2.2 (6 * n + 1)), .int (G.2.2.2.2.2.2.2 (6 * n + 2)), .int (G.2.2.2.2.2.2.2 (6 * n + 3)), .int (G.2.2.2.2.2.2.2 (6 * n + 4)), .int (nI 1)]) d_La_law_801 k_La_law_100 hO2 rfl rfl rfl (Nat.le_of_ble_eq_true rfl) (by show uc + 6 + 0 ≤ 601024; omega) (by show us + 36 + 0 ≤ 7293034; omega) (jl_mE.mono (h2 σ2 fa hM2) (fun o3 σ3 ho3 => ?_))
  obtain ⟨eo, hM3, hfx⟩ := ho3
  refine ⟨_, eo, ?_⟩
  show jl_E l G m_La_law (uc + 6, us + 36) 804 [some (.retAddr G.2.2.2.2.2.1), some (.ref 0), some (.ref 22), some (.ref 53), some (.int (nI (6 * n))), some (.int (nI c)), none] [.int v] σ3 P
  obtain ⟨fs3, hO3⟩ := hM3.o
  have h533 : σ3[53]? = some (.inl (2, 1, .inr (.inl g))) := (hfx.2 53 (by decide)).trans h532
  refine er_istore d_La_law_804 (by decide) ?_
  show jl_E l G m_La_law (uc + 6, us + 36) 806 [some (.retAddr G.2.2.2.2.2.1), some (.ref 0), some (.ref 22), some (.ref 53), some (.int (nI (6 * n))), some (.int (nI c)), some (.int v)] [] σ3 P
  refine er_aload_n d_La_law_806 rfl ?_
  refine er_callV (As := []) d_La_law_807 k_La_law_68 hO3 rfl rfl rfl (Nat.le_of_ble_eq_true rfl) (by show uc + 6 + 0 ≤ 601024; omega) (by show us + 36 + 0 ≤ 7293034; omega) (hM3.thr hl) ?_
  show jl_E l G m_La_law (uc + 6, us + 36) 810 [some (.retAddr G.2.2.2.2.2.1), some (.ref 0), some (.ref 22), some (.ref 53), some (.int (nI (6 * n))), some (.int (nI c)), some (.int v)] [.int (nI c)] σ3 P
  refine er_iload d_La_law_810 rfl ?_
  refine er_icmp_eq 817 d_La_law_812 (by decide) (fun _ => ?_) (fun z => absurd rfl z)
  refine er_iload d_La_law_817 rfl ?_
  have hk : jl_E l G m_La_law (uc + 6, us + 36) 834 [some (.retAddr G.2.2.2.2.2.1), some (.ref 0), some (.ref 22), some (.ref 53), some (.int (nI (6 * n))), some (.int (nI c)), some (.int v)] [] σ3 P := er_weak (ls' := [some (.retAddr G.2.2.2.2.2.1), some (.ref 0), some (.ref 22), some (.ref 53), some (.int (nI (6 * n))), none, none]) (fun q v hv => by match q, hv with | 0, hv => exact hv | 1, hv => exact hv | 2, hv => exact hv | 3, hv => exact hv | 4, hv => exact hv | 5, hv => cases hv | 6, hv => cases hv | q + 7, hv => cases hv) (er_goto 1029 d_La_law_834 (by decide) (k σ3 U1 (nI c) g hU1 (hrc.fr hU1 hfx) hM3 h533))
  refine er_if_ne 834 d_La_law_819 (by decide) (fun _ => hk) (fun zc => ?_)
  have c0 : c = 0 := by
    have hc5 : c ≤ 5 := hc
    rw [← nI_0, nI_eq (by omega) (by omega)] at zc
    exact zc
  refine er_aload_n d_La_law_822 rfl ?_
  refine er_iconst (nI 0) d_La_law_823 (by decide) ?_
  refine er_lald d_La_law_824 h533 vp_in0 ?_
  refine er_iload d_La_law_825 rfl ?_
  refine er_i2l d_La_law_827 ?_
  refine er_lcmp d_La_law_828 ?_
  refine er_if_eq 834 d_La_law_829 (by decide) (fun _ => hk) (fun zl => absurd ?_ zl)
  have e0 : g (nI 0).toNatClampNeg = v.toInt64 := hg0 c0
  rw [e0]
  exact lg_self _
theorem d_La_law_755 : decode m_La_law.2.1 755 = .ok (.iconst 0, 1) := by decide +kernel
theorem d_La_law_800 : decode m_La_law.2.1 800 = .ok (.iconst 0, 1) := by decide +kernel
theorem law_run0 (hl : l.stackTraces = false) {P : jl_O → jl_S → Prop} (hL : G.2.2.2.2.2.2.1 ≤ 3072) (hn : 6 * n + 6 ≤ G.2.2.2.2.2.2.1) (hU : UI U) (hC : RC σ U) (hM : RM σ U fa) (h53 : σ[53]? = some (.inl (2, 1, .inr (.inl f)))) (hu1 : uc + 15 ≤ 601024) (hu2 : us + 417 ≤ 7293034) (hg : G.2.2.2.2.2.2.2 (6 * n + 5) = 0) (k : ∀ (σ' : jl_S) (U' : Un) (fa' : Int32) (g : Nat → Int64), UI U' → RC σ' U' → RM σ' U' fa' → σ'[53]? = some (.inl (2, 1, .inr (.inl g))) → jl_E l G m_La_law (uc + 6, us + 36) 1029 [some (.retAddr G.2.2.2.2.2.1), some (.ref 0), some (.ref 22), some (.ref 53), some (.int (nI (6 * n))), none, none] [] σ' P) : jl_E l G m_La_law (uc, us) 717 [some (.retAddr G.2.2.2.2.2.1), some (.ref 0), some (.ref 22), some (.ref 53), some (.int (nI (6 * n))), none, none] [] σ P := by
  obtain ⟨c, v, U1, hU1, hc, h1, h2⟩ := co_run (G := G) (gd := false) hl hU hC (k := G.2.2.2.2.2.2.2 (6 * n + 1)) (xa := G.2.2.2.2.2.2.2 (6 * n + 2)) (xb := G.2.2.2.2.2.2.2 (6 * n + 3)) (fu := G.2.2.2.2.2.2.2 (6 * n + 4))
  have hj := hC.j
  refine er_aload_n d_La_law_717 rfl ?_
  refine er_aload_nR d_La_law_718 rfl ?_
  refine er_iload d_La_law_719 rfl ?_
  refine er_iconst (nI 1) d_La_law_721 (by decide) ?_
  refine er_iaddN d_La_law_722 ?_
  refine er_sldN d_La_law_723 (by omega) (by omega) ?_
  refine er_aload_nR d_La_law_724 rfl ?_
  refine er_iload d_La_law_725 rfl ?_
  refine er_iconst (nI 2) d_La_law_727 (by decide) ?_
  refine er_iaddN d_La_law_728 ?_
  refine er_sldN d_La_law_729 (by omega) (by omega) ?_
  refine er_aload_nR d_La_law_730 rfl ?_
  refine er_iload d_La_law_731 rfl ?_
  refine er_iconst (nI 3) d_La_law_733 (by decide) ?_
  refine er_iaddN d_La_law_734 ?_
  refine er_sldN d_La_law_735 (by omega) (by omega) ?_
  refine er_aload_nR d_La_law_736 rfl ?_
  refine er_iload d_La_law_737 rfl ?_
  refine er_iconst (nI 4) d_La_law_739 (by decide) ?_
  refine er_iaddN d_La_law_740 ?_
  refine er_sldN d_La_law_741 (by omega) (by omega) ?_
  refine er_aload_nR d_La_law_742 rfl ?_
  refine er_iload d_La_law_743 rfl ?_
  refine er_iconst (nI 5) d_La_law_745 (by decide) ?_
  refine er_iaddN d_La_law_746 ?_
  refine er_sldN d_La_law_747 (by omega) (by omega) ?_
  refine er_if_eq 755 d_La_law_748 (by decide) (fun _ => ?_) (fun z => absurd hg z)
  refine er_iconst (nI 0) d_La_law_755 (by decide) ?_
  refine er_aload_n d_La_law_756 rfl ?_
  refine er_callSWE (As := [.ref 0, .int (G.2.2.2.2.2.2.2 (6 * n + 1)), .int (G.2.2.2.2.2.2.2 (6 * n + 2)), .int (G.2.2.2.2.2.2.2 (6 * n + 3)), .int (G.2.2.2.2.2.2.2 (6 * n + 4)), .int (nI 0), .ref 53]) d_La_law_757 k_La_law_97 rfl (Nat.le_of_ble_eq_true rfl) (by show uc + 6 ≤ 601024; omega) (by show us + 36 ≤ 7293034; omega) (la_run hl hj h53 hU1 hc h1 (fun g σ2 hrc hfr h532 hg0 => ⟨_, rfl, ?_⟩))
  show jl_E l G m_La_law (uc + 6, us + 36) 760 [some (.retAddr G.2.2.2.2.2.1), some (.ref 0), some (.ref 22), some (.ref 53), some (.int (nI (6 * n))), none, none] [.int (nI c)] σ2 P
  have hM2 : RM σ2 U fa := hM.fr hfr
  obtain ⟨fs2, hO2⟩ := hM2.o
  refine er_istore d_La_law_760 (by decide) ?_
  show jl_E l G m_La_law (uc + 6, us + 36) 762 [some (.retAddr G.2.2.2.2.2.1), some (.ref 0), some (.ref 22), some (.ref 53), some (.int (nI (6 * n))), some (.int (nI c)), none] [] σ2 P
  refine er_aload_n d_La_law_762 rfl ?_
  refine er_aload_nR d_La_law_763 rfl ?_
  refine er_iload d_La_law_764 rfl ?_
  refine er_iconst (nI 1) d_La_law_766 (by decide) ?_
  refine er_iaddN d_La_law_767 ?_
  refine er_sldN d_La_law_768 (by omega) (by omega) ?_
  refine er_aload_nR d_La_law_769 rfl ?_
  refine er_iload d_La_law_770 rfl ?_
  refine er_iconst (nI 2) d_La_law_772 (by decide) ?_
  refine er_iaddN d_La_law_773 ?_
  refine er_sldN d_La_law_774 (by omega) (by omega) ?_
  refine er_aload_nR d_La_law_775 rfl ?_
  refine er_iload d_La_law_776 rfl ?_
  refine er_iconst (nI 3) d_La_law_778 (by decide) ?_
  refine er_iaddN d_La_law_779 ?_
  refine er_sldN d_La_law_780 (by omega) (by omega) ?_
  refine er_aload_nR d_La_law_781 rfl ?_
  refine er_iload d_La_law_782 rfl ?_
  refine er_iconst (nI 4) d_La_law_784 (by decide) ?_
  refine er_iaddN d_La_law_785 ?_
  refine er_sldN d_La_law_786 (by omega) (by omega) ?_
  refine er_aload_nR d_La_law_787 rfl ?_
  refine er_iload d_La_law_788 rfl ?_
  refine er_iconst (nI 5) d_La_law_790 (by decide) ?_
  refine er_iaddN d_La_law_791 ?_
  refine er_sldN d_La_law_792 (by omega) (by omega) ?_
  refine er_if_eq 800 d_La_law_793 (by decide) (fun _ => ?_) (fun z => absurd hg z)
  refine er_iconst (nI 0) d_La_law_800 (by decide) ?_
  refine er_callVE (As := [.int (G.2.2.2.2.2.2.2 (6 * n + 1)), .int (G.2.2.2.2.2.2.2 (6 * n + 2)), .int (G.2.2.2.2.2.2.2 (6 * n + 3)), .int (G.2.2.2.2.2.2.2 (6 * n + 4)), .int (nI 0)]) d_La_law_801 k_La_law_100 hO2 rfl rfl rfl (Nat.le_of_ble_eq_true rfl) (by show uc + 6 + 0 ≤ 601024; omega) (by show us + 36 + 0 ≤ 7293034; omega) (jl_mE.mono (h2 σ2 fa hM2) (fun o3 σ3 ho3 => ?_))
  obtain ⟨eo, hM3, hfx⟩ := ho3
  refine ⟨_, eo, ?_⟩
  show jl_E l G m_La_law (uc + 6, us + 36) 804 [some (.retAddr G.2.2.2.2.2.1), some (.ref 0), some (.ref 22), some (.ref 53), some (.int (nI (6 * n))), some (.int (nI c)), none] [.int v] σ3 P
  obtain ⟨fs3, hO3⟩ := hM3.o
  have h533 : σ3[53]? = some (.inl (2, 1, .inr (.inl g))) := (hfx.2 53 (by decide)).trans h532
  refine er_istore d_La_law_804 (by decide) ?_
  show jl_E l G m_La_law (uc + 6, us + 36) 806 [some (.retAddr G.2.2.2.2.2.1), some (.ref 0), some (.ref 22), some (.ref 53), some (.int (nI (6 * n))), some (.int (nI c)), some (.int v)] [] σ3 P
  refine er_aload_n d_La_law_806 rfl ?_
  refine er_callV (As := []) d_La_law_807 k_La_law_68 hO3 rfl rfl rfl (Nat.le_of_ble_eq_true rfl) (by show uc + 6 + 0 ≤ 601024; omega) (by show us + 36 + 0 ≤ 7293034; omega) (hM3.thr hl) ?_
  show jl_E l G m_La_law (uc + 6, us + 36) 810 [some (.retAddr G.2.2.2.2.2.1), some (.ref 0), some (.ref 22), some (.ref 53), some (.int (nI (6 * n))), some (.int (nI c)), some (.int v)] [.int (nI c)] σ3 P
  refine er_iload d_La_law_810 rfl ?_
  refine er_icmp_eq 817 d_La_law_812 (by decide) (fun _ => ?_) (fun z => absurd rfl z)
  refine er_iload d_La_law_817 rfl ?_
  have hk : jl_E l G m_La_law (uc + 6, us + 36) 834 [some (.retAddr G.2.2.2.2.2.1), some (.ref 0), some (.ref 22), some (.ref 53), some (.int (nI (6 * n))), some (.int (nI c)), some (.int v)] [] σ3 P := er_weak (ls' := [some (.retAddr G.2.2.2.2.2.1), some (.ref 0), some (.ref 22), some (.ref 53), some (.int (nI (6 * n))), none, none]) (fun q v hv => by match q, hv with | 0, hv => exact hv | 1, hv => exact hv | 2, hv => exact hv | 3, hv => exact hv | 4, hv => exact hv | 5, hv => cases hv | 6, hv => cases hv | q + 7, hv => cases hv) (er_goto 1029 d_La_law_834 (by decide) (k σ3 U1 (nI c) g hU1 (hrc.fr hU1 hfx) hM3 h533))
  refine er_if_ne 834 d_La_law_819 (by decide) (fun _ => hk) (fun zc => ?_)
  have c0 : c = 0 := by
    have hc5 : c ≤ 5 := hc
    rw [← nI_0, nI_eq (by omega) (by omega)] at zc
    exact zc
  refine er_aload_n d_La_law_822 rfl ?_
  refine er_iconst (nI 0) d_La_law_823 (by decide) ?_
  refine er_lald d_La_law_824 h533 vp_in0 ?_
  refine er_iload d_La_law_825 rfl ?_
  refine er_i2l d_La_law_827 ?_
  refine er_lcmp d_La_law_828 ?_
  refine er_if_eq 834 d_La_law_829 (by decide) (fun _ => hk) (fun zl => absurd ?_ zl)
  have e0 : g (nI 0).toNatClampNeg = v.toInt64 := hg0 c0
  rw [e0]
  exact lg_self _
theorem d_La_law_837 : decode m_La_law.2.1 837 = .ok (.aload_n 1, 1) := by decide +kernel
theorem d_La_law_838 : decode m_La_law.2.1 838 = .ok (.aload_n 0, 1) := by decide +kernel
theorem d_La_law_839 : decode m_La_law.2.1 839 = .ok (.iload 4, 2) := by decide +kernel
theorem d_La_law_841 : decode m_La_law.2.1 841 = .ok (.iconst 1, 1) := by decide +kernel
theorem d_La_law_842 : decode m_La_law.2.1 842 = .ok (.iadd, 1) := by decide +kernel
theorem d_La_law_843 : decode m_La_law.2.1 843 = .ok (.iaload, 1) := by decide +kernel
theorem d_La_law_844 : decode m_La_law.2.1 844 = .ok (.aload_n 3, 1) := by decide +kernel
theorem k_La_law_101 : jl_cw m_La_law m_La_outcome [(0, 9, 12, 13)] 101 3 = true := by decide +kernel
theorem d_La_law_845 : decode m_La_law.2.1 845 = .ok (.invokestatic 101, 3) := by decide +kernel
theorem d_La_law_848 : decode m_La_law.2.1 848 = .ok (.istore 5, 2) := by decide +kernel
theorem d_La_law_850 : decode m_La_law.2.1 850 = .ok (.aload_n 2, 1) := by decide +kernel
theorem d_La_law_851 : decode m_La_law.2.1 851 = .ok (.aload_n 0, 1) := by decide +kernel
theorem d_La_law_852 : decode m_La_law.2.1 852 = .ok (.iload 4, 2) := by decide +kernel
theorem d_La_law_854 : decode m_La_law.2.1 854 = .ok (.iconst 1, 1) := by decide +kernel
theorem d_La_law_855 : decode m_La_law.2.1 855 = .ok (.iadd, 1) := by decide +kernel
theorem d_La_law_856 : decode m_La_law.2.1 856 = .ok (.iaload, 1) := by decide +kernel
theorem k_La_law_104 : jl_cv m_La_law m_Mo_outcome 104 1 = true := by decide +kernel
theorem d_La_law_857 : decode m_La_law.2.1 857 = .ok (.invokevirtual 104, 3) := by decide +kernel
theorem d_La_law_860 : decode m_La_law.2.1 860 = .ok (.istore 6, 2) := by decide +kernel
theorem d_La_law_862 : decode m_La_law.2.1 862 = .ok (.aload_n 2, 1) := by decide +kernel
theorem d_La_law_863 : decode m_La_law.2.1 863 = .ok (.invokevirtual 68, 3) := by decide +kernel
theorem d_La_law_866 : decode m_La_law.2.1 866 = .ok (.iload 5, 2) := by decide +kernel
theorem d_La_law_868 : decode m_La_law.2.1 868 = .ok (.if_icmp .eq 5, 3) := by decide +kernel
theorem d_La_law_873 : decode m_La_law.2.1 873 = .ok (.iload 5, 2) := by decide +kernel
theorem d_La_law_890 : decode m_La_law.2.1 890 = .ok (.goto 139, 3) := by decide +kernel
theorem d_La_law_875 : decode m_La_law.2.1 875 = .ok (.ifCond .ne 15, 3) := by decide +kernel
theorem d_La_law_878 : decode m_La_law.2.1 878 = .ok (.aload_n 3, 1) := by decide +kernel
theorem d_La_law_879 : decode m_La_law.2.1 879 = .ok (.iconst 0, 1) := by decide +kernel
theorem d_La_law_880 : decode m_La_law.2.1 880 = .ok (.laload, 1) := by decide +kernel
theorem d_La_law_881 : decode m_La_law.2.1 881 = .ok (.iload 6, 2) := by decide +kernel
theorem d_La_law_883 : decode m_La_law.2.1 883 = .ok (.i2l, 1) := by decide +kernel
theorem d_La_law_884 : decode m_La_law.2.1 884 = .ok (.lcmp, 1) := by decide +kernel
theorem d_La_law_885 : decode m_La_law.2.1 885 = .ok (.ifCond .eq 5, 3) := by decide +kernel
theorem law_outcome (hl : l.stackTraces = false) {P : jl_O → jl_S → Prop} (hL : G.2.2.2.2.2.2.1 ≤ 3072) (hn : 6 * n + 6 ≤ G.2.2.2.2.2.2.1) (hU : UI U) (hC : RC σ U) (hM : RM σ U fa) (h53 : σ[53]? = some (.inl (2, 1, .inr (.inl f)))) (hu1 : uc + 15 ≤ 601024) (hu2 : us + 417 ≤ 7293034) (k : ∀ (σ' : jl_S) (U' : Un) (fa' : Int32) (g : Nat → Int64), UI U' → RC σ' U' → RM σ' U' fa' → σ'[53]? = some (.inl (2, 1, .inr (.inl g))) → jl_E l G m_La_law (uc + 1, us + 6) 1029 [some (.retAddr G.2.2.2.2.2.1), some (.ref 0), some (.ref 22), some (.ref 53), some (.int (nI (6 * n))), none, none] [] σ' P) : jl_E l G m_La_law (uc, us) 837 [some (.retAddr G.2.2.2.2.2.1), some (.ref 0), some (.ref 22), some (.ref 53), some (.int (nI (6 * n))), none, none] [] σ P := by
  obtain ⟨c, v, U1, hU1, hc, h1, h2⟩ := co_outcome (G := G) hl hU hC (w := G.2.2.2.2.2.2.2 (6 * n + 1))
  have hj := hC.j
  refine er_aload_n d_La_law_837 rfl ?_
  refine er_aload_nR d_La_law_838 rfl ?_
  refine er_iload d_La_law_839 rfl ?_
  refine er_iconst (nI 1) d_La_law_841 (by decide) ?_
  refine er_iaddN d_La_law_842 ?_
  refine er_sldN d_La_law_843 (by omega) (by omega) ?_
  refine er_aload_n d_La_law_844 rfl ?_
  refine er_callSWE (As := [.ref 0, .int (G.2.2.2.2.2.2.2 (6 * n + 1)), .ref 53]) d_La_law_845 k_La_law_101 rfl (Nat.le_of_ble_eq_true rfl) (by show uc + 1 ≤ 601024; omega) (by show us + 6 ≤ 7293034; omega) (la_outcome hl hj h53 hU1 hc h1 (fun g σ2 hrc hfr h532 hg0 => ⟨_, rfl, ?_⟩))
  show jl_E l G m_La_law (uc + 1, us + 6) 848 [some (.retAddr G.2.2.2.2.2.1), some (.ref 0), some (.ref 22), some (.ref 53), some (.int (nI (6 * n))), none, none] [.int (nI c)] σ2 P
  have hM2 : RM σ2 U fa := hM.fr hfr
  obtain ⟨fs2, hO2⟩ := hM2.o
  refine er_istore d_La_law_848 (by decide) ?_
  show jl_E l G m_La_law (uc + 1, us + 6) 850 [some (.retAddr G.2.2.2.2.2.1), some (.ref 0), some (.ref 22), some (.ref 53), some (.int (nI (6 * n))), some (.int (nI c)), none] [] σ2 P
  refine er_aload_n d_La_law_850 rfl ?_
  refine er_aload_nR d_La_law_851 rfl ?_
  refine er_iload d_La_law_852 rfl ?_
  refine er_iconst (nI 1) d_La_law_854 (by decide) ?_
  refine er_iaddN d_La_law_855 ?_
  refine er_sldN d_La_law_856 (by omega) (by omega) ?_
  refine er_callVE (As := [.int (G.2.2.2.2.2.2.2 (6 * n + 1))]) d_La_law_857 k_La_law_104 hO2 rfl rfl rfl (Nat.le_of_ble_eq_true rfl) (by show uc + 1 + 0 ≤ 601024; omega) (by show us + 6 + 0 ≤ 7293034; omega) (jl_mE.mono (h2 σ2 fa hM2) (fun o3 σ3 ho3 => ?_))
  obtain ⟨eo, hM3, hfx⟩ := ho3
  refine ⟨_, eo, ?_⟩
  show jl_E l G m_La_law (uc + 1, us + 6) 860 [some (.retAddr G.2.2.2.2.2.1), some (.ref 0), some (.ref 22), some (.ref 53), some (.int (nI (6 * n))), some (.int (nI c)), none] [.int v] σ3 P
  obtain ⟨fs3, hO3⟩ := hM3.o
  have h533 : σ3[53]? = some (.inl (2, 1, .inr (.inl g))) := (hfx.2 53 (by decide)).trans h532
  refine er_istore d_La_law_860 (by decide) ?_
  show jl_E l G m_La_law (uc + 1, us + 6) 862 [some (.retAddr G.2.2.2.2.2.1), some (.ref 0), some (.ref 22), some (.ref 53), some (.int (nI (6 * n))), some (.int (nI c)), some (.int v)] [] σ3 P
  refine er_aload_n d_La_law_862 rfl ?_
  refine er_callV (As := []) d_La_law_863 k_La_law_68 hO3 rfl rfl rfl (Nat.le_of_ble_eq_true rfl) (by show uc + 1 + 0 ≤ 601024; omega) (by show us + 6 + 0 ≤ 7293034; omega) (hM3.thr hl) ?_
  show jl_E l G m_La_law (uc + 1, us + 6) 866 [some (.retAddr G.2.2.2.2.2.1), some (.ref 0), some (.ref 22), some (.ref 53), some (.int (nI (6 * n))), some (.int (nI c)), some (.int v)] [.int (nI c)] σ3 P
  refine er_iload d_La_law_866 rfl ?_
  refine er_icmp_eq 873 d_La_law_868 (by decide) (fun _ => ?_) (fun z => absurd rfl z)
  refine er_iload d_La_law_873 rfl ?_
  have hk : jl_E l G m_La_law (uc + 1, us + 6) 890 [some (.retAddr G.2.2.2.2.2.1), some (.ref 0), some (.ref 22), some (.ref 53), some (.int (nI (6 * n))), some (.int (nI c)), some (.int v)] [] σ3 P := er_weak (ls' := [some (.retAddr G.2.2.2.2.2.1), some (.ref 0), some (.ref 22), some (.ref 53), some (.int (nI (6 * n))), none, none]) (fun q v hv => by match q, hv with | 0, hv => exact hv | 1, hv => exact hv | 2, hv => exact hv | 3, hv => exact hv | 4, hv => exact hv | 5, hv => cases hv | 6, hv => cases hv | q + 7, hv => cases hv) (er_goto 1029 d_La_law_890 (by decide) (k σ3 U1 (nI c) g hU1 (hrc.fr hU1 hfx) hM3 h533))
  refine er_if_ne 890 d_La_law_875 (by decide) (fun _ => hk) (fun zc => ?_)
  have c0 : c = 0 := by
    have hc5 : c ≤ 1 := hc
    rw [← nI_0, nI_eq (by omega) (by omega)] at zc
    exact zc
  refine er_aload_n d_La_law_878 rfl ?_
  refine er_iconst (nI 0) d_La_law_879 (by decide) ?_
  refine er_lald d_La_law_880 h533 vp_in0 ?_
  refine er_iload d_La_law_881 rfl ?_
  refine er_i2l d_La_law_883 ?_
  refine er_lcmp d_La_law_884 ?_
  refine er_if_eq 890 d_La_law_885 (by decide) (fun _ => hk) (fun zl => absurd ?_ zl)
  have e0 : g (nI 0).toNatClampNeg = v.toInt64 := hg0 c0
  rw [e0]
  exact lg_self _
theorem d_La_law_893 : decode m_La_law.2.1 893 = .ok (.aload_n 1, 1) := by decide +kernel
theorem d_La_law_894 : decode m_La_law.2.1 894 = .ok (.aload_n 0, 1) := by decide +kernel
theorem d_La_law_895 : decode m_La_law.2.1 895 = .ok (.iload 4, 2) := by decide +kernel
theorem d_La_law_897 : decode m_La_law.2.1 897 = .ok (.iconst 1, 1) := by decide +kernel
theorem d_La_law_898 : decode m_La_law.2.1 898 = .ok (.iadd, 1) := by decide +kernel
theorem d_La_law_899 : decode m_La_law.2.1 899 = .ok (.iaload, 1) := by decide +kernel
theorem d_La_law_900 : decode m_La_law.2.1 900 = .ok (.aload_n 0, 1) := by decide +kernel
theorem d_La_law_901 : decode m_La_law.2.1 901 = .ok (.iload 4, 2) := by decide +kernel
theorem d_La_law_903 : decode m_La_law.2.1 903 = .ok (.iconst 2, 1) := by decide +kernel
theorem d_La_law_904 : decode m_La_law.2.1 904 = .ok (.iadd, 1) := by decide +kernel
theorem d_La_law_905 : decode m_La_law.2.1 905 = .ok (.iaload, 1) := by decide +kernel
theorem d_La_law_906 : decode m_La_law.2.1 906 = .ok (.aload_n 3, 1) := by decide +kernel
theorem k_La_law_105 : jl_cw m_La_law m_La_heap [(0, 10, 13, 46)] 105 4 = true := by decide +kernel
theorem d_La_law_907 : decode m_La_law.2.1 907 = .ok (.invokestatic 105, 3) := by decide +kernel
theorem d_La_law_910 : decode m_La_law.2.1 910 = .ok (.istore 5, 2) := by decide +kernel
theorem d_La_law_912 : decode m_La_law.2.1 912 = .ok (.aload_n 2, 1) := by decide +kernel
theorem d_La_law_913 : decode m_La_law.2.1 913 = .ok (.aload_n 0, 1) := by decide +kernel
theorem d_La_law_914 : decode m_La_law.2.1 914 = .ok (.iload 4, 2) := by decide +kernel
theorem d_La_law_916 : decode m_La_law.2.1 916 = .ok (.iconst 1, 1) := by decide +kernel
theorem d_La_law_917 : decode m_La_law.2.1 917 = .ok (.iadd, 1) := by decide +kernel
theorem d_La_law_918 : decode m_La_law.2.1 918 = .ok (.iaload, 1) := by decide +kernel
theorem d_La_law_919 : decode m_La_law.2.1 919 = .ok (.aload_n 0, 1) := by decide +kernel
theorem d_La_law_920 : decode m_La_law.2.1 920 = .ok (.iload 4, 2) := by decide +kernel
theorem d_La_law_922 : decode m_La_law.2.1 922 = .ok (.iconst 2, 1) := by decide +kernel
theorem d_La_law_923 : decode m_La_law.2.1 923 = .ok (.iadd, 1) := by decide +kernel
theorem d_La_law_924 : decode m_La_law.2.1 924 = .ok (.iaload, 1) := by decide +kernel
theorem k_La_law_107 : jl_cv m_La_law m_Mo_heap 107 2 = true := by decide +kernel
theorem d_La_law_925 : decode m_La_law.2.1 925 = .ok (.invokevirtual 107, 3) := by decide +kernel
theorem d_La_law_928 : decode m_La_law.2.1 928 = .ok (.istore 6, 2) := by decide +kernel
theorem d_La_law_930 : decode m_La_law.2.1 930 = .ok (.aload_n 2, 1) := by decide +kernel
theorem d_La_law_931 : decode m_La_law.2.1 931 = .ok (.invokevirtual 68, 3) := by decide +kernel
theorem d_La_law_934 : decode m_La_law.2.1 934 = .ok (.iload 5, 2) := by decide +kernel
theorem d_La_law_936 : decode m_La_law.2.1 936 = .ok (.if_icmp .eq 5, 3) := by decide +kernel
theorem d_La_law_941 : decode m_La_law.2.1 941 = .ok (.iload 5, 2) := by decide +kernel
theorem d_La_law_958 : decode m_La_law.2.1 958 = .ok (.goto 71, 3) := by decide +kernel
theorem d_La_law_943 : decode m_La_law.2.1 943 = .ok (.ifCond .ne 15, 3) := by decide +kernel
theorem d_La_law_946 : decode m_La_law.2.1 946 = .ok (.aload_n 3, 1) := by decide +kernel
theorem d_La_law_947 : decode m_La_law.2.1 947 = .ok (.iconst 0, 1) := by decide +kernel
theorem d_La_law_948 : decode m_La_law.2.1 948 = .ok (.laload, 1) := by decide +kernel
theorem d_La_law_949 : decode m_La_law.2.1 949 = .ok (.iload 6, 2) := by decide +kernel
theorem d_La_law_951 : decode m_La_law.2.1 951 = .ok (.i2l, 1) := by decide +kernel
theorem d_La_law_952 : decode m_La_law.2.1 952 = .ok (.lcmp, 1) := by decide +kernel
theorem d_La_law_953 : decode m_La_law.2.1 953 = .ok (.ifCond .eq 5, 3) := by decide +kernel
theorem law_heap (hl : l.stackTraces = false) {P : jl_O → jl_S → Prop} (hL : G.2.2.2.2.2.2.1 ≤ 3072) (hn : 6 * n + 6 ≤ G.2.2.2.2.2.2.1) (hU : UI U) (hC : RC σ U) (hM : RM σ U fa) (h53 : σ[53]? = some (.inl (2, 1, .inr (.inl f)))) (hu1 : uc + 15 ≤ 601024) (hu2 : us + 417 ≤ 7293034) (k : ∀ (σ' : jl_S) (U' : Un) (fa' : Int32) (g : Nat → Int64), UI U' → RC σ' U' → RM σ' U' fa' → σ'[53]? = some (.inl (2, 1, .inr (.inl g))) → jl_E l G m_La_law (uc + 1, us + 6) 1029 [some (.retAddr G.2.2.2.2.2.1), some (.ref 0), some (.ref 22), some (.ref 53), some (.int (nI (6 * n))), none, none] [] σ' P) : jl_E l G m_La_law (uc, us) 893 [some (.retAddr G.2.2.2.2.2.1), some (.ref 0), some (.ref 22), some (.ref 53), some (.int (nI (6 * n))), none, none] [] σ P := by
  obtain ⟨c, v, U1, hU1, hc, h1, h2⟩ := co_heap (G := G) hl hU hC (n := G.2.2.2.2.2.2.2 (6 * n + 1)) (i := G.2.2.2.2.2.2.2 (6 * n + 2))
  have hj := hC.j
  refine er_aload_n d_La_law_893 rfl ?_
  refine er_aload_nR d_La_law_894 rfl ?_
  refine er_iload d_La_law_895 rfl ?_
  refine er_iconst (nI 1) d_La_law_897 (by decide) ?_
  refine er_iaddN d_La_law_898 ?_
  refine er_sldN d_La_law_899 (by omega) (by omega) ?_
  refine er_aload_nR d_La_law_900 rfl ?_
  refine er_iload d_La_law_901 rfl ?_
  refine er_iconst (nI 2) d_La_law_903 (by decide) ?_
  refine er_iaddN d_La_law_904 ?_
  refine er_sldN d_La_law_905 (by omega) (by omega) ?_
  refine er_aload_n d_La_law_906 rfl ?_
  refine er_callSWE (As := [.ref 0, .int (G.2.2.2.2.2.2.2 (6 * n + 1)), .int (G.2.2.2.2.2.2.2 (6 * n + 2)), .ref 53]) d_La_law_907 k_La_law_105 rfl (Nat.le_of_ble_eq_true rfl) (by show uc + 1 ≤ 601024; omega) (by show us + 6 ≤ 7293034; omega) (la_heap hl hj h53 hU1 hc h1 (fun g σ2 hrc hfr h532 hg0 => ⟨_, rfl, ?_⟩))
  show jl_E l G m_La_law (uc + 1, us + 6) 910 [some (.retAddr G.2.2.2.2.2.1), some (.ref 0), some (.ref 22), some (.ref 53), some (.int (nI (6 * n))), none, none] [.int (nI c)] σ2 P
  have hM2 : RM σ2 U fa := hM.fr hfr
  obtain ⟨fs2, hO2⟩ := hM2.o
  refine er_istore d_La_law_910 (by decide) ?_
  show jl_E l G m_La_law (uc + 1, us + 6) 912 [some (.retAddr G.2.2.2.2.2.1), some (.ref 0), some (.ref 22), some (.ref 53), some (.int (nI (6 * n))), some (.int (nI c)), none] [] σ2 P
  refine er_aload_n d_La_law_912 rfl ?_
  refine er_aload_nR d_La_law_913 rfl ?_
  refine er_iload d_La_law_914 rfl ?_
  refine er_iconst (nI 1) d_La_law_916 (by decide) ?_
  refine er_iaddN d_La_law_917 ?_
  refine er_sldN d_La_law_918 (by omega) (by omega) ?_
  refine er_aload_nR d_La_law_919 rfl ?_
  refine er_iload d_La_law_920 rfl ?_
  refine er_iconst (nI 2) d_La_law_922 (by decide) ?_
  refine er_iaddN d_La_law_923 ?_
  refine er_sldN d_La_law_924 (by omega) (by omega) ?_
  refine er_callVE (As := [.int (G.2.2.2.2.2.2.2 (6 * n + 1)), .int (G.2.2.2.2.2.2.2 (6 * n + 2))]) d_La_law_925 k_La_law_107 hO2 rfl rfl rfl (Nat.le_of_ble_eq_true rfl) (by show uc + 1 + 0 ≤ 601024; omega) (by show us + 6 + 0 ≤ 7293034; omega) (jl_mE.mono (h2 σ2 fa hM2) (fun o3 σ3 ho3 => ?_))
  obtain ⟨eo, hM3, hfx⟩ := ho3
  refine ⟨_, eo, ?_⟩
  show jl_E l G m_La_law (uc + 1, us + 6) 928 [some (.retAddr G.2.2.2.2.2.1), some (.ref 0), some (.ref 22), some (.ref 53), some (.int (nI (6 * n))), some (.int (nI c)), none] [.int v] σ3 P
  obtain ⟨fs3, hO3⟩ := hM3.o
  have h533 : σ3[53]? = some (.inl (2, 1, .inr (.inl g))) := (hfx.2 53 (by decide)).trans h532
  refine er_istore d_La_law_928 (by decide) ?_
  show jl_E l G m_La_law (uc + 1, us + 6) 930 [some (.retAddr G.2.2.2.2.2.1), some (.ref 0), some (.ref 22), some (.ref 53), some (.int (nI (6 * n))), some (.int (nI c)), some (.int v)] [] σ3 P
  refine er_aload_n d_La_law_930 rfl ?_
  refine er_callV (As := []) d_La_law_931 k_La_law_68 hO3 rfl rfl rfl (Nat.le_of_ble_eq_true rfl) (by show uc + 1 + 0 ≤ 601024; omega) (by show us + 6 + 0 ≤ 7293034; omega) (hM3.thr hl) ?_
  show jl_E l G m_La_law (uc + 1, us + 6) 934 [some (.retAddr G.2.2.2.2.2.1), some (.ref 0), some (.ref 22), some (.ref 53), some (.int (nI (6 * n))), some (.int (nI c)), some (.int v)] [.int (nI c)] σ3 P
  refine er_iload d_La_law_934 rfl ?_
  refine er_icmp_eq 941 d_La_law_936 (by decide) (fun _ => ?_) (fun z => absurd rfl z)
  refine er_iload d_La_law_941 rfl ?_
  have hk : jl_E l G m_La_law (uc + 1, us + 6) 958 [some (.retAddr G.2.2.2.2.2.1), some (.ref 0), some (.ref 22), some (.ref 53), some (.int (nI (6 * n))), some (.int (nI c)), some (.int v)] [] σ3 P := er_weak (ls' := [some (.retAddr G.2.2.2.2.2.1), some (.ref 0), some (.ref 22), some (.ref 53), some (.int (nI (6 * n))), none, none]) (fun q v hv => by match q, hv with | 0, hv => exact hv | 1, hv => exact hv | 2, hv => exact hv | 3, hv => exact hv | 4, hv => exact hv | 5, hv => cases hv | 6, hv => cases hv | q + 7, hv => cases hv) (er_goto 1029 d_La_law_958 (by decide) (k σ3 U1 (nI c) g hU1 (hrc.fr hU1 hfx) hM3 h533))
  refine er_if_ne 958 d_La_law_943 (by decide) (fun _ => hk) (fun zc => ?_)
  have c0 : c = 0 := by
    have hc5 : c ≤ 1 := hc
    rw [← nI_0, nI_eq (by omega) (by omega)] at zc
    exact zc
  refine er_aload_n d_La_law_946 rfl ?_
  refine er_iconst (nI 0) d_La_law_947 (by decide) ?_
  refine er_lald d_La_law_948 h533 vp_in0 ?_
  refine er_iload d_La_law_949 rfl ?_
  refine er_i2l d_La_law_951 ?_
  refine er_lcmp d_La_law_952 ?_
  refine er_if_eq 958 d_La_law_953 (by decide) (fun _ => hk) (fun zl => absurd ?_ zl)
  have e0 : g (nI 0).toNatClampNeg = v.toInt64 := hg0 c0
  rw [e0]
  exact lg_self _
theorem d_La_law_961 : decode m_La_law.2.1 961 = .ok (.aload_n 1, 1) := by decide +kernel
theorem d_La_law_962 : decode m_La_law.2.1 962 = .ok (.aload_n 0, 1) := by decide +kernel
theorem d_La_law_963 : decode m_La_law.2.1 963 = .ok (.iload 4, 2) := by decide +kernel
theorem d_La_law_965 : decode m_La_law.2.1 965 = .ok (.iconst 1, 1) := by decide +kernel
theorem d_La_law_966 : decode m_La_law.2.1 966 = .ok (.iadd, 1) := by decide +kernel
theorem d_La_law_967 : decode m_La_law.2.1 967 = .ok (.iaload, 1) := by decide +kernel
theorem d_La_law_968 : decode m_La_law.2.1 968 = .ok (.aload_n 0, 1) := by decide +kernel
theorem d_La_law_969 : decode m_La_law.2.1 969 = .ok (.iload 4, 2) := by decide +kernel
theorem d_La_law_971 : decode m_La_law.2.1 971 = .ok (.iconst 2, 1) := by decide +kernel
theorem d_La_law_972 : decode m_La_law.2.1 972 = .ok (.iadd, 1) := by decide +kernel
theorem d_La_law_973 : decode m_La_law.2.1 973 = .ok (.iaload, 1) := by decide +kernel
theorem d_La_law_974 : decode m_La_law.2.1 974 = .ok (.aload_n 3, 1) := by decide +kernel
theorem k_La_law_108 : jl_cw m_La_law m_La_about [(0, 10, 13, 13)] 108 4 = true := by decide +kernel
theorem d_La_law_975 : decode m_La_law.2.1 975 = .ok (.invokestatic 108, 3) := by decide +kernel
theorem d_La_law_978 : decode m_La_law.2.1 978 = .ok (.istore 5, 2) := by decide +kernel
theorem d_La_law_980 : decode m_La_law.2.1 980 = .ok (.aload_n 2, 1) := by decide +kernel
theorem d_La_law_981 : decode m_La_law.2.1 981 = .ok (.aload_n 0, 1) := by decide +kernel
theorem d_La_law_982 : decode m_La_law.2.1 982 = .ok (.iload 4, 2) := by decide +kernel
theorem d_La_law_984 : decode m_La_law.2.1 984 = .ok (.iconst 1, 1) := by decide +kernel
theorem d_La_law_985 : decode m_La_law.2.1 985 = .ok (.iadd, 1) := by decide +kernel
theorem d_La_law_986 : decode m_La_law.2.1 986 = .ok (.iaload, 1) := by decide +kernel
theorem d_La_law_987 : decode m_La_law.2.1 987 = .ok (.aload_n 0, 1) := by decide +kernel
theorem d_La_law_988 : decode m_La_law.2.1 988 = .ok (.iload 4, 2) := by decide +kernel
theorem d_La_law_990 : decode m_La_law.2.1 990 = .ok (.iconst 2, 1) := by decide +kernel
theorem d_La_law_991 : decode m_La_law.2.1 991 = .ok (.iadd, 1) := by decide +kernel
theorem d_La_law_992 : decode m_La_law.2.1 992 = .ok (.iaload, 1) := by decide +kernel
theorem k_La_law_110 : jl_cv m_La_law m_Mo_about 110 2 = true := by decide +kernel
theorem d_La_law_993 : decode m_La_law.2.1 993 = .ok (.invokevirtual 110, 3) := by decide +kernel
theorem d_La_law_996 : decode m_La_law.2.1 996 = .ok (.istore 6, 2) := by decide +kernel
theorem d_La_law_998 : decode m_La_law.2.1 998 = .ok (.aload_n 2, 1) := by decide +kernel
theorem d_La_law_999 : decode m_La_law.2.1 999 = .ok (.invokevirtual 68, 3) := by decide +kernel
theorem d_La_law_1002 : decode m_La_law.2.1 1002 = .ok (.iload 5, 2) := by decide +kernel
theorem d_La_law_1004 : decode m_La_law.2.1 1004 = .ok (.if_icmp .eq 5, 3) := by decide +kernel
theorem d_La_law_1009 : decode m_La_law.2.1 1009 = .ok (.iload 5, 2) := by decide +kernel
theorem d_La_law_1026 : decode m_La_law.2.1 1026 = .ok (.goto 3, 3) := by decide +kernel
theorem d_La_law_1011 : decode m_La_law.2.1 1011 = .ok (.ifCond .ne 15, 3) := by decide +kernel
theorem d_La_law_1014 : decode m_La_law.2.1 1014 = .ok (.aload_n 3, 1) := by decide +kernel
theorem d_La_law_1015 : decode m_La_law.2.1 1015 = .ok (.iconst 0, 1) := by decide +kernel
theorem d_La_law_1016 : decode m_La_law.2.1 1016 = .ok (.laload, 1) := by decide +kernel
theorem d_La_law_1017 : decode m_La_law.2.1 1017 = .ok (.iload 6, 2) := by decide +kernel
theorem d_La_law_1019 : decode m_La_law.2.1 1019 = .ok (.i2l, 1) := by decide +kernel
theorem d_La_law_1020 : decode m_La_law.2.1 1020 = .ok (.lcmp, 1) := by decide +kernel
theorem d_La_law_1021 : decode m_La_law.2.1 1021 = .ok (.ifCond .eq 5, 3) := by decide +kernel
theorem law_about (hl : l.stackTraces = false) {P : jl_O → jl_S → Prop} (hL : G.2.2.2.2.2.2.1 ≤ 3072) (hn : 6 * n + 6 ≤ G.2.2.2.2.2.2.1) (hU : UI U) (hC : RC σ U) (hM : RM σ U fa) (h53 : σ[53]? = some (.inl (2, 1, .inr (.inl f)))) (hu1 : uc + 15 ≤ 601024) (hu2 : us + 417 ≤ 7293034) (k : ∀ (σ' : jl_S) (U' : Un) (fa' : Int32) (g : Nat → Int64), UI U' → RC σ' U' → RM σ' U' fa' → σ'[53]? = some (.inl (2, 1, .inr (.inl g))) → jl_E l G m_La_law (uc + 2, us + 12) 1029 [some (.retAddr G.2.2.2.2.2.1), some (.ref 0), some (.ref 22), some (.ref 53), some (.int (nI (6 * n))), none, none] [] σ' P) : jl_E l G m_La_law (uc, us) 961 [some (.retAddr G.2.2.2.2.2.1), some (.ref 0), some (.ref 22), some (.ref 53), some (.int (nI (6 * n))), none, none] [] σ P := by
  obtain ⟨c, v, U1, hU1, hc, h1, h2⟩ := co_about (G := G) hl hU hC (k := G.2.2.2.2.2.2.2 (6 * n + 1)) (w := G.2.2.2.2.2.2.2 (6 * n + 2))
  have hj := hC.j
  refine er_aload_n d_La_law_961 rfl ?_
  refine er_aload_nR d_La_law_962 rfl ?_
  refine er_iload d_La_law_963 rfl ?_
  refine er_iconst (nI 1) d_La_law_965 (by decide) ?_
  refine er_iaddN d_La_law_966 ?_
  refine er_sldN d_La_law_967 (by omega) (by omega) ?_
  refine er_aload_nR d_La_law_968 rfl ?_
  refine er_iload d_La_law_969 rfl ?_
  refine er_iconst (nI 2) d_La_law_971 (by decide) ?_
  refine er_iaddN d_La_law_972 ?_
  refine er_sldN d_La_law_973 (by omega) (by omega) ?_
  refine er_aload_n d_La_law_974 rfl ?_
  refine er_callSWE (As := [.ref 0, .int (G.2.2.2.2.2.2.2 (6 * n + 1)), .int (G.2.2.2.2.2.2.2 (6 * n + 2)), .ref 53]) d_La_law_975 k_La_law_108 rfl (Nat.le_of_ble_eq_true rfl) (by show uc + 2 ≤ 601024; omega) (by show us + 12 ≤ 7293034; omega) (la_about hl hj h53 hU1 hc h1 (fun g σ2 hrc hfr h532 hg0 => ⟨_, rfl, ?_⟩))
  show jl_E l G m_La_law (uc + 2, us + 12) 978 [some (.retAddr G.2.2.2.2.2.1), some (.ref 0), some (.ref 22), some (.ref 53), some (.int (nI (6 * n))), none, none] [.int (nI c)] σ2 P
  have hM2 : RM σ2 U fa := hM.fr hfr
  obtain ⟨fs2, hO2⟩ := hM2.o
  refine er_istore d_La_law_978 (by decide) ?_
  show jl_E l G m_La_law (uc + 2, us + 12) 980 [some (.retAddr G.2.2.2.2.2.1), some (.ref 0), some (.ref 22), some (.ref 53), some (.int (nI (6 * n))), some (.int (nI c)), none] [] σ2 P
  refine er_aload_n d_La_law_980 rfl ?_
  refine er_aload_nR d_La_law_981 rfl ?_
  refine er_iload d_La_law_982 rfl ?_
  refine er_iconst (nI 1) d_La_law_984 (by decide) ?_
  refine er_iaddN d_La_law_985 ?_
  refine er_sldN d_La_law_986 (by omega) (by omega) ?_
  refine er_aload_nR d_La_law_987 rfl ?_
  refine er_iload d_La_law_988 rfl ?_
  refine er_iconst (nI 2) d_La_law_990 (by decide) ?_
  refine er_iaddN d_La_law_991 ?_
  refine er_sldN d_La_law_992 (by omega) (by omega) ?_
  refine er_callVE (As := [.int (G.2.2.2.2.2.2.2 (6 * n + 1)), .int (G.2.2.2.2.2.2.2 (6 * n + 2))]) d_La_law_993 k_La_law_110 hO2 rfl rfl rfl (Nat.le_of_ble_eq_true rfl) (by show uc + 2 + 0 ≤ 601024; omega) (by show us + 12 + 0 ≤ 7293034; omega) (jl_mE.mono (h2 σ2 fa hM2) (fun o3 σ3 ho3 => ?_))
  obtain ⟨eo, hM3, hfx⟩ := ho3
  refine ⟨_, eo, ?_⟩
  show jl_E l G m_La_law (uc + 2, us + 12) 996 [some (.retAddr G.2.2.2.2.2.1), some (.ref 0), some (.ref 22), some (.ref 53), some (.int (nI (6 * n))), some (.int (nI c)), none] [.int v] σ3 P
  obtain ⟨fs3, hO3⟩ := hM3.o
  have h533 : σ3[53]? = some (.inl (2, 1, .inr (.inl g))) := (hfx.2 53 (by decide)).trans h532
  refine er_istore d_La_law_996 (by decide) ?_
  show jl_E l G m_La_law (uc + 2, us + 12) 998 [some (.retAddr G.2.2.2.2.2.1), some (.ref 0), some (.ref 22), some (.ref 53), some (.int (nI (6 * n))), some (.int (nI c)), some (.int v)] [] σ3 P
  refine er_aload_n d_La_law_998 rfl ?_
  refine er_callV (As := []) d_La_law_999 k_La_law_68 hO3 rfl rfl rfl (Nat.le_of_ble_eq_true rfl) (by show uc + 2 + 0 ≤ 601024; omega) (by show us + 12 + 0 ≤ 7293034; omega) (hM3.thr hl) ?_
  show jl_E l G m_La_law (uc + 2, us + 12) 1002 [some (.retAddr G.2.2.2.2.2.1), some (.ref 0), some (.ref 22), some (.ref 53), some (.int (nI (6 * n))), some (.int (nI c)), some (.int v)] [.int (nI c)] σ3 P
  refine er_iload d_La_law_1002 rfl ?_
  refine er_icmp_eq 1009 d_La_law_1004 (by decide) (fun _ => ?_) (fun z => absurd rfl z)
  refine er_iload d_La_law_1009 rfl ?_
  have hk : jl_E l G m_La_law (uc + 2, us + 12) 1026 [some (.retAddr G.2.2.2.2.2.1), some (.ref 0), some (.ref 22), some (.ref 53), some (.int (nI (6 * n))), some (.int (nI c)), some (.int v)] [] σ3 P := er_weak (ls' := [some (.retAddr G.2.2.2.2.2.1), some (.ref 0), some (.ref 22), some (.ref 53), some (.int (nI (6 * n))), none, none]) (fun q v hv => by match q, hv with | 0, hv => exact hv | 1, hv => exact hv | 2, hv => exact hv | 3, hv => exact hv | 4, hv => exact hv | 5, hv => cases hv | 6, hv => cases hv | q + 7, hv => cases hv) (er_goto 1029 d_La_law_1026 (by decide) (k σ3 U1 (nI c) g hU1 (hrc.fr hU1 hfx) hM3 h533))
  refine er_if_ne 1026 d_La_law_1011 (by decide) (fun _ => hk) (fun zc => ?_)
  have c0 : c = 0 := by
    have hc5 : c ≤ 1 := hc
    rw [← nI_0, nI_eq (by omega) (by omega)] at zc
    exact zc
  refine er_aload_n d_La_law_1014 rfl ?_
  refine er_iconst (nI 0) d_La_law_1015 (by decide) ?_
  refine er_lald d_La_law_1016 h533 vp_in0 ?_
  refine er_iload d_La_law_1017 rfl ?_
  refine er_i2l d_La_law_1019 ?_
  refine er_lcmp d_La_law_1020 ?_
  refine er_if_eq 1026 d_La_law_1021 (by decide) (fun _ => hk) (fun zl => absurd ?_ zl)
  have e0 : g (nI 0).toNatClampNeg = v.toInt64 := hg0 c0
  rw [e0]
  exact lg_self _
end JLx
