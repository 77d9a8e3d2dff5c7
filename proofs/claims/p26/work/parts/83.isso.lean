set_option maxRecDepth 100000 in
set_option maxHeartbeats 4000000 in
theorem ctL_isSo (l : Launch) (Ω : Om) (σ : Sg) (S : StV) (h : isC σ S) (hg : gdV (qC S)) (hn : vN (qC S) ≤ 10) : CtW l yL_isSo wsL_isSo (rmD 9) Ω [.ref (ad Ω 368), .ref (ad Ω 369), .ref (ad Ω 370)] σ (reJ (fun x σ1 => x = 1 ∧ isC σ1 S)) := by
  refine ct_intro [some (.ref (ad Ω 368)), some (.ref (ad Ω 369)), some (.ref (ad Ω 370)), none, none, none, none, none, none, none, none, none, none, none, none, none, none] (by decide) rfl rfl (Nat.le_of_ble_eq_true rfl) (fun Γ hL hQ => ?_)
  show AtW mL_isSo Γ Ω σ 0 [some (.ref (ad Ω 368)), some (.ref (ad Ω 369)), some (.ref (ad Ω 370)), none, none, none, none, none, none, none, none, none, none, none, none, none, none] []
  refine r_aload_n dL_isSo_0 rfl ?_
  refine r_aload_n dL_isSo_1 rfl ?_
  refine r_callSJ hL (ctL_read l Ω _ S h hg hn) kL_isSo_59 rfl rfl (Nat.le_of_ble_eq_true rfl) dL_isSo_2 ?_
  intro x2 σ2 hσ2
  obtain ⟨e2, hc2, he⟩ := hσ2
  subst e2
  refine r_istore_n dL_isSo_5 (by decide) rfl ?_
  refine r_iconst 0 dL_isSo_6 (by decide) ?_
  refine r_istore dL_isSo_7 (by decide) rfl ?_
  refine r_iconst 0 dL_isSo_9 (by decide) ?_
  refine r_istore dL_isSo_10 (by decide) rfl ?_
  refine r_bipush (-5) dL_isSo_12 (by decide) ?_
  refine r_istore dL_isSo_14 (by decide) rfl ?_
  refine r_iconst 0 dL_isSo_16 (by decide) ?_
  refine r_istore dL_isSo_17 (by decide) rfl ?_
  refine r_iconst 0 dL_isSo_19 (by decide) ?_
  refine r_istore dL_isSo_20 (by decide) rfl ?_
  refine r_bipush (-5) dL_isSo_22 (by decide) ?_
  refine r_istore dL_isSo_24 (by decide) rfl ?_
  refine r_iconst 0 dL_isSo_26 (by decide) ?_
  refine r_istore dL_isSo_27 (by decide) rfl ?_
  have L1 : ∀ (N : Nat) (k : Nat) (τ : Sg) (v11 : Option Value), k ≤ vN (qC S) → isC τ S → τ 369 = σ2 369 → (∀ q, q < k → τ 370 q = HV (qC S) q) → vN (qC S) < k + N → AtW mL_isSo Γ Ω τ 29 [some (.ref (ad Ω 368)), some (.ref (ad Ω 369)), some (.ref (ad Ω 370)), some (.int (nI (vN (qC S)))), some (.int (0)), some (.int (0)), some (.int ((-5))), some (.int (0)), some (.int (0)), some (.int ((-5))), some (.int (nI k)), v11, none, none, none, none, none] [] := by
    intro N
    induction N with
    | zero =>
      intro k τ v11 hk hc h9 hv hN
      exact absurd hN (by omega)
    | succ N ih =>
      intro k τ v11 hk hc h9 hv hN
      have ihK := ih
      refine r_iload dL_isSo_29 rfl ?_
      refine r_iload_n dL_isSo_31 rfl ?_
      refine r_icmp_ge 190 dL_isSo_32 (by decide) (fun c32 => ?_) (fun c32 => ?_)
      ·
        replace c32 := Int32.not_lt.mpr c32
        have n32 := Nat.not_lt.mp (fun q => c32 ((nI_ltI (a := k) (b := vN (qC S)) (by omega) (by omega)).mpr q))
        have ek : k = vN (qC S) := by omega
        subst ek
        have hs : lwS S (σ2 369) (τ 370) τ := ⟨hc, h9, rfl⟩
        have hG := hv
        refine r_iconst 0 dL_isSo_190 (by decide) ?_
        refine r_istore dL_isSo_191 (by decide) rfl ?_
        have L3 : ∀ (N : Nat) (k : Nat) (pa ri sr vo sd gr : Int32) (υ : Sg) (v11 v12 v13 v14 v15 v16 : Option Value), k ≤ vN (qC S) → lwS S (σ2 369) (τ 370) υ → pa = sumI (fun k => bcI (HV (qC S) k)) k → ri = cntI (fun k => hasB (CVv (qC S) k) k) k → sr = srI (HV (qC S)) (vN (qC S)) k → vo = sumI (voG (vLo (qC S)) (vHi (qC S))) k → sd = sumI (shaV (qC S)) k → gr = glI (LV (qC S)) k → vN (qC S) < k + N → AtW mL_isSo Γ Ω υ 193 [some (.ref (ad Ω 368)), some (.ref (ad Ω 369)), some (.ref (ad Ω 370)), some (.int (nI (vN (qC S)))), some (.int (pa)), some (.int (ri)), some (.int (sr)), some (.int (vo)), some (.int (sd)), some (.int (gr)), some (.int (nI k)), v11, v12, v13, v14, v15, v16] [] := by
          intro N
          induction N with
          | zero =>
            intro k pa ri sr vo sd gr υ v11 v12 v13 v14 v15 v16 hk hs hpa hri hsr hvo hsd hgr hN
            exact absurd hN (by omega)
          | succ N ih =>
            intro k pa ri sr vo sd gr υ v11 v12 v13 v14 v15 v16 hk hs hpa hri hsr hvo hsd hgr hN
            have ihB := ih
            refine r_iload dL_isSo_193 rfl ?_
            refine r_iload_n dL_isSo_195 rfl ?_
            refine r_icmp_ge 450 dL_isSo_196 (by decide) (fun c196 => ?_) (fun c196 => ?_)
            ·
              replace c196 := Int32.not_lt.mpr c196
              have n196 := Nat.not_lt.mp (fun q => c196 ((nI_ltI (a := k) (b := vN (qC S)) (by omega) (by omega)).mpr q))
              have ek : k = vN (qC S) := by omega
              subst ek
              refine r_aload_n dL_isSo_450 rfl ?_
              refine r_aload_n dL_isSo_451 rfl ?_
              refine r_aload_n dL_isSo_452 rfl ?_
              refine r_iload_n dL_isSo_453 rfl ?_
              refine r_iconst 0 dL_isSo_454 (by decide) ?_
              refine r_iconst 1 dL_isSo_455 (by decide) ?_
              refine r_callSJ hL (ctL_drawn l Ω _ S _ _ hs hg he hn hG 0 true (fun _ => rfl) (fun b _ h2 => hasB_0 h2)) kL_isSo_67 rfl rfl (Nat.le_of_ble_eq_true rfl) dL_isSo_456 ?_
              intro x456 σ456 hσ456
              obtain ⟨hX456, hs⟩ := hσ456
              have eX := drX_0 (by omega) hX456
              subst eX
              obtain ⟨mX, hmX, emX⟩ := drX_10 hn hX456
              have hX0 : ¬ BV (qC S) < 0 := by rw [emX]; exact nI_pos (by omega)
              refine r_istore dL_isSo_459 (by decide) rfl ?_
              refine r_iconst 0 dL_isSo_461 (by decide) ?_
              refine r_istore dL_isSo_462 (by decide) rfl ?_
              have L5 : ∀ (N : Nat) (k : Nat) (ρ : Sg) (v12 v13 : Option Value), k ≤ vN (qC S) → lwS S (σ2 369) (τ 370) ρ → vN (qC S) < k + N → AtW mL_isSo Γ Ω ρ 464 [some (.ref (ad Ω 368)), some (.ref (ad Ω 369)), some (.ref (ad Ω 370)), some (.int (nI (vN (qC S)))), some (.int (pa)), some (.int (ri)), some (.int (sr)), some (.int (vo)), some (.int (sd)), some (.int (gr)), some (.int (BV (qC S))), some (.int (nI k)), v12, v13, v14, v15, v16] [] := by
                intro N
                induction N with
                | zero =>
                  intro k ρ v12 v13 hk hs hN
                  exact absurd hN (by omega)
                | succ N ih =>
                  intro k ρ v12 v13 hk hs hN
                  have ihC := ih
                  refine r_iload dL_isSo_464 rfl ?_
                  refine r_iload_n dL_isSo_466 rfl ?_
                  refine r_icmp_ge 586 dL_isSo_467 (by decide) (fun c467 => ?_) (fun c467 => ?_)
                  ·
                    replace c467 := Int32.not_lt.mpr c467
                    have n467 := Nat.not_lt.mp (fun q => c467 ((nI_ltI (a := k) (b := vN (qC S)) (by omega) (by omega)).mpr q))
                    refine r_iload dL_isSo_586 rfl ?_
                    refine r_if_lt 716 dL_isSo_588 (by decide) (fun c588 => absurd c588 (hX0)) (fun c588 => ?_)
                    refine r_aload_n dL_isSo_591 rfl ?_
                    refine r_iconst 2 dL_isSo_592 (by decide) ?_
                    refine r_callVJ (368) hL (ctX5_total l Ω _ S hs.1 (gd_hY hg) _) kL_isSo_9 (by omega) ⟨_, _, _, rfl, rfl, rfl⟩ rfl rfl (Nat.le_of_ble_eq_true rfl) dL_isSo_593 ?_
                    intro x593 σ593 hσ593
                    obtain ⟨e593, hs⟩ := lw_q hs hσ593 rfl
                    replace e593 := e593.trans (toA_2 S)
                    subst e593
                    refine r_iload dL_isSo_596 rfl ?_
                    refine r_icmp_ne 716 dL_isSo_598 (by decide) (fun c598 => absurd c598 (fun q => q hpa.symm)) (fun c598 => ?_)
                    refine r_aload_n dL_isSo_601 rfl ?_
                    refine r_iconst 3 dL_isSo_602 (by decide) ?_
                    refine r_callVJ (368) hL (ctX5_total l Ω _ S hs.1 (gd_hY hg) _) kL_isSo_9 (by omega) ⟨_, _, _, rfl, rfl, rfl⟩ rfl rfl (Nat.le_of_ble_eq_true rfl) dL_isSo_603 ?_
                    intro x603 σ603 hσ603
                    obtain ⟨e603, hs⟩ := lw_q hs hσ603 rfl
                    replace e603 := e603.trans (toA_3 S)
                    subst e603
                    refine r_iload dL_isSo_606 rfl ?_
                    refine r_callSI hL (ctL_ones l Ω _ _ ⟨mX, hmX, emX⟩) kL_isSo_56 rfl rfl (Nat.le_of_ble_eq_true rfl) dL_isSo_608 ?_
                    refine r_icmp_ne 716 dL_isSo_611 (by decide) (fun c611 => absurd c611 (fun q => q (by rw [drX_on (by omega) hX456, dr_cnt (by omega)]))) (fun c611 => ?_)
                    refine r_aload_n dL_isSo_614 rfl ?_
                    refine r_iconst 4 dL_isSo_615 (by decide) ?_
                    refine r_callVJ (368) hL (ctX5_total l Ω _ S hs.1 (gd_hY hg) _) kL_isSo_9 (by omega) ⟨_, _, _, rfl, rfl, rfl⟩ rfl rfl (Nat.le_of_ble_eq_true rfl) dL_isSo_616 ?_
                    intro x616 σ616 hσ616
                    obtain ⟨e616, hs⟩ := lw_q hs hσ616 rfl
                    replace e616 := e616.trans (toA_4 S)
                    subst e616
                    refine r_iload dL_isSo_619 rfl ?_
                    refine r_icmp_ne 716 dL_isSo_621 (by decide) (fun c621 => absurd c621 (fun q => q hri.symm)) (fun c621 => ?_)
                    refine r_aload_n dL_isSo_624 rfl ?_
                    refine r_iconst 5 dL_isSo_625 (by decide) ?_
                    refine r_callVJ (368) hL (ctX5_total l Ω _ S hs.1 (gd_hY hg) _) kL_isSo_9 (by omega) ⟨_, _, _, rfl, rfl, rfl⟩ rfl rfl (Nat.le_of_ble_eq_true rfl) dL_isSo_626 ?_
                    intro x626 σ626 hσ626
                    obtain ⟨e626, hs⟩ := lw_q hs hσ626 rfl
                    replace e626 := e626.trans (toA_5 S)
                    subst e626
                    refine r_iload dL_isSo_629 rfl ?_
                    refine r_icmp_ne 716 dL_isSo_631 (by decide) (fun c631 => absurd c631 (fun q => q hsr.symm)) (fun c631 => ?_)
                    refine r_aload_n dL_isSo_634 rfl ?_
                    refine r_bipush 6 dL_isSo_635 (by decide) ?_
                    refine r_callVJ (368) hL (ctX5_total l Ω _ S hs.1 (gd_hY hg) _) kL_isSo_9 (by omega) ⟨_, _, _, rfl, rfl, rfl⟩ rfl rfl (Nat.le_of_ble_eq_true rfl) dL_isSo_637 ?_
                    intro x637 σ637 hσ637
                    obtain ⟨e637, hs⟩ := lw_q hs hσ637 rfl
                    replace e637 := e637.trans (toA_6 S)
                    subst e637
                    refine r_iload dL_isSo_640 rfl ?_
                    refine r_icmp_ne 716 dL_isSo_642 (by decide) (fun c642 => absurd c642 (fun q => q hgr.symm)) (fun c642 => ?_)
                    refine r_aload_n dL_isSo_645 rfl ?_
                    refine r_bipush 8 dL_isSo_646 (by decide) ?_
                    refine r_callVJ (368) hL (ctX5_total l Ω _ S hs.1 (gd_hY hg) _) kL_isSo_9 (by omega) ⟨_, _, _, rfl, rfl, rfl⟩ rfl rfl (Nat.le_of_ble_eq_true rfl) dL_isSo_648 ?_
                    intro x648 σ648 hσ648
                    obtain ⟨e648, hs⟩ := lw_q hs hσ648 rfl
                    replace e648 := e648.trans (toA_8 S)
                    subst e648
                    refine r_iload dL_isSo_651 rfl ?_
                    refine r_icmp_ne 716 dL_isSo_653 (by decide) (fun c653 => absurd c653 (fun q => q hvo.symm)) (fun c653 => ?_)
                    refine r_aload_n dL_isSo_656 rfl ?_
                    refine r_bipush 9 dL_isSo_657 (by decide) ?_
                    refine r_callVJ (368) hL (ctX5_total l Ω _ S hs.1 (gd_hY hg) _) kL_isSo_9 (by omega) ⟨_, _, _, rfl, rfl, rfl⟩ rfl rfl (Nat.le_of_ble_eq_true rfl) dL_isSo_659 ?_
                    intro x659 σ659 hσ659
                    obtain ⟨e659, hs⟩ := lw_q hs hσ659 rfl
                    replace e659 := e659.trans (toA_9 S)
                    subst e659
                    refine r_iload dL_isSo_662 rfl ?_
                    refine r_icmp_ne 716 dL_isSo_664 (by decide) (fun c664 => absurd c664 (fun q => q hsd.symm)) (fun c664 => ?_)
                    refine r_aload_n dL_isSo_667 rfl ?_
                    refine r_iload_n dL_isSo_668 rfl ?_
                    refine r_callVJ (368) hL (ctX5_box l Ω _ S hs.1 _) kL_isSo_15 (by omega) ⟨_, _, _, rfl, rfl, rfl⟩ rfl rfl (Nat.le_of_ble_eq_true rfl) dL_isSo_669 ?_
                    intro x669 σ669 hσ669
                    obtain ⟨e669, hs⟩ := lw_q hs hσ669 rfl
                    replace e669 := e669.trans (box_n (by omega))
                    subst e669
                    refine r_bipush (-5) dL_isSo_672 (by decide) ?_
                    refine r_icmp_ne 716 dL_isSo_674 (by decide) (fun c674 => absurd c674 (by decide)) (fun c674 => ?_)
                    refine r_aload_n dL_isSo_677 rfl ?_
                    refine r_iconst (-1) dL_isSo_678 (by decide) ?_
                    refine r_callVJ (368) hL (ctX5_box l Ω _ S hs.1 _) kL_isSo_15 (by omega) ⟨_, _, _, rfl, rfl, rfl⟩ rfl rfl (Nat.le_of_ble_eq_true rfl) dL_isSo_679 ?_
                    intro x679 σ679 hσ679
                    obtain ⟨e679, hs⟩ := lw_q hs hσ679 rfl
                    replace e679 := e679.trans (box_m S)
                    subst e679
                    refine r_bipush (-2) dL_isSo_682 (by decide) ?_
                    refine r_icmp_ne 716 dL_isSo_684 (by decide) (fun c684 => absurd c684 (by decide)) (fun c684 => ?_)
                    refine r_iload dL_isSo_687 rfl ?_
                    refine r_if_gt 701 dL_isSo_689 (by decide) (fun c689 => ?_) (fun c689 => ?_)
                    ·
                      refine r_aload_n dL_isSo_701 rfl ?_
                      refine r_bipush 13 dL_isSo_702 (by decide) ?_
                      refine r_callVJ (368) hL (ctX5_total l Ω _ S hs.1 (gd_hY hg) _) kL_isSo_9 (by omega) ⟨_, _, _, rfl, rfl, rfl⟩ rfl rfl (Nat.le_of_ble_eq_true rfl) dL_isSo_704 ?_
                      intro x704 σ704 hσ704
                      obtain ⟨e704, hs⟩ := lw_q hs hσ704 rfl
                      replace e704 := e704.trans (to_13 S)
                      subst e704
                      refine r_bipush (-2) dL_isSo_707 (by decide) ?_
                      refine r_icmp_ne 716 dL_isSo_709 (by decide) (fun c709 => absurd c709 (by decide)) (fun c709 => ?_)
                      refine r_iconst 1 dL_isSo_712 (by decide) ?_
                      refine r_goto 717 dL_isSo_713 (by decide) ?_
                      exact r_zret hQ rfl ((by decide)) dL_isSo_717 (reJ_of ⟨rfl, hs.1⟩)
                    ·
                      refine r_aload_n dL_isSo_692 rfl ?_
                      refine r_iconst 3 dL_isSo_693 (by decide) ?_
                      refine r_callVJ (368) hL (ctX5_total l Ω _ S hs.1 (gd_hY hg) _) kL_isSo_9 (by omega) ⟨_, _, _, rfl, rfl, rfl⟩ rfl rfl (Nat.le_of_ble_eq_true rfl) dL_isSo_694 ?_
                      intro x694 σ694 hσ694
                      obtain ⟨e694, hs⟩ := lw_q hs hσ694 rfl
                      replace e694 := e694.trans (toA_3 S)
                      subst e694
                      refine r_iload_n dL_isSo_697 rfl ?_
                      refine r_icmp_ne 716 dL_isSo_698 (by decide) (fun c698 => absurd c698 (fun q => q (by rw [all_drawn (by omega) (by rw [← hri]; exact c689)]))) (fun c698 => ?_)
                      refine r_aload_n dL_isSo_701 rfl ?_
                      refine r_bipush 13 dL_isSo_702 (by decide) ?_
                      refine r_callVJ (368) hL (ctX5_total l Ω _ S hs.1 (gd_hY hg) _) kL_isSo_9 (by omega) ⟨_, _, _, rfl, rfl, rfl⟩ rfl rfl (Nat.le_of_ble_eq_true rfl) dL_isSo_704 ?_
                      intro x704 σ704 hσ704
                      obtain ⟨e704, hs⟩ := lw_q hs hσ704 rfl
                      replace e704 := e704.trans (to_13 S)
                      subst e704
                      refine r_bipush (-2) dL_isSo_707 (by decide) ?_
                      refine r_icmp_ne 716 dL_isSo_709 (by decide) (fun c709 => absurd c709 (by decide)) (fun c709 => ?_)
                      refine r_iconst 1 dL_isSo_712 (by decide) ?_
                      refine r_goto 717 dL_isSo_713 (by decide) ?_
                      exact r_zret hQ rfl ((by decide)) dL_isSo_717 (reJ_of ⟨rfl, hs.1⟩)
                  ·
                    replace c467 := Int32.not_le.mp c467
                    have n467 := (nI_ltI (a := k) (b := vN (qC S)) (by omega) (by omega)).mp c467
                    refine r_iload dL_isSo_470 rfl ?_
                    refine r_if_lt 586 dL_isSo_472 (by decide) (fun c472 => absurd c472 (hX0)) (fun c472 => ?_)
                    refine r_bipush (-5) dL_isSo_475 (by decide) ?_
                    refine r_istore dL_isSo_477 (by decide) rfl ?_
                    refine r_iload_n dL_isSo_479 rfl ?_
                    refine r_iconst 1 dL_isSo_480 (by decide) ?_
                    refine r_isub dL_isSo_481 ?_
                    refine r_istore dL_isSo_482 (by decide) rfl ?_
                    have L6 : ∀ (N : Nat) (m : Nat) (z : Int32) (ω : Sg), m ≤ vN (qC S) → wtL (qC S) k m z → lwS S (σ2 369) (τ 370) ω → m < N → AtW mL_isSo Γ Ω ω 484 [some (.ref (ad Ω 368)), some (.ref (ad Ω 369)), some (.ref (ad Ω 370)), some (.int (nI (vN (qC S)))), some (.int (pa)), some (.int (ri)), some (.int (sr)), some (.int (vo)), some (.int (sd)), some (.int (gr)), some (.int (BV (qC S))), some (.int (nI k)), some (.int (z)), some (.int (nI m - 1)), v14, v15, v16] [] := by
                      intro N
                      induction N with
                      | zero =>
                        intro m z ω hm hw hs hN
                        exact absurd hN (by omega)
                      | succ N ih =>
                        intro m z ω hm hw hs hN
                        refine r_iload dL_isSo_484 rfl ?_
                        refine r_if_lt 535 dL_isSo_486 (by decide) (fun c486 => ?_) (fun c486 => ?_)
                        ·
                          have em := (pr_lt0 (by omega)).mp c486
                          subst em
                          refine r_aload_n dL_isSo_535 rfl ?_
                          refine r_aload_n dL_isSo_536 rfl ?_
                          refine r_iload dL_isSo_537 rfl ?_
                          refine r_callVJ (368) hL (ctX5_box l Ω _ S hs.1 _) kL_isSo_15 (by omega) ⟨_, _, _, rfl, rfl, rfl⟩ rfl rfl (Nat.le_of_ble_eq_true rfl) dL_isSo_539 ?_
                          intro x539 σ539 hσ539
                          obtain ⟨e539, hs⟩ := lw_q hs hσ539 rfl
                          replace e539 := e539.trans (box_at (by omega) (show k < _ by omega))
                          subst e539
                          refine r_callVJ (368) hL (ctX5_waitsFor l Ω _ S hs.1 _) kL_isSo_70 (by omega) ⟨_, _, _, rfl, rfl, rfl⟩ rfl rfl (Nat.le_of_ble_eq_true rfl) dL_isSo_542 ?_
                          intro x542 σ542 hσ542
                          obtain ⟨e542, hs⟩ := lw_q hs hσ542 rfl
                          replace e542 := e542.trans (wai_at hg.1 (show k < _ by omega))
                          subst e542
                          refine r_iload dL_isSo_545 rfl ?_
                          refine r_icmp_ne 578 dL_isSo_547 (by decide) (fun c547 => absurd c547 (fun q => q (wl_end (by omega) (by omega) hw).symm)) (fun c547 => ?_)
                          refine r_aload_n dL_isSo_550 rfl ?_
                          refine r_aload_n dL_isSo_551 rfl ?_
                          refine r_iload dL_isSo_552 rfl ?_
                          refine r_callVJ (368) hL (ctX5_box l Ω _ S hs.1 _) kL_isSo_15 (by omega) ⟨_, _, _, rfl, rfl, rfl⟩ rfl rfl (Nat.le_of_ble_eq_true rfl) dL_isSo_554 ?_
                          intro x554 σ554 hσ554
                          obtain ⟨e554, hs⟩ := lw_q hs hσ554 rfl
                          replace e554 := e554.trans (box_at (by omega) (show k < _ by omega))
                          subst e554
                          refine r_callVJ (368) hL (ctX5_drawnWithout l Ω _ S hs.1 _) kL_isSo_73 (by omega) ⟨_, _, _, rfl, rfl, rfl⟩ rfl rfl (Nat.le_of_ble_eq_true rfl) dL_isSo_557 ?_
                          intro x557 σ557 hσ557
                          obtain ⟨e557, hs⟩ := lw_q hs hσ557 rfl
                          replace e557 := e557.trans (wo_at hg.1 (show k < _ by omega))
                          subst e557
                          refine r_aload_n dL_isSo_560 rfl ?_
                          refine r_aload_n dL_isSo_561 rfl ?_
                          refine r_aload_n dL_isSo_562 rfl ?_
                          refine r_iload_n dL_isSo_563 rfl ?_
                          refine r_iconst 1 dL_isSo_564 (by decide) ?_
                          refine r_iload dL_isSo_565 rfl ?_
                          refine r_ishl dL_isSo_567 ?_
                          refine r_iconst 0 dL_isSo_568 (by decide) ?_
                          refine r_callSJ hL (ctL_drawn l Ω _ S _ _ hs hg he hn hG (bitI k) false (fun h => by cases h) (fun b h1 h2 => by rw [hasB_bitI (by omega) h2]; exact decide_eq_false (by omega))) kL_isSo_67 rfl rfl (Nat.le_of_ble_eq_true rfl) dL_isSo_569 ?_
                          intro x569 σ569 hσ569
                          obtain ⟨hX569, hs⟩ := hσ569
                          refine r_callSI hL (ctL_ones l Ω _ _ (drX_10 hn hX569)) kL_isSo_56 rfl rfl (Nat.le_of_ble_eq_true rfl) dL_isSo_572 ?_
                          refine r_icmp_eq 580 dL_isSo_575 (by decide) (fun c575 => ?_) (fun c575 => absurd c575 (fun q => q (by rw [drX_on (by omega) hX569, pe_wo (by omega) k (by omega)])))
                          refine r_iinc (nI (k + 1)) dL_isSo_580 rfl (nI_1 k) (by decide) rfl ?_
                          refine r_goto 464 dL_isSo_583 (by decide) ?_
                          exact ihC (k + 1) _ _ _ (by omega) hs (by omega)
                        ·
                          have em : ¬ m = 0 := fun q => c486 ((pr_lt0 (by omega)).mpr q)
                          obtain ⟨u, rfl⟩ : ∃ u, m = u + 1 := ⟨m - 1, by omega⟩
                          rw [nI_pred]
                          refine r_iload dL_isSo_489 rfl ?_
                          refine r_iload dL_isSo_491 rfl ?_
                          refine r_ishr dL_isSo_493 ?_
                          refine r_iconst 1 dL_isSo_494 (by decide) ?_
                          refine r_iand dL_isSo_495 ?_
                          refine r_if_ne 525 dL_isSo_496 (by decide) (fun c496 => ?_) (fun c496 => ?_)
                          ·
                            refine r_iload dL_isSo_525 rfl ?_
                            refine r_istore dL_isSo_527 (by decide) rfl ?_
                            refine r_iinc (nI u - 1) dL_isSo_529 rfl (by rw [Int32.sub_eq_add_neg]; rfl) (by decide) rfl ?_
                            refine r_goto 484 dL_isSo_532 (by decide) ?_
                            exact ih u _ _ (by omega) (wl_a hw (hb_1 c496)) hs (by omega)
                          ·
                            refine r_aload_n dL_isSo_499 rfl ?_
                            refine r_iload dL_isSo_500 rfl ?_
                            refine ldM370 k rfl (by omega) dL_isSo_502 ?_
                            rw [hs.2.2, hG k (by omega)]
                            refine r_iload dL_isSo_503 rfl ?_
                            refine r_iconst (-1) dL_isSo_505 (by decide) ?_
                            refine r_ixor dL_isSo_506 ?_
                            refine r_iand dL_isSo_507 ?_
                            refine r_iconst 1 dL_isSo_508 (by decide) ?_
                            refine r_iload dL_isSo_509 rfl ?_
                            refine r_ishl dL_isSo_511 ?_
                            refine r_iand dL_isSo_512 ?_
                            refine r_if_eq 525 dL_isSo_513 (by decide) (fun c513 => ?_) (fun c513 => ?_)
                            ·
                              refine r_iload dL_isSo_525 rfl ?_
                              refine r_istore dL_isSo_527 (by decide) rfl ?_
                              refine r_iinc (nI u - 1) dL_isSo_529 rfl (by rw [Int32.sub_eq_add_neg]; rfl) (by decide) rfl ?_
                              refine r_goto 484 dL_isSo_532 (by decide) ?_
                              exact ih u _ _ (by omega) (wl_b hw (hb_0 c496) ((wl_p (by omega)).mp c513)) hs (by omega)
                            ·
                              refine r_aload_n dL_isSo_516 rfl ?_
                              refine r_iload dL_isSo_517 rfl ?_
                              refine r_callVJ (368) hL (ctX5_box l Ω _ S hs.1 _) kL_isSo_15 (by omega) ⟨_, _, _, rfl, rfl, rfl⟩ rfl rfl (Nat.le_of_ble_eq_true rfl) dL_isSo_519 ?_
                              intro x519 σ519 hσ519
                              obtain ⟨e519, hs⟩ := lw_q hs hσ519 rfl
                              replace e519 := e519.trans (box_at (by omega) (show u < _ by omega))
                              subst e519
                              refine r_goto 527 dL_isSo_522 (by decide) ?_
                              refine r_istore dL_isSo_527 (by decide) rfl ?_
                              refine r_iinc (nI u - 1) dL_isSo_529 rfl (by rw [Int32.sub_eq_add_neg]; rfl) (by decide) rfl ?_
                              refine r_goto 484 dL_isSo_532 (by decide) ?_
                              exact ih u _ _ (by omega) (wl_c (by omega) (hb_0 c496) (by cases e : wtP (qC S) k u <;> first | rfl | exact absurd ((wl_p (by omega)).mpr e) c513)) hs (by omega)
                    exact L6 (vN (qC S) + 1) (vN (qC S)) (-5) _ (by omega) wl_0 hs (by omega)
              exact L5 (vN (qC S) + 1) 0 _ _ _ (by omega) hs (by omega)
            ·
              replace c196 := Int32.not_le.mp c196
              have n196 := (nI_ltI (a := k) (b := vN (qC S)) (by omega) (by omega)).mp c196
              refine r_aload_n dL_isSo_199 rfl ?_
              refine r_aload_n dL_isSo_200 rfl ?_
              refine r_aload_n dL_isSo_201 rfl ?_
              refine r_iload_n dL_isSo_202 rfl ?_
              refine r_iload dL_isSo_203 rfl ?_
              refine r_callSJ hL (ctL_isBox l Ω _ S _ _ hs hg he hn hG k (by omega)) kL_isSo_63 rfl rfl (Nat.le_of_ble_eq_true rfl) dL_isSo_205 ?_
              intro x205 σ205 hσ205
              obtain ⟨e205, hs⟩ := hσ205
              subst e205
              refine r_if_ne 213 dL_isSo_208 (by decide) (fun c208 => ?_) (fun c208 => absurd c208 (by decide))
              refine r_aload_n dL_isSo_213 rfl ?_
              refine r_iload_n dL_isSo_214 rfl ?_
              refine r_iload dL_isSo_215 rfl ?_
              refine r_callSI hL (ctL_ring l Ω _ (τ 370) (qC S) hs.2.2 hG hn k (by omega)) kL_isSo_50 rfl rfl (Nat.le_of_ble_eq_true rfl) dL_isSo_217 ?_
              refine r_istore dL_isSo_220 (by decide) rfl ?_
              refine r_aload_n dL_isSo_222 rfl ?_
              refine r_aload_n dL_isSo_223 rfl ?_
              refine r_iload dL_isSo_224 rfl ?_
              refine r_callVJ (368) hL (ctX5_box l Ω _ S hs.1 _) kL_isSo_15 (by omega) ⟨_, _, _, rfl, rfl, rfl⟩ rfl rfl (Nat.le_of_ble_eq_true rfl) dL_isSo_226 ?_
              intro x226 σ226 hσ226
              obtain ⟨e226, hs⟩ := lw_q hs hσ226 rfl
              replace e226 := e226.trans (box_at (by omega) (show k < _ by omega))
              subst e226
              refine r_iconst 3 dL_isSo_229 (by decide) ?_
              refine r_callVJ (368) hL (ctX5_ofBox l Ω _ S hs.1 (gd_hY hg) _ _) kL_isSo_53 (by omega) ⟨_, _, _, rfl, rfl, rfl⟩ rfl rfl (Nat.le_of_ble_eq_true rfl) dL_isSo_230 ?_
              intro x230 σ230 hσ230
              obtain ⟨e230, hs⟩ := lw_q hs hσ230 rfl
              replace e230 := e230.trans ((of_at (k := k) hg.1 (by omega)).trans (ofA_3 _ _))
              subst e230
              refine r_istore dL_isSo_233 (by decide) rfl ?_
              have J4 : ∀ (t : Bool) (ht : t = allL (qC S) k 0), AtW mL_isSo Γ Ω σ230 250 [some (.ref (ad Ω 368)), some (.ref (ad Ω 369)), some (.ref (ad Ω 370)), some (.int (nI (vN (qC S)))), some (.int (pa)), some (.int (ri)), some (.int (sr)), some (.int (vo)), some (.int (sd)), some (.int (gr)), some (.int (nI k)), some (.int (rgA (qC S) k)), some (.int (LV (qC S) k)), some (.int ((-1))), some (.int (bI t)), v15, v16] [] := by
                intro t ht
                refine r_iconst 0 dL_isSo_250 (by decide) ?_
                refine r_istore dL_isSo_251 (by decide) rfl ?_
                have L4 : ∀ (N : Nat) (m : Nat) (t : Bool) (z : Int32) (ω : Sg) (v16 : Option Value), m ≤ vN (qC S) → t = allL (qC S) k m → z = mostL (qC S) k m → lwS S (σ2 369) (τ 370) ω → vN (qC S) < m + N → AtW mL_isSo Γ Ω ω 253 [some (.ref (ad Ω 368)), some (.ref (ad Ω 369)), some (.ref (ad Ω 370)), some (.int (nI (vN (qC S)))), some (.int (pa)), some (.int (ri)), some (.int (sr)), some (.int (vo)), some (.int (sd)), some (.int (gr)), some (.int (nI k)), some (.int (rgA (qC S) k)), some (.int (LV (qC S) k)), some (.int (z)), some (.int (bI t)), some (.int (nI m)), v16] [] := by
                  intro N
                  induction N with
                  | zero =>
                    intro m t z ω v16 hm ht hz hs hN
                    exact absurd hN (by omega)
                  | succ N ih =>
                    intro m t z ω v16 hm ht hz hs hN
                    refine r_iload dL_isSo_253 rfl ?_
                    refine r_iload_n dL_isSo_255 rfl ?_
                    refine r_icmp_ge 326 dL_isSo_256 (by decide) (fun c256 => ?_) (fun c256 => ?_)
                    ·
                      replace c256 := Int32.not_lt.mpr c256
                      have n256 := Nat.not_lt.mp (fun q => c256 ((nI_ltI (a := m) (b := vN (qC S)) (by omega) (by omega)).mpr q))
                      have J6 : AtW mL_isSo Γ Ω ω 347 [some (.ref (ad Ω 368)), some (.ref (ad Ω 369)), some (.ref (ad Ω 370)), some (.int (nI (vN (qC S)))), some (.int (pa)), some (.int (ri)), some (.int (sr)), some (.int (vo)), some (.int (sd)), some (.int (gr)), some (.int (nI k)), some (.int (rgA (qC S) k)), some (.int (LV (qC S) k)), some (.int (z)), some (.int (bI t)), some (.int (nI (vN (qC S)))), v16] [] := by
                        have J7 : ∀ (g2 : Int32) (hg2 : g2 = glI (LV (qC S)) (k + 1)), AtW mL_isSo Γ Ω ω 363 [some (.ref (ad Ω 368)), some (.ref (ad Ω 369)), some (.ref (ad Ω 370)), some (.int (nI (vN (qC S)))), some (.int (pa)), some (.int (ri)), some (.int (sr)), some (.int (vo)), some (.int (sd)), some (.int (g2)), some (.int (nI k)), some (.int (rgA (qC S) k)), some (.int (LV (qC S) k)), some (.int (z)), some (.int (bI t)), some (.int (nI (vN (qC S)))), v16] [] := by
                          intro g2 hg2
                          refine r_iload dL_isSo_363 rfl ?_
                          refine r_aload_n dL_isSo_365 rfl ?_
                          refine r_iload dL_isSo_366 rfl ?_
                          refine ldM370 k rfl (by omega) dL_isSo_368 ?_
                          rw [hs.2.2, hG k (by omega)]
                          refine r_callSI hL (ctL_ones l Ω _ _ (hv_10 hn k)) kL_isSo_56 rfl rfl (Nat.le_of_ble_eq_true rfl) dL_isSo_369 ?_
                          refine r_iadd dL_isSo_372 ?_
                          refine r_istore dL_isSo_373 (by decide) rfl ?_
                          have J8 : ∀ (r2 : Int32) (hr2 : r2 = cntI (fun k => hasB (CVv (qC S) k) k) (k + 1)), AtW mL_isSo Γ Ω ω 390 [some (.ref (ad Ω 368)), some (.ref (ad Ω 369)), some (.ref (ad Ω 370)), some (.int (nI (vN (qC S)))), some (.int (pa + bcI (HV (qC S) k))), some (.int (r2)), some (.int (sr)), some (.int (vo)), some (.int (sd)), some (.int (g2)), some (.int (nI k)), some (.int (rgA (qC S) k)), some (.int (LV (qC S) k)), some (.int (z)), some (.int (bI t)), some (.int (nI (vN (qC S)))), v16] [] := by
                            intro r2 hr2
                            have J9 : ∀ (s2 : Int32) (hs2 : s2 = srI (HV (qC S)) (vN (qC S)) (k + 1)), AtW mL_isSo Γ Ω ω 416 [some (.ref (ad Ω 368)), some (.ref (ad Ω 369)), some (.ref (ad Ω 370)), some (.int (nI (vN (qC S)))), some (.int (pa + bcI (HV (qC S) k))), some (.int (r2)), some (.int (s2)), some (.int (vo)), some (.int (sd)), some (.int (g2)), some (.int (nI k)), some (.int (rgA (qC S) k)), some (.int (LV (qC S) k)), some (.int (z)), some (.int (bI t)), some (.int (nI (vN (qC S)))), v16] [] := by
                              intro s2 hs2
                              have h9 := hs.2.1
                              refine r_iload dL_isSo_416 rfl ?_
                              refine r_aload_n dL_isSo_418 rfl ?_
                              refine r_iload dL_isSo_419 rfl ?_
                              refine r_callSI hL (ctL_volume l Ω _ (σ2 369) (qC S) h9 he hn k (by omega)) kL_isSo_32 rfl rfl (Nat.le_of_ble_eq_true rfl) dL_isSo_421 ?_
                              refine r_iadd dL_isSo_424 ?_
                              refine r_istore dL_isSo_425 (by decide) rfl ?_
                              refine r_iload dL_isSo_427 rfl ?_
                              refine r_aload_n dL_isSo_429 rfl ?_
                              refine r_aload_n dL_isSo_430 rfl ?_
                              refine r_iload dL_isSo_431 rfl ?_
                              refine r_callVJ (368) hL (ctX5_box l Ω _ S hs.1 _) kL_isSo_15 (by omega) ⟨_, _, _, rfl, rfl, rfl⟩ rfl rfl (Nat.le_of_ble_eq_true rfl) dL_isSo_433 ?_
                              intro x433 σ433 hσ433
                              obtain ⟨e433, hs⟩ := lw_q hs hσ433 rfl
                              replace e433 := e433.trans (box_at (by omega) (show k < _ by omega))
                              subst e433
                              refine r_bipush 7 dL_isSo_436 (by decide) ?_
                              refine r_callVJ (368) hL (ctX5_ofBox l Ω _ S hs.1 (gd_hY hg) _ _) kL_isSo_53 (by omega) ⟨_, _, _, rfl, rfl, rfl⟩ rfl rfl (Nat.le_of_ble_eq_true rfl) dL_isSo_438 ?_
                              intro x438 σ438 hσ438
                              obtain ⟨e438, hs⟩ := lw_q hs hσ438 rfl
                              replace e438 := e438.trans ((of_at (k := k) hg.1 (by omega)).trans (ofA_7 _ _))
                              subst e438
                              refine r_iadd dL_isSo_441 ?_
                              refine r_istore dL_isSo_442 (by decide) rfl ?_
                              refine r_iinc (nI (k + 1)) dL_isSo_444 rfl (nI_1 k) (by decide) rfl ?_
                              refine r_goto 193 dL_isSo_447 (by decide) ?_
                              exact ihB (k + 1) _ _ _ _ _ _ _ _ _ _ _ _ _ (by omega) hs (by rw [hpa]; rfl) hr2 hs2 (by rw [hvo]; rfl) (by rw [hsd]; rfl) hg2 (by omega)
                            refine r_iload dL_isSo_390 rfl ?_
                            refine r_if_le 412 dL_isSo_392 (by decide) (fun c392 => ?_) (fun c392 => ?_)
                            ·
                              replace c392 := Int32.not_lt.mpr c392
                              refine r_iload dL_isSo_412 rfl ?_
                              refine r_istore dL_isSo_414 (by decide) rfl ?_
                              exact J9 _ (by rw [sr_step (by omega) (by omega), if_neg (fun w => c392 w.1), hsr])
                            ·
                              replace c392 := Int32.not_le.mp c392
                              refine r_iload dL_isSo_395 rfl ?_
                              refine r_if_lt 407 dL_isSo_397 (by decide) (fun c397 => ?_) (fun c397 => ?_)
                              ·
                                refine r_iload dL_isSo_407 rfl ?_
                                refine r_goto 414 dL_isSo_409 (by decide) ?_
                                refine r_istore dL_isSo_414 (by decide) rfl ?_
                                exact J9 _ (by rw [sr_step (by omega) (by omega), if_pos ⟨c392, Or.inl (by rw [← hsr]; exact c397)⟩])
                              ·
                                refine r_iload dL_isSo_400 rfl ?_
                                refine r_iload dL_isSo_402 rfl ?_
                                refine r_icmp_ge 412 dL_isSo_404 (by decide) (fun c404 => ?_) (fun c404 => ?_)
                                ·
                                  replace c404 := Int32.not_lt.mpr c404
                                  refine r_iload dL_isSo_412 rfl ?_
                                  refine r_istore dL_isSo_414 (by decide) rfl ?_
                                  exact J9 _ (by rw [sr_step (by omega) (by omega), if_neg (fun w => w.2.elim (by rw [← hsr]; exact c397) (by rw [← hsr]; exact c404)), hsr])
                                ·
                                  replace c404 := Int32.not_le.mp c404
                                  refine r_iload dL_isSo_407 rfl ?_
                                  refine r_goto 414 dL_isSo_409 (by decide) ?_
                                  refine r_istore dL_isSo_414 (by decide) rfl ?_
                                  exact J9 _ (by rw [sr_step (by omega) (by omega), if_pos ⟨c392, Or.inr (by rw [← hsr]; exact c404)⟩])
                          refine r_iload dL_isSo_375 rfl ?_
                          refine r_iload dL_isSo_377 rfl ?_
                          refine r_if_le 386 dL_isSo_379 (by decide) (fun c379 => ?_) (fun c379 => ?_)
                          ·
                            replace c379 := Int32.not_lt.mpr c379
                            refine r_iconst 0 dL_isSo_386 (by decide) ?_
                            refine r_iadd dL_isSo_387 ?_
                            refine r_istore dL_isSo_388 (by decide) rfl ?_
                            exact J8 _ (cn_n hri ((rg_pos (by omega) (by omega)).symm.trans (decide_eq_false c379)))
                          ·
                            replace c379 := Int32.not_le.mp c379
                            refine r_iconst 1 dL_isSo_382 (by decide) ?_
                            refine r_goto 387 dL_isSo_383 (by decide) ?_
                            refine r_iadd dL_isSo_387 ?_
                            refine r_istore dL_isSo_388 (by decide) rfl ?_
                            exact J8 _ (cn_y hri ((rg_pos (by omega) (by omega)).symm.trans (decide_eq_true c379)))
                        refine r_iload dL_isSo_347 rfl ?_
                        refine r_iload dL_isSo_349 rfl ?_
                        refine r_icmp_le 359 dL_isSo_351 (by decide) (fun c351 => ?_) (fun c351 => ?_)
                        ·
                          replace c351 := Int32.not_lt.mpr c351
                          refine r_iload dL_isSo_359 rfl ?_
                          refine r_istore dL_isSo_361 (by decide) rfl ?_
                          exact J7 _ (by rw [glI, if_neg (by rw [← hgr]; exact c351), hgr])
                        ·
                          replace c351 := Int32.not_le.mp c351
                          refine r_iload dL_isSo_354 rfl ?_
                          refine r_goto 361 dL_isSo_356 (by decide) ?_
                          refine r_istore dL_isSo_361 (by decide) rfl ?_
                          exact J7 _ (by rw [glI, if_pos (by rw [← hgr]; exact c351)])
                      have em : m = vN (qC S) := by omega
                      subst em
                      have hlay := lay_at (v := qC S) (by omega) (show k < _ by omega)
                      refine r_iload dL_isSo_326 rfl ?_
                      refine r_iload dL_isSo_328 rfl ?_
                      refine r_if_eq 340 dL_isSo_330 (by decide) (fun c330 => ?_) (fun c330 => ?_)
                      ·
                        replace c330 := bI_f c330
                        refine r_bipush (-5) dL_isSo_340 (by decide) ?_
                        refine r_icmp_eq 347 dL_isSo_342 (by decide) (fun c342 => ?_) (fun c342 => absurd c342 (fun q => q (by rw [hlay, ← ht, c330]; rfl)))
                        exact J6
                      ·
                        replace c330 := bI_t c330
                        refine r_iload dL_isSo_333 rfl ?_
                        refine r_iconst 1 dL_isSo_335 (by decide) ?_
                        refine r_iadd dL_isSo_336 ?_
                        refine r_goto 342 dL_isSo_337 (by decide) ?_
                        refine r_icmp_eq 347 dL_isSo_342 (by decide) (fun c342 => ?_) (fun c342 => absurd c342 (fun q => q (by rw [hlay, ← ht, c330, ← hz]; rfl)))
                        exact J6
                    ·
                      replace c256 := Int32.not_le.mp c256
                      have n256 := (nI_ltI (a := m) (b := vN (qC S)) (by omega) (by omega)).mp c256
                      refine r_aload_n dL_isSo_259 rfl ?_
                      refine r_iload dL_isSo_260 rfl ?_
                      refine ldM370 k rfl (by omega) dL_isSo_262 ?_
                      rw [hs.2.2, hG k (by omega)]
                      refine r_iload dL_isSo_263 rfl ?_
                      refine r_ishr dL_isSo_265 ?_
                      refine r_iconst 1 dL_isSo_266 (by decide) ?_
                      refine r_iand dL_isSo_267 ?_
                      refine r_if_ne 274 dL_isSo_268 (by decide) (fun c268 => ?_) (fun c268 => ?_)
                      ·
                        refine r_aload_n dL_isSo_274 rfl ?_
                        refine r_aload_n dL_isSo_275 rfl ?_
                        refine r_iload dL_isSo_276 rfl ?_
                        refine r_callVJ (368) hL (ctX5_box l Ω _ S hs.1 _) kL_isSo_15 (by omega) ⟨_, _, _, rfl, rfl, rfl⟩ rfl rfl (Nat.le_of_ble_eq_true rfl) dL_isSo_278 ?_
                        intro x278 σ278 hσ278
                        obtain ⟨e278, hs⟩ := lw_q hs hσ278 rfl
                        replace e278 := e278.trans (box_at (by omega) (show m < _ by omega))
                        subst e278
                        refine r_iconst 3 dL_isSo_281 (by decide) ?_
                        refine r_callVJ (368) hL (ctX5_ofBox l Ω _ S hs.1 (gd_hY hg) _ _) kL_isSo_53 (by omega) ⟨_, _, _, rfl, rfl, rfl⟩ rfl rfl (Nat.le_of_ble_eq_true rfl) dL_isSo_282 ?_
                        intro x282 σ282 hσ282
                        obtain ⟨e282, hs⟩ := lw_q hs hσ282 rfl
                        replace e282 := e282.trans ((of_at (k := m) hg.1 (by omega)).trans (ofA_3 _ _))
                        subst e282
                        refine r_istore dL_isSo_285 (by decide) rfl ?_
                        have J5 : ∀ (t2 : Bool) (ht2 : t2 = allL (qC S) k (m + 1)), AtW mL_isSo Γ Ω σ282 304 [some (.ref (ad Ω 368)), some (.ref (ad Ω 369)), some (.ref (ad Ω 370)), some (.int (nI (vN (qC S)))), some (.int (pa)), some (.int (ri)), some (.int (sr)), some (.int (vo)), some (.int (sd)), some (.int (gr)), some (.int (nI k)), some (.int (rgA (qC S) k)), some (.int (LV (qC S) k)), some (.int (z)), some (.int (bI t2)), some (.int (nI m)), some (.int (LV (qC S) m))] [] := by
                          intro t2 ht2
                          refine r_iload dL_isSo_304 rfl ?_
                          refine r_iload dL_isSo_306 rfl ?_
                          refine r_icmp_le 316 dL_isSo_308 (by decide) (fun c308 => ?_) (fun c308 => ?_)
                          ·
                            replace c308 := Int32.not_lt.mpr c308
                            refine r_iload dL_isSo_316 rfl ?_
                            refine r_istore dL_isSo_318 (by decide) rfl ?_
                            refine r_iinc (nI (m + 1)) dL_isSo_320 rfl (nI_1 m) (by decide) rfl ?_
                            refine r_goto 253 dL_isSo_323 (by decide) ?_
                            exact ih (m + 1) t2 _ _ _ (by omega) ht2 (by rw [mostL, if_pos (hb_1 c268), if_neg (by rw [← hz]; exact c308), hz]) hs (by omega)
                          ·
                            replace c308 := Int32.not_le.mp c308
                            refine r_iload dL_isSo_311 rfl ?_
                            refine r_goto 318 dL_isSo_313 (by decide) ?_
                            refine r_istore dL_isSo_318 (by decide) rfl ?_
                            refine r_iinc (nI (m + 1)) dL_isSo_320 rfl (nI_1 m) (by decide) rfl ?_
                            refine r_goto 253 dL_isSo_323 (by decide) ?_
                            exact ih (m + 1) t2 _ _ _ (by omega) ht2 (by rw [mostL, if_pos (hb_1 c268), if_pos (by rw [← hz]; exact c308)]) hs (by omega)
                        refine r_iload dL_isSo_287 rfl ?_
                        refine r_if_eq 301 dL_isSo_289 (by decide) (fun c289 => ?_) (fun c289 => ?_)
                        ·
                          replace c289 := bI_f c289
                          refine r_iconst 0 dL_isSo_301 (by decide) ?_
                          refine r_istore dL_isSo_302 (by decide) rfl ?_
                          exact J5 false (by rw [allL, if_pos (hb_1 c268), ← ht, c289]; rfl)
                        ·
                          replace c289 := bI_t c289
                          refine r_iload dL_isSo_292 rfl ?_
                          refine r_if_lt 301 dL_isSo_294 (by decide) (fun c294 => ?_) (fun c294 => ?_)
                          ·
                            refine r_iconst 0 dL_isSo_301 (by decide) ?_
                            refine r_istore dL_isSo_302 (by decide) rfl ?_
                            exact J5 false (by rw [allL, if_pos (hb_1 c268), ← ht, c289, decide_eq_true c294]; rfl)
                          ·
                            refine r_iconst 1 dL_isSo_297 (by decide) ?_
                            refine r_goto 302 dL_isSo_298 (by decide) ?_
                            refine r_istore dL_isSo_302 (by decide) rfl ?_
                            exact J5 true (by rw [allL, if_pos (hb_1 c268), ← ht, c289, decide_eq_false c294]; rfl)
                      ·
                        refine r_goto 320 dL_isSo_271 (by decide) ?_
                        refine r_iinc (nI (m + 1)) dL_isSo_320 rfl (nI_1 m) (by decide) rfl ?_
                        refine r_goto 253 dL_isSo_323 (by decide) ?_
                        exact ih (m + 1) t _ _ _ (by omega) (by rw [allL, if_neg (by simp [hb_0 c268]), ht]) (by rw [mostL, if_neg (by simp [hb_0 c268]), hz]) hs (by omega)
                exact L4 (vN (qC S) + 1) 0 t (-1) _ _ (by omega) ht rfl hs (by omega)
              refine r_iconst (-1) dL_isSo_235 (by decide) ?_
              refine r_istore dL_isSo_236 (by decide) rfl ?_
              refine r_iload dL_isSo_238 rfl ?_
              refine r_if_ge 247 dL_isSo_240 (by decide) (fun c240 => ?_) (fun c240 => ?_)
              ·
                replace c240 := Int32.not_lt.mpr c240
                refine r_iconst 0 dL_isSo_247 (by decide) ?_
                refine r_istore dL_isSo_248 (by decide) rfl ?_
                exact J4 false (by rw [allL, decide_eq_false c240])
              ·
                replace c240 := Int32.not_le.mp c240
                refine r_iconst 1 dL_isSo_243 (by decide) ?_
                refine r_goto 248 dL_isSo_244 (by decide) ?_
                refine r_istore dL_isSo_248 (by decide) rfl ?_
                exact J4 true (by rw [allL, decide_eq_true c240])
        exact L3 (vN (qC S) + 1) 0 0 0 (-5) 0 0 (-5) _ _ _ _ _ _ _ (by omega) hs rfl rfl rfl rfl rfl rfl (by omega)
      ·
        replace c32 := Int32.not_le.mp c32
        have n32 := (nI_ltI (a := k) (b := vN (qC S)) (by omega) (by omega)).mp c32
        refine r_aload_n dL_isSo_35 rfl ?_
        refine r_iload dL_isSo_36 rfl ?_
        refine r_iconst 0 dL_isSo_38 (by decide) ?_
        refine stM370 k rfl (by omega) dL_isSo_39 ?_
        refine r_iconst 0 dL_isSo_40 (by decide) ?_
        refine r_istore dL_isSo_41 (by decide) rfl ?_
        have L2 : ∀ (N : Nat) (m : Nat) (υ : Sg), m ≤ vN (qC S) → isC υ S → υ 369 = σ2 369 → (∀ q, q < k → υ 370 q = HV (qC S) q) → υ 370 k = orI (hdG (vLo (qC S)) (vHi (qC S)) k) bitI m → vN (qC S) < m + N → AtW mL_isSo Γ Ω υ 43 [some (.ref (ad Ω 368)), some (.ref (ad Ω 369)), some (.ref (ad Ω 370)), some (.int (nI (vN (qC S)))), some (.int (0)), some (.int (0)), some (.int ((-5))), some (.int (0)), some (.int (0)), some (.int ((-5))), some (.int (nI k)), some (.int (nI m)), none, none, none, none, none] [] := by
          intro N
          induction N with
          | zero =>
            intro m υ hm hc h9 hv hkk hN
            exact absurd hN (by omega)
          | succ N ih =>
            intro m υ hm hc h9 hv hkk hN
            refine r_iload dL_isSo_43 rfl ?_
            refine r_iload_n dL_isSo_45 rfl ?_
            refine r_icmp_ge 184 dL_isSo_46 (by decide) (fun c46 => ?_) (fun c46 => ?_)
            ·
              replace c46 := Int32.not_lt.mpr c46
              have n46 := Nat.not_lt.mp (fun q => c46 ((nI_ltI (a := m) (b := vN (qC S)) (by omega) (by omega)).mpr q))
              have em : m = vN (qC S) := by omega
              subst em
              refine r_iinc (nI (k + 1)) dL_isSo_184 rfl (nI_1 k) (by decide) rfl ?_
              refine r_goto 29 dL_isSo_187 (by decide) ?_
              exact ihK (k + 1) _ _ (by omega) hc h9 (hv_s hv hkk) (by omega)
            ·
              replace c46 := Int32.not_le.mp c46
              have n46 := (nI_ltI (a := m) (b := vN (qC S)) (by omega) (by omega)).mp c46
              have J1 : ∀ (ω : Sg) (hc : isC ω S) (h9 : ω 369 = σ2 369) (hv : ∀ q, q < k → ω 370 q = HV (qC S) q) (hkk : ω 370 k = orI (hdG (vLo (qC S)) (vHi (qC S)) k) bitI (m + 1)), AtW mL_isSo Γ Ω ω 75 [some (.ref (ad Ω 368)), some (.ref (ad Ω 369)), some (.ref (ad Ω 370)), some (.int (nI (vN (qC S)))), some (.int (0)), some (.int (0)), some (.int ((-5))), some (.int (0)), some (.int (0)), some (.int ((-5))), some (.int (nI k)), some (.int (nI m)), none, none, none, none, none] [] := by
                intro ω hc h9 hv hkk
                refine r_iload dL_isSo_75 rfl ?_
                refine r_iload dL_isSo_77 rfl ?_
                refine r_icmp_eq 178 dL_isSo_79 (by decide) (fun c79 => ?_) (fun c79 => ?_)
                ·
                  have n79 := (nI_eq (a := m) (b := k) (by omega) (by omega)).mp c79
                  refine r_iinc (nI (m + 1)) dL_isSo_178 rfl (nI_1 m) (by decide) rfl ?_
                  refine r_goto 43 dL_isSo_181 (by decide) ?_
                  exact ih (m + 1) _ (by omega) hc h9 hv hkk (by omega)
                ·
                  have n79 : ¬ m = k := fun q => c79 ((nI_eq (a := m) (b := k) (by omega) (by omega)).mpr q)
                  have J2 : AtW mL_isSo Γ Ω ω 118 [some (.ref (ad Ω 368)), some (.ref (ad Ω 369)), some (.ref (ad Ω 370)), some (.int (nI (vN (qC S)))), some (.int (0)), some (.int (0)), some (.int ((-5))), some (.int (0)), some (.int (0)), some (.int ((-5))), some (.int (nI k)), some (.int (nI m)), none, none, none, none, none] [] := by
                    have J3 : AtW mL_isSo Γ Ω ω 154 [some (.ref (ad Ω 368)), some (.ref (ad Ω 369)), some (.ref (ad Ω 370)), some (.int (nI (vN (qC S)))), some (.int (0)), some (.int (0)), some (.int ((-5))), some (.int (0)), some (.int (0)), some (.int ((-5))), some (.int (nI k)), some (.int (nI m)), none, none, none, none, none] [] := by
                      refine r_aload_n dL_isSo_154 rfl ?_
                      refine r_iload dL_isSo_155 rfl ?_
                      refine r_iload dL_isSo_157 rfl ?_
                      refine r_callSI hL (ctL_by l Ω _ (σ2 369) (qC S) h9 he hn k m (by omega) (by omega)) kL_isSo_46 rfl rfl (Nat.le_of_ble_eq_true rfl) dL_isSo_159 ?_
                      refine r_if_le 178 dL_isSo_162 (by decide) (fun c162 => ?_) (fun c162 => ?_)
                      ·
                        replace c162 := Int32.not_lt.mpr c162
                        refine r_iinc (nI (m + 1)) dL_isSo_178 rfl (nI_1 m) (by decide) rfl ?_
                        refine r_goto 43 dL_isSo_181 (by decide) ?_
                        exact ih (m + 1) _ (by omega) hc h9 hv hkk (by omega)
                      ·
                        replace c162 := Int32.not_le.mp c162
                        refine r_aload_n dL_isSo_165 rfl ?_
                        refine r_iload dL_isSo_166 rfl ?_
                        refine r_iload dL_isSo_168 rfl ?_
                        refine r_callSI hL (ctL_by l Ω _ (σ2 369) (qC S) h9 he hn m k (by omega) (by omega)) kL_isSo_46 rfl rfl (Nat.le_of_ble_eq_true rfl) dL_isSo_170 ?_
                        refine r_if_le 178 dL_isSo_173 (by decide) (fun c173 => ?_) (fun c173 => absurd c173 (fun q => q (Int32.not_lt.mp (hb_ex hg (by omega) (by omega) (fun z => n79 z.symm) c162))))
                        refine r_iinc (nI (m + 1)) dL_isSo_178 rfl (nI_1 m) (by decide) rfl ?_
                        refine r_goto 43 dL_isSo_181 (by decide) ?_
                        exact ih (m + 1) _ (by omega) hc h9 hv hkk (by omega)
                    refine r_aload_n dL_isSo_118 rfl ?_
                    refine r_iload dL_isSo_119 rfl ?_
                    refine r_iload dL_isSo_121 rfl ?_
                    refine r_callSI hL (ctL_overlap l Ω _ (σ2 369) (qC S) h9 he hn k m (by omega) (by omega)) kL_isSo_22 rfl rfl (Nat.le_of_ble_eq_true rfl) dL_isSo_123 ?_
                    refine r_aload_n dL_isSo_126 rfl ?_
                    refine r_iload dL_isSo_127 rfl ?_
                    refine r_iload dL_isSo_129 rfl ?_
                    refine r_callSI hL (ctL_by l Ω _ (σ2 369) (qC S) h9 he hn k m (by omega) (by omega)) kL_isSo_46 rfl rfl (Nat.le_of_ble_eq_true rfl) dL_isSo_131 ?_
                    refine r_aload_n dL_isSo_134 rfl ?_
                    refine r_iload dL_isSo_135 rfl ?_
                    refine r_iload dL_isSo_137 rfl ?_
                    refine r_callSI hL (ctL_by l Ω _ (σ2 369) (qC S) h9 he hn m k (by omega) (by omega)) kL_isSo_46 rfl rfl (Nat.le_of_ble_eq_true rfl) dL_isSo_139 ?_
                    refine r_iadd dL_isSo_142 ?_
                    refine r_if_le 150 dL_isSo_143 (by decide) (fun c143 => ?_) (fun c143 => ?_)
                    ·
                      replace c143 := Int32.not_lt.mpr c143
                      refine r_iconst 0 dL_isSo_150 (by decide) ?_
                      refine r_icmp_ne 176 dL_isSo_151 (by decide) (fun c151 => absurd c151 (fun q => q (by rw [ov_by hg (by omega) (by omega) (fun z => n79 z.symm), decide_eq_false c143]; rfl))) (fun c151 => ?_)
                      exact J3
                    ·
                      replace c143 := Int32.not_le.mp c143
                      refine r_iconst 1 dL_isSo_146 (by decide) ?_
                      refine r_goto 151 dL_isSo_147 (by decide) ?_
                      refine r_icmp_ne 176 dL_isSo_151 (by decide) (fun c151 => absurd c151 (fun q => q (by rw [ov_by hg (by omega) (by omega) (fun z => n79 z.symm), decide_eq_true c143]; rfl))) (fun c151 => ?_)
                      exact J3
                  refine r_aload_n dL_isSo_82 rfl ?_
                  refine r_iload dL_isSo_83 rfl ?_
                  refine r_iload dL_isSo_85 rfl ?_
                  refine r_iconst 0 dL_isSo_87 (by decide) ?_
                  refine r_callSI hL (ctL_isAcross l Ω _ (σ2 369) (qC S) h9 he hn k m (by omega) (by omega) 0 (by omega)) kL_isSo_28 rfl rfl (Nat.le_of_ble_eq_true rfl) dL_isSo_88 ?_
                  refine r_if_eq 118 dL_isSo_91 (by decide) (fun c91 => ?_) (fun c91 => ?_)
                  ·
                    replace c91 := bI_f c91
                    exact J2
                  ·
                    replace c91 := bI_t c91
                    refine r_aload_n dL_isSo_94 rfl ?_
                    refine r_iload dL_isSo_95 rfl ?_
                    refine r_iload dL_isSo_97 rfl ?_
                    refine r_iconst 1 dL_isSo_99 (by decide) ?_
                    refine r_callSI hL (ctL_isAcross l Ω _ (σ2 369) (qC S) h9 he hn k m (by omega) (by omega) 1 (by omega)) kL_isSo_28 rfl rfl (Nat.le_of_ble_eq_true rfl) dL_isSo_100 ?_
                    refine r_if_eq 118 dL_isSo_103 (by decide) (fun c103 => ?_) (fun c103 => ?_)
                    ·
                      replace c103 := bI_f c103
                      exact J2
                    ·
                      replace c103 := bI_t c103
                      refine r_aload_n dL_isSo_106 rfl ?_
                      refine r_iload dL_isSo_107 rfl ?_
                      refine r_iload dL_isSo_109 rfl ?_
                      refine r_iconst 2 dL_isSo_111 (by decide) ?_
                      refine r_callSI hL (ctL_isAcross l Ω _ (σ2 369) (qC S) h9 he hn k m (by omega) (by omega) 2 (by omega)) kL_isSo_28 rfl rfl (Nat.le_of_ble_eq_true rfl) dL_isSo_112 ?_
                      refine r_if_ne 176 dL_isSo_115 (by decide) (fun c115 => absurd c115 (fun q => q (by rw [ct_no hg (by omega) (by omega) (fun z => n79 z.symm) c91 c103]; rfl))) (fun c115 => ?_)
                      exact J2
              refine r_aload_n dL_isSo_49 rfl ?_
              refine r_iload dL_isSo_50 rfl ?_
              refine r_dup2 dL_isSo_52 rfl rfl ?_
              refine ldM370 k rfl (by omega) dL_isSo_53 ?_
              refine r_aload_n dL_isSo_54 rfl ?_
              refine r_iload dL_isSo_55 rfl ?_
              refine r_iload dL_isSo_57 rfl ?_
              refine r_callSI hL (ctL_by l Ω _ (σ2 369) (qC S) h9 he hn k m (by omega) (by omega)) kL_isSo_46 rfl rfl (Nat.le_of_ble_eq_true rfl) dL_isSo_59 ?_
              refine r_if_le 72 dL_isSo_62 (by decide) (fun c62 => ?_) (fun c62 => ?_)
              ·
                replace c62 := Int32.not_lt.mpr c62
                refine r_iconst 0 dL_isSo_72 (by decide) ?_
                refine r_ior dL_isSo_73 ?_
                refine stM370 k rfl (by omega) dL_isSo_74 ?_
                exact J1 _ (isC_up hc (by omega)) ((up_ne (by omega)).trans h9) (hv_upk hv) (by rw [up_get, if_pos ⟨rfl, rfl⟩, hkk, orI, if_neg (by simp [hb_neg c62]), or_0])
              ·
                replace c62 := Int32.not_le.mp c62
                refine r_iconst 1 dL_isSo_65 (by decide) ?_
                refine r_iload dL_isSo_66 rfl ?_
                refine r_ishl dL_isSo_68 ?_
                refine r_goto 73 dL_isSo_69 (by decide) ?_
                refine r_ior dL_isSo_73 ?_
                refine stM370 k rfl (by omega) dL_isSo_74 ?_
                exact J1 _ (isC_up hc (by omega)) ((up_ne (by omega)).trans h9) (hv_upk hv) (by rw [up_get, if_pos ⟨rfl, rfl⟩, hkk, orI, if_pos (hb_pos c62)]; rfl)
        exact L2 (vN (qC S) + 1) 0 _ (by omega) (isC_up hc (by omega)) ((up_ne (by omega)).trans h9) (hv_upk hv) (by rw [up_get, if_pos ⟨rfl, rfl⟩]; rfl) (by omega)
  exact L1 (vN (qC S) + 1) 0 _ none (by omega) hc2 rfl (fun q hq => absurd hq (Nat.not_lt_zero q)) (by omega)
