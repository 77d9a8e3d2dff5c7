set_option maxRecDepth 100000 in
set_option maxHeartbeats 4000000 in
theorem ctX6_findFault (l : Launch) (Ω : Om) (σ : Sg) (L : Nat) (t : Nat → Int32) (ht : txM σ L t) : CtW l yX6_findFault wsX6_findFault (rmD 3) Ω [.ref (ad Ω 369)] σ (reJ (fun r σ1 => r = ffA t L ∧ keepRf σ σ1 ∧ (rdF t L = -1 → σ1 369 16 = bI false))) := by
  refine ct_intro [some (.ref (ad Ω 369))] (by decide) rfl rfl (Nat.le_of_ble_eq_true rfl) (fun Γ hL hQ => ?_)
  show AtW mX6_findFault Γ Ω σ 0 [some (.ref (ad Ω 369))] []
  have hL80 := ht.2.1
  have PW : ∀ (ω : Sg) (hω : rwW σ L t ω), AtW mX6_findFault Γ Ω ω 14 [some (.ref (ad Ω 369))] [] := by
    intro ω hω
    obtain ⟨q, g1, g2⟩ := hω
    refine r_aload_n dX6_findFault_14 rfl ?_
    refine fX6_16 jX6_findFault_X6 lX6_findFault_165 dX6_findFault_15 ?_
    rw [g1.2.2.2.1]
    refine r_if_eq 26 dX6_findFault_18 (by decide) (fun c18 => absurd c18 (by decide)) (fun c18 => ?_)
    refine r_aload_n dX6_findFault_21 rfl ?_
    refine fX6_15 jX6_findFault_X6 lX6_findFault_162 dX6_findFault_22 ?_
    rw [g1.2.2.1]
    exact r_iret hQ rfl dX6_findFault_25 (reJ_of ⟨ff_w (by have := g1.2.2.2.2; omega) g2, keepRp_kr g1.1, fun z => by rw [g2] at z; exact absurd z (nI_nm1 (by have := g1.2.2.2.2; omega))⟩)
  have XW : ∀ (ω : Sg) (hω : rwW σ L t ω), AtW mX6_findFault Γ Ω ω 10 [some (.ref (ad Ω 369))] [] := by
    intro ω hω
    refine r_aload_n dX6_findFault_10 rfl ?_
    refine r_callVV (369) hL (ctX6_readBox l Ω _ σ L t L 0 (fun _ => 0) (Or.inl hω)) kX6_findFault_178 (by omega) ⟨_, _, _, rfl, rfl, rfl⟩ rfl rfl (Nat.le_of_ble_eq_true rfl) dX6_findFault_11 ?_
    intro σ1 hσ1
    exact PW _ (hσ1.resolve_right rbN_gt)
  have XL : ∀ (N : Nat) (j c : Nat) (vs : Nat → Int32) (τ : Sg), rpI σ L t τ j false → rdS t j = some (0, -1, c, vs) → L < j + N → AtW mX6_findFault Γ Ω τ 10 [some (.ref (ad Ω 369))] [] := by
    intro N
    induction N with
    | zero =>
      intro j c vs τ hrp hrd hN
      exact absurd hN (by have := hrp.2.2.2.2; omega)
    | succ N ih =>
      intro j c vs τ hrp hrd hN
      have PN : ∀ (ω : Sg) (hω : rbN σ L t j c vs 5 ω), AtW mX6_findFault Γ Ω ω 14 [some (.ref (ad Ω 369))] [] := by
        intro ω hω
        obtain ⟨n0, d, ws, g1, g2, g3, g4, g5, g6, g7, g8⟩ := hω
        refine r_aload_n dX6_findFault_14 rfl ?_
        refine fX6_16 jX6_findFault_X6 lX6_findFault_165 dX6_findFault_15 ?_
        rw [g3.2.2.2.1]
        refine r_if_eq 26 dX6_findFault_18 (by decide) (fun c18 => ?_) (fun c18 => absurd c18 (by decide))
        refine r_aload_n dX6_findFault_26 rfl ?_
        refine fX6_15 jX6_findFault_X6 lX6_findFault_162 dX6_findFault_27 ?_
        rw [g3.2.2.1]
        refine r_aload_n dX6_findFault_30 rfl ?_
        refine fX6_7 jX6_findFault_X6 lX6_findFault_159 dX6_findFault_31 ?_
        rw [g3.2.1.1]
        have hqL := g3.2.2.2.2
        refine r_icmp_ne 40 dX6_findFault_34 (by decide) (fun c34 => ?_) (fun c34 => ?_)
        ·
          have n34 : ¬ n0 = L := fun q => c34 ((nI_eq (a := n0) (b := L) (by omega) (by omega)).mpr q)
          refine r_aload_n dX6_findFault_40 rfl ?_
          refine r_aload_n dX6_findFault_41 rfl ?_
          refine r_callVI (369) hL (ctX6_sign l Ω _ L t g3.2.1 n0 g3.2.2.1 g3.2.2.2.2) kX6_findFault_168 (by omega) ⟨_, _, _, rfl, rfl, rfl⟩ rfl rfl (Nat.le_of_ble_eq_true rfl) dX6_findFault_42 ?_
          refine r_bipush 59 dX6_findFault_45 (by decide) ?_
          refine r_icmp_ne 54 dX6_findFault_47 (by decide) (fun c47 => ?_) (fun c47 => ?_)
          ·
            refine r_iconst 0 dX6_findFault_54 (by decide) ?_
            refine r_callVV (369) hL (ctX6_take l Ω _ n0 g3.2.2.1 false g3.2.2.2.1 false) kX6_findFault_171 (by omega) ⟨_, _, _, rfl, rfl, rfl⟩ rfl rfl (Nat.le_of_ble_eq_true rfl) dX6_findFault_55 ?_
            intro σ1 hσ1
            refine r_goto 10 dX6_findFault_58 (by decide) ?_
            exact XW _ (rw_bad g3 (sep_bad g3.2.2.2.2 g2 g4 g5 (x := 59) rfl (fun z => absurd z n34) c47) hσ1)
          ·
            refine r_iconst 1 dX6_findFault_50 (by decide) ?_
            refine r_goto 55 dX6_findFault_51 (by decide) ?_
            refine r_callVV (369) hL (ctX6_take l Ω _ n0 g3.2.2.1 false g3.2.2.2.1 true) kX6_findFault_171 (by omega) ⟨_, _, _, rfl, rfl, rfl⟩ rfl rfl (Nat.le_of_ble_eq_true rfl) dX6_findFault_55 ?_
            intro σ1 hσ1
            refine r_goto 10 dX6_findFault_58 (by decide) ?_
            exact ih (n0 + 1) _ _ _ (rp_take g3 hσ1 (fun _ => (sep_ok g2 g4 (x := 59) rfl (by decide) (by decide) c47).1)) (sep_ok g2 g4 (x := 59) rfl (by decide) (by decide) c47).2 (by omega)
        ·
          have n34 := (nI_eq (a := n0) (b := L) (by omega) (by omega)).mp c34
          refine r_bipush (-5) dX6_findFault_37 (by decide) ?_
          exact r_iret hQ rfl dX6_findFault_39 (reJ_of ⟨by rw [n34] at g4; rw [ffA, if_pos (ff_ok g2 g4)], keepRp_kr g3.1, fun _ => g3.2.2.2.1⟩)
      refine r_aload_n dX6_findFault_10 rfl ?_
      refine r_callVV (369) hL (ctX6_readBox l Ω _ σ L t j c vs (Or.inr (rbR_0 hrp hrd))) kX6_findFault_178 (by omega) ⟨_, _, _, rfl, rfl, rfl⟩ rfl rfl (Nat.le_of_ble_eq_true rfl) dX6_findFault_11 ?_
      intro σ1 hσ1
      rcases hσ1 with z | z
      · exact PW _ z
      · exact PN _ z
  refine r_aload_n dX6_findFault_0 rfl ?_
  refine r_iconst 0 dX6_findFault_1 (by decide) ?_
  refine pX6_15 jX6_findFault_X6 lX6_findFault_162 dX6_findFault_2 ?_
  refine r_aload_n dX6_findFault_5 rfl ?_
  refine r_iconst 0 dX6_findFault_6 (by decide) ?_
  refine pX6_16 (Or.inl rfl) jX6_findFault_X6 lX6_findFault_165 dX6_findFault_7 ?_
  exact XL (L + 1) 0 0 _ _ (rp_0 ht) rfl (by omega)
