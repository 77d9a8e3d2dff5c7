set_option maxRecDepth 100000 in
set_option maxHeartbeats 4000000 in
theorem ctX1_dropOldest (l : Launch) (Ω : Om) (σ : Sg) (c : Nat) (pm : Nat → Nat) (h0 : hOk σ c pm) : CtW l yX1_dropOldest wsX1_dropOldest (rmD 0) Ω [.ref (ad Ω 363)] σ (reV (fun σ1 => hOk σ1 3 (fun i => if i < 3 then pm (i + 1) else pm 0) ∧ ∀ q, q ≠ 363 → q ≠ 364 → σ1 q = σ q)) := by
  refine ct_intro [some (.ref (ad Ω 363)), none, none] (by decide) rfl rfl (Nat.le_of_ble_eq_true rfl) (fun Γ hL hQ => ?_)
  show AtW mX1_dropOldest Γ Ω σ 0 [some (.ref (ad Ω 363)), none, none] []
  refine r_aload_n dX1_dropOldest_0 rfl ?_
  refine fX1_0 jX1_dropOldest_X1 lX1_dropOldest_11 dX1_dropOldest_1 ?_
  refine r_iconst 0 dX1_dropOldest_4 (by decide) ?_
  refine r_aaldS 0 rfl (by omega) dX1_dropOldest_5 ?_
  rw [hOk_cl h0 (i := 0) (by omega)]
  refine r_astore_n dX1_dropOldest_6 (by decide) rfl ?_
  refine r_iconst 0 dX1_dropOldest_7 (by decide) ?_
  refine r_istore_n dX1_dropOldest_8 (by decide) rfl ?_
  have L1 : ∀ (N : Nat) (k : Nat) (τ : Sg), k ≤ 3 → drI σ pm k τ → 3 < k + N → AtW mX1_dropOldest Γ Ω τ 9 [some (.ref (ad Ω 363)), some (.ref (ad Ω (iS (pm 0)))), some (.int (nI k))] [] := by
    intro N
    induction N with
    | zero =>
      intro k τ hk hτ hN
      exact absurd hN (by omega)
    | succ N ih =>
      intro k τ hk hτ hN
      refine r_iload_n dX1_dropOldest_9 rfl ?_
      refine r_iconst 1 dX1_dropOldest_10 (by decide) ?_
      refine r_iadd dX1_dropOldest_11 ?_
      rw [nI_1]
      refine r_iconst 4 dX1_dropOldest_12 (by decide) ?_
      refine r_icmp_ge 36 dX1_dropOldest_13 (by decide) (fun c13 => ?_) (fun c13 => ?_)
      ·
        replace c13 := Int32.not_lt.mpr c13
        have n13 := Nat.not_lt.mp (fun q => c13 ((nI_ltI (a := k + 1) (b := 4) (by omega) (by omega)).mpr q))
        have ek : k = 3 := by omega
        subst ek
        refine r_aload_n dX1_dropOldest_36 rfl ?_
        refine fX1_0 jX1_dropOldest_X1 lX1_dropOldest_11 dX1_dropOldest_37 ?_
        refine r_iconst 3 dX1_dropOldest_40 (by decide) ?_
        refine r_aload_n dX1_dropOldest_41 rfl ?_
        refine r_aastS 3 rfl (by omega) (pm 0) (h0.2.2.1 _ (by omega)).2.2 dX1_dropOldest_42 ?_
        refine r_aload_n dX1_dropOldest_43 rfl ?_
        refine r_iconst 3 dX1_dropOldest_44 (by decide) ?_
        refine pX1_1 jX1_dropOldest_X1 lX1_dropOldest_18 dX1_dropOldest_45 ?_
        exact r_vret hQ rfl dX1_dropOldest_48 (reV_of (dr_end h0 hτ))
      ·
        replace c13 := Int32.not_le.mp c13
        have n13 := (nI_ltI (a := k + 1) (b := 4) (by omega) (by omega)).mp c13
        refine r_aload_n dX1_dropOldest_16 rfl ?_
        refine fX1_0 jX1_dropOldest_X1 lX1_dropOldest_11 dX1_dropOldest_17 ?_
        refine r_iload_n dX1_dropOldest_20 rfl ?_
        refine r_aload_n dX1_dropOldest_21 rfl ?_
        refine fX1_0 jX1_dropOldest_X1 lX1_dropOldest_11 dX1_dropOldest_22 ?_
        refine r_iload_n dX1_dropOldest_25 rfl ?_
        refine r_iconst 1 dX1_dropOldest_26 (by decide) ?_
        refine r_iadd dX1_dropOldest_27 ?_
        rw [nI_1]
        refine r_aaldS (k + 1) rfl (by omega) dX1_dropOldest_28 ?_
        rw [drI_cl h0 hτ (by omega)]
        refine r_aastS k rfl (by omega) (pm (k + 1)) (h0.2.2.1 _ (by omega)).2.2 dX1_dropOldest_29 ?_
        refine r_iinc (nI (k + 1)) dX1_dropOldest_30 rfl (nI_1 k) (by decide) rfl ?_
        refine r_goto 9 dX1_dropOldest_33 (by decide) ?_
        exact ih (k + 1) _ (by omega) (drI_step hτ) (by omega)
  exact L1 4 0 σ (by omega) ⟨fun i hi => by rw [if_neg (by omega)]; exact (h0.2.2.1 i hi).1, fun _ _ => rfl⟩ (by omega)

set_option maxRecDepth 100000 in
set_option maxHeartbeats 4000000 in
theorem ctX1_remember (l : Launch) (Ω : Om) (σ : Sg) (s n c : Nat) (pm : Nat → Nat) (h0 : hOk σ c pm) (hs : s < 3) (hn : n ≤ 16) (hc : σ (iS s) 1 = nI n) : CtW l yX1_remember wsX1_remember (rmD 3) Ω [.ref (ad Ω 363), .ref (ad Ω (iS s))] σ (reV (rmI σ s n c pm)) := by
  refine ct_intro [some (.ref (ad Ω 363)), some (.ref (ad Ω (iS s)))] (by decide) rfl rfl (Nat.le_of_ble_eq_true rfl) (fun Γ hL hQ => ?_)
  show AtW mX1_remember Γ Ω σ 0 [some (.ref (ad Ω 363)), some (.ref (ad Ω (iS s)))] []
  have h4 := h0.2.1
  have J1 : ∀ (τ : Sg) (c2 : Nat) (p2 : Nat → Nat) (g0 : hOk τ c2 p2) (g1 : ∀ q, q ≠ 363 → q ≠ 364 → τ q = σ q) (g2 : (c < 4 ∧ c2 = c ∧ p2 = pm ∧ τ = σ) ∨ (c = 4 ∧ c2 = 3 ∧ p2 = fun i => if i < 3 then pm (i + 1) else pm 0)), AtW mX1_remember Γ Ω τ 12 [some (.ref (ad Ω 363)), some (.ref (ad Ω (iS s)))] [] := by
    intro τ c2 p2 g0 g1 g2
    have hc2 : c2 < 4 := by omega
    have g3 : τ (iS s) 1 = nI n := by rw [g1 _ (by unfold iS; omega) (by unfold iS; omega)]; exact hc
    have hp2 := g0.2.2.1 c2 hc2
    refine r_aload_n dX1_remember_12 rfl ?_
    refine fX1_0 jX1_remember_X1 lX1_remember_11 dX1_remember_13 ?_
    refine r_aload_n dX1_remember_16 rfl ?_
    refine fX1_1 jX1_remember_X1 lX1_remember_18 dX1_remember_17 ?_
    rw [g0.1]
    refine r_aaldS c2 rfl (by omega) dX1_remember_20 ?_
    rw [hOk_cl g0 hc2]
    refine r_aload_n dX1_remember_21 rfl ?_
    refine r_callVV (iS (p2 c2)) hL (ctX3_copyFrom l Ω τ (p2 c2) s n hp2.2.2 (by omega) (by omega) hn g3) kX1_remember_25 (iS_lt (by omega)) ⟨_, _, _, cel_sp (by omega), rfl, rfl⟩ rfl rfl (Nat.le_of_ble_eq_true rfl) dX1_remember_22 ?_
    intro σ1 hσ1
    refine r_aload_n dX1_remember_25 rfl ?_
    refine r_dup dX1_remember_26 rfl ?_
    refine fX1_1 jX1_remember_X1 lX1_remember_18 dX1_remember_27 ?_
    refine r_iconst 1 dX1_remember_30 (by decide) ?_
    refine r_iadd dX1_remember_31 ?_
    refine pX1_1 jX1_remember_X1 lX1_remember_18 dX1_remember_32 ?_
    exact r_vret hQ rfl dX1_remember_35 (reV_of ⟨p2, τ, c2, g0, g1, g2, rmJ_ok hn hc2 g0 hσ1.1 hσ1.2⟩)
  refine r_aload_n dX1_remember_0 rfl ?_
  refine fX1_1 jX1_remember_X1 lX1_remember_18 dX1_remember_1 ?_
  rw [h0.1]
  refine r_iconst 4 dX1_remember_4 (by decide) ?_
  refine r_icmp_lt 12 dX1_remember_5 (by decide) (fun c5 => ?_) (fun c5 => ?_)
  ·
    have n5 := (nI_ltI (a := c) (b := 4) (by omega) (by omega)).mp c5
    exact J1 σ c pm h0 (fun _ _ _ => rfl) (Or.inl ⟨by omega, rfl, rfl, rfl⟩)
  ·
    have n5 := Nat.not_lt.mp (fun q => c5 ((nI_ltI (a := c) (b := 4) (by omega) (by omega)).mpr q))
    refine r_aload_n dX1_remember_8 rfl ?_
    refine r_callVV (363) hL (ctX1_dropOldest l Ω _ c pm h0) kX1_remember_22 (by omega) ⟨_, _, _, rfl, rfl, rfl⟩ rfl rfl (Nat.le_of_ble_eq_true rfl) dX1_remember_9 ?_
    intro σ1 hσ1
    exact J1 σ1 3 _ hσ1.1 hσ1.2 (Or.inr ⟨by have := h0.2.1; omega, rfl, rfl⟩)

