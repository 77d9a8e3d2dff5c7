set_option maxRecDepth 100000 in
set_option maxHeartbeats 4000000 in
theorem ctX6_readBox (l : Launch) (Ω : Om) (σ σ0 : Sg) (L : Nat) (t : Nat → Int32) (j c : Nat) (vs : Nat → Int32) (h : rwW σ0 L t σ ∨ rbR σ0 L t j c vs 0 σ) : CtW l yX6_readBox wsX6_readBox (rmD 2) Ω [.ref (ad Ω 369)] σ (reV (fun σ1 => rbI σ0 L t j c vs σ1)) := by
  refine ct_intro [some (.ref (ad Ω 369)), none] (by decide) rfl rfl (Nat.le_of_ble_eq_true rfl) (fun Γ hL hQ => ?_)
  show AtW mX6_readBox Γ Ω σ 0 [some (.ref (ad Ω 369)), none] []
  have LW : ∀ (N : Nat) (k : Nat) (τ : Sg), k ≤ 6 → rwW σ0 L t τ → 6 < k + N → AtW mX6_readBox Γ Ω τ 2 [some (.ref (ad Ω 369)), some (.int (nI k))] [] := by
    intro N
    induction N with
    | zero =>
      intro k τ hk hτ hN
      exact absurd hN (by omega)
    | succ N ih =>
      intro k τ hk hτ hN
      obtain ⟨q, g1, g2⟩ := hτ
      refine r_iload_n dX6_readBox_2 rfl ?_
      refine r_bipush 6 dX6_readBox_3 (by decide) ?_
      refine r_icmp_ge 81 dX6_readBox_5 (by decide) (fun c5 => ?_) (fun c5 => ?_)
      ·
        replace c5 := Int32.not_lt.mpr c5
        have n5 := Nat.not_lt.mp (fun q => c5 ((nI_ltI (a := k) (b := 6) (by omega) (by omega)).mpr q))
        exact r_vret hQ rfl dX6_readBox_81 (reV_of (Or.inl ⟨q, g1, g2⟩))
      ·
        replace c5 := Int32.not_le.mp c5
        have n5 := (nI_ltI (a := k) (b := 6) (by omega) (by omega)).mp c5
        have XJ : ∀ (ω : Sg) (hω : rwW σ0 L t ω), AtW mX6_readBox Γ Ω ω 40 [some (.ref (ad Ω 369)), some (.int (nI k))] [] := by
          intro ω hω
          have hω2 := hω
          obtain ⟨q, g1, g2⟩ := hω
          refine r_aload_n dX6_readBox_40 rfl ?_
          refine fX6_16 jX6_readBox_X6 lX6_readBox_165 dX6_readBox_41 ?_
          rw [g1.2.2.2.1]
          refine r_if_ne 75 dX6_readBox_44 (by decide) (fun c44 => ?_) (fun c44 => absurd c44 (by decide))
          refine r_iinc (nI (k + 1)) dX6_readBox_75 rfl (nI_1 k) (by decide) rfl ?_
          refine r_goto 2 dX6_readBox_78 (by decide) ?_
          exact ih (k + 1) _ (by omega) hω2 (by omega)
        refine r_iload_n dX6_readBox_8 rfl ?_
        refine r_if_le 40 dX6_readBox_9 (by decide) (fun c9 => ?_) (fun c9 => ?_)
        ·
          replace c9 := Int32.not_lt.mpr c9
          have n9 := Nat.not_lt.mp (fun q => c9 ((nI_ltI (a := 0) (b := k) (by omega) (by omega)).mpr q))
          exact XJ _ ⟨q, g1, g2⟩
        ·
          replace c9 := Int32.not_le.mp c9
          have n9 := (nI_ltI (a := 0) (b := k) (by omega) (by omega)).mp c9
          refine r_aload_n dX6_readBox_12 rfl ?_
          refine r_aload_n dX6_readBox_13 rfl ?_
          refine r_callVI (369) hL (ctX6_sign l Ω _ L t g1.2.1 q g1.2.2.1 g1.2.2.2.2) kX6_readBox_168 (by omega) ⟨_, _, _, rfl, rfl, rfl⟩ rfl rfl (Nat.le_of_ble_eq_true rfl) dX6_readBox_14 ?_
          refine r_iload_n dX6_readBox_17 rfl ?_
          refine r_iconst 3 dX6_readBox_18 (by decide) ?_
          refine r_icmp_ne 27 dX6_readBox_19 (by decide) (fun c19 => ?_) (fun c19 => ?_)
          ·
            have n19 : ¬ k = 3 := fun q => c19 ((nI_eq (a := k) (b := 3) (by omega) (by omega)).mpr q)
            refine r_bipush 44 dX6_readBox_27 (by decide) ?_
            refine r_icmp_ne 36 dX6_readBox_29 (by decide) (fun c29 => ?_) (fun c29 => ?_)
            ·
              refine r_iconst 0 dX6_readBox_36 (by decide) ?_
              refine r_callVV (369) hL (ctX6_take l Ω _ q g1.2.2.1 true g1.2.2.2.1 false) kX6_readBox_171 (by omega) ⟨_, _, _, rfl, rfl, rfl⟩ rfl rfl (Nat.le_of_ble_eq_true rfl) dX6_readBox_37 ?_
              intro σ1 hσ1
              exact XJ _ (rw_tk g1 g2 hσ1)
            ·
              refine r_iconst 1 dX6_readBox_32 (by decide) ?_
              refine r_goto 37 dX6_readBox_33 (by decide) ?_
              refine r_callVV (369) hL (ctX6_take l Ω _ q g1.2.2.1 true g1.2.2.2.1 true) kX6_readBox_171 (by omega) ⟨_, _, _, rfl, rfl, rfl⟩ rfl rfl (Nat.le_of_ble_eq_true rfl) dX6_readBox_37 ?_
              intro σ1 hσ1
              exact XJ _ (rw_tk g1 g2 hσ1)
          ·
            have n19 := (nI_eq (a := k) (b := 3) (by omega) (by omega)).mp c19
            refine r_bipush 58 dX6_readBox_22 (by decide) ?_
            refine r_goto 29 dX6_readBox_24 (by decide) ?_
            refine r_icmp_ne 36 dX6_readBox_29 (by decide) (fun c29 => ?_) (fun c29 => ?_)
            ·
              refine r_iconst 0 dX6_readBox_36 (by decide) ?_
              refine r_callVV (369) hL (ctX6_take l Ω _ q g1.2.2.1 true g1.2.2.2.1 false) kX6_readBox_171 (by omega) ⟨_, _, _, rfl, rfl, rfl⟩ rfl rfl (Nat.le_of_ble_eq_true rfl) dX6_readBox_37 ?_
              intro σ1 hσ1
              exact XJ _ (rw_tk g1 g2 hσ1)
            ·
              refine r_iconst 1 dX6_readBox_32 (by decide) ?_
              refine r_goto 37 dX6_readBox_33 (by decide) ?_
              refine r_callVV (369) hL (ctX6_take l Ω _ q g1.2.2.1 true g1.2.2.2.1 true) kX6_readBox_171 (by omega) ⟨_, _, _, rfl, rfl, rfl⟩ rfl rfl (Nat.le_of_ble_eq_true rfl) dX6_readBox_37 ?_
              intro σ1 hσ1
              exact XJ _ (rw_tk g1 g2 hσ1)
  have LK : ∀ (N : Nat) (k : Nat) (τ : Sg), k ≤ 6 → rbS σ0 L t j c vs k τ → 6 < k + N → AtW mX6_readBox Γ Ω τ 2 [some (.ref (ad Ω 369)), some (.int (nI k))] [] := by
    intro N
    induction N with
    | zero =>
      intro k τ hk hτ hN
      exact absurd hN (by omega)
    | succ N ih =>
      intro k τ hk hτ hN
      refine r_iload_n dX6_readBox_2 rfl ?_
      refine r_bipush 6 dX6_readBox_3 (by decide) ?_
      refine r_icmp_ge 81 dX6_readBox_5 (by decide) (fun c5 => ?_) (fun c5 => ?_)
      ·
        replace c5 := Int32.not_lt.mpr c5
        have n5 := Nat.not_lt.mp (fun q => c5 ((nI_ltI (a := k) (b := 6) (by omega) (by omega)).mpr q))
        exact r_vret hQ rfl dX6_readBox_81 (reV_of (Or.inr (by rcases hτ with z | z; (exact absurd z.1 (by omega)); (have e6 : k = 6 := by omega); (rw [e6] at z); (exact z.2))))
      ·
        replace c5 := Int32.not_le.mp c5
        have n5 := (nI_ltI (a := k) (b := 6) (by omega) (by omega)).mp c5
        have WJ : ∀ (ω : Sg) (hω : rwW σ0 L t ω), AtW mX6_readBox Γ Ω ω 40 [some (.ref (ad Ω 369)), some (.int (nI k))] [] := by
          intro ω hω
          have hω2 := hω
          obtain ⟨q, g1, g2⟩ := hω
          refine r_aload_n dX6_readBox_40 rfl ?_
          refine fX6_16 jX6_readBox_X6 lX6_readBox_165 dX6_readBox_41 ?_
          rw [g1.2.2.2.1]
          refine r_if_ne 75 dX6_readBox_44 (by decide) (fun c44 => ?_) (fun c44 => absurd c44 (by decide))
          refine r_iinc (nI (k + 1)) dX6_readBox_75 rfl (nI_1 k) (by decide) rfl ?_
          refine r_goto 2 dX6_readBox_78 (by decide) ?_
          exact LW 7 (k + 1) _ (by omega) hω2 (by omega)
        have RJ : ∀ (ω : Sg) (hω : rbR σ0 L t j c vs k ω), AtW mX6_readBox Γ Ω ω 40 [some (.ref (ad Ω 369)), some (.int (nI k))] [] := by
          intro ω hω
          obtain ⟨q, ws, e1, e2, e3, e4, e5⟩ := hω
          refine r_aload_n dX6_readBox_40 rfl ?_
          refine fX6_16 jX6_readBox_X6 lX6_readBox_165 dX6_readBox_41 ?_
          rw [e2.2.2.2.1]
          refine r_if_ne 75 dX6_readBox_44 (by decide) (fun c44 => absurd c44 (by decide)) (fun c44 => ?_)
          refine r_aload_n dX6_readBox_47 rfl ?_
          refine fX6_14 jX6_readBox_X6 lX6_readBox_40 dX6_readBox_48 ?_
          refine r_iload_n dX6_readBox_51 rfl ?_
          refine r_iload_n dX6_readBox_52 rfl ?_
          refine r_iconst 3 dX6_readBox_53 (by decide) ?_
          refine r_icmp_ge 67 dX6_readBox_54 (by decide) (fun c54 => ?_) (fun c54 => ?_)
          ·
            replace c54 := Int32.not_lt.mpr c54
            have n54 := Nat.not_lt.mp (fun q => c54 ((nI_ltI (a := k) (b := 3) (by omega) (by omega)).mpr q))
            refine r_aload_n dX6_readBox_67 rfl ?_
            refine r_iconst 1 dX6_readBox_68 (by decide) ?_
            refine r_bipush 12 dX6_readBox_69 (by decide) ?_
            refine r_callVJ (369) hL (ctX6_readNumber l Ω _ σ0 L t q k (c + k) ws 1 12 (by rw [if_pos (by omega)]) (by rw [if_pos (by omega)]) e2 e3) kX6_readBox_175 (by omega) ⟨_, _, _, rfl, rfl, rfl⟩ rfl rfl (Nat.le_of_ble_eq_true rfl) dX6_readBox_71 ?_
            intro r σ2 hσ2
            refine stM380 k rfl (by omega) dX6_readBox_74 ?_
            refine r_iinc (nI (k + 1)) dX6_readBox_75 rfl (nI_1 k) (by decide) rfl ?_
            refine r_goto 2 dX6_readBox_78 (by decide) ?_
            rcases rb_read e1 e4 e5 hσ2.1 hσ2.2 with z | z
            · exact LW 7 (k + 1) _ (by omega) z (by omega)
            · exact ih (k + 1) _ (by omega) z (by omega)
          ·
            replace c54 := Int32.not_le.mp c54
            have n54 := (nI_ltI (a := k) (b := 3) (by omega) (by omega)).mp c54
            refine r_aload_n dX6_readBox_57 rfl ?_
            refine r_iconst 0 dX6_readBox_58 (by decide) ?_
            refine r_bipush 31 dX6_readBox_59 (by decide) ?_
            refine r_callVJ (369) hL (ctX6_readNumber l Ω _ σ0 L t q k (c + k) ws 0 31 (by rw [if_neg (by omega)]) (by rw [if_neg (by omega)]) e2 e3) kX6_readBox_175 (by omega) ⟨_, _, _, rfl, rfl, rfl⟩ rfl rfl (Nat.le_of_ble_eq_true rfl) dX6_readBox_61 ?_
            intro r σ2 hσ2
            refine r_goto 74 dX6_readBox_64 (by decide) ?_
            refine stM380 k rfl (by omega) dX6_readBox_74 ?_
            refine r_iinc (nI (k + 1)) dX6_readBox_75 rfl (nI_1 k) (by decide) rfl ?_
            refine r_goto 2 dX6_readBox_78 (by decide) ?_
            rcases rb_read e1 e4 e5 hσ2.1 hσ2.2 with z | z
            · exact LW 7 (k + 1) _ (by omega) z (by omega)
            · exact ih (k + 1) _ (by omega) z (by omega)
        refine r_iload_n dX6_readBox_8 rfl ?_
        refine r_if_le 40 dX6_readBox_9 (by decide) (fun c9 => ?_) (fun c9 => ?_)
        ·
          replace c9 := Int32.not_lt.mpr c9
          have n9 := Nat.not_lt.mp (fun q => c9 ((nI_ltI (a := 0) (b := k) (by omega) (by omega)).mpr q))
          have hk0 : k = 0 := by omega
          have hR : rbR σ0 L t j c vs k τ := by rcases hτ with z | z; (rw [hk0]; exact z.2); (exact absurd z.1 (by omega))
          exact RJ _ hR
        ·
          replace c9 := Int32.not_le.mp c9
          have n9 := (nI_ltI (a := 0) (b := k) (by omega) (by omega)).mp c9
          obtain ⟨q, d, ws, g1, g2, g3, g4, g5, g6, g7, g8⟩ := (hτ.resolve_left (fun z => by omega)).2
          refine r_aload_n dX6_readBox_12 rfl ?_
          refine r_aload_n dX6_readBox_13 rfl ?_
          refine r_callVI (369) hL (ctX6_sign l Ω _ L t g3.2.1 q g3.2.2.1 g3.2.2.2.2) kX6_readBox_168 (by omega) ⟨_, _, _, rfl, rfl, rfl⟩ rfl rfl (Nat.le_of_ble_eq_true rfl) dX6_readBox_14 ?_
          refine r_iload_n dX6_readBox_17 rfl ?_
          refine r_iconst 3 dX6_readBox_18 (by decide) ?_
          refine r_icmp_ne 27 dX6_readBox_19 (by decide) (fun c19 => ?_) (fun c19 => ?_)
          ·
            have n19 : ¬ k = 3 := fun q => c19 ((nI_eq (a := k) (b := 3) (by omega) (by omega)).mpr q)
            refine r_bipush 44 dX6_readBox_27 (by decide) ?_
            refine r_icmp_ne 36 dX6_readBox_29 (by decide) (fun c29 => ?_) (fun c29 => ?_)
            ·
              have hne := c29
              refine r_iconst 0 dX6_readBox_36 (by decide) ?_
              refine r_callVV (369) hL (ctX6_take l Ω _ q g3.2.2.1 false g3.2.2.2.1 false) kX6_readBox_171 (by omega) ⟨_, _, _, rfl, rfl, rfl⟩ rfl rfl (Nat.le_of_ble_eq_true rfl) dX6_readBox_37 ?_
              intro σ1 hσ1
              exact WJ _ (rw_bad g3 (sep_bad g3.2.2.2.2 g2 g4 g5 (sep_B n9 n5) (fun _ => by omega) (by rw [sepK, if_neg n19]; exact c29)) hσ1)
            ·
              refine r_iconst 1 dX6_readBox_32 (by decide) ?_
              refine r_goto 37 dX6_readBox_33 (by decide) ?_
              refine r_callVV (369) hL (ctX6_take l Ω _ q g3.2.2.1 false g3.2.2.2.1 true) kX6_readBox_171 (by omega) ⟨_, _, _, rfl, rfl, rfl⟩ rfl rfl (Nat.le_of_ble_eq_true rfl) dX6_readBox_37 ?_
              intro σ1 hσ1
              exact RJ _ (rb_good n9 n5 g1 g2 g3 g4 g6 g7 g8 (by rw [sepK, if_neg n19]; exact c29) hσ1)
          ·
            have n19 := (nI_eq (a := k) (b := 3) (by omega) (by omega)).mp c19
            refine r_bipush 58 dX6_readBox_22 (by decide) ?_
            refine r_goto 29 dX6_readBox_24 (by decide) ?_
            refine r_icmp_ne 36 dX6_readBox_29 (by decide) (fun c29 => ?_) (fun c29 => ?_)
            ·
              have hne := c29
              refine r_iconst 0 dX6_readBox_36 (by decide) ?_
              refine r_callVV (369) hL (ctX6_take l Ω _ q g3.2.2.1 false g3.2.2.2.1 false) kX6_readBox_171 (by omega) ⟨_, _, _, rfl, rfl, rfl⟩ rfl rfl (Nat.le_of_ble_eq_true rfl) dX6_readBox_37 ?_
              intro σ1 hσ1
              exact WJ _ (rw_bad g3 (sep_bad g3.2.2.2.2 g2 g4 g5 (sep_B n9 n5) (fun _ => by omega) (by rw [sepK, if_pos n19]; exact c29)) hσ1)
            ·
              refine r_iconst 1 dX6_readBox_32 (by decide) ?_
              refine r_goto 37 dX6_readBox_33 (by decide) ?_
              refine r_callVV (369) hL (ctX6_take l Ω _ q g3.2.2.1 false g3.2.2.2.1 true) kX6_readBox_171 (by omega) ⟨_, _, _, rfl, rfl, rfl⟩ rfl rfl (Nat.le_of_ble_eq_true rfl) dX6_readBox_37 ?_
              intro σ1 hσ1
              exact RJ _ (rb_good n9 n5 g1 g2 g3 g4 g6 g7 g8 (by rw [sepK, if_pos n19]; exact c29) hσ1)
  refine r_iconst 0 dX6_readBox_0 (by decide) ?_
  refine r_istore_n dX6_readBox_1 (by decide) rfl ?_
  rcases h with h | h
  · exact LW 7 0 σ (by omega) h (by omega)
  · exact LK 7 0 σ (by omega) (Or.inl ⟨rfl, h⟩) (by omega)
