set_option maxRecDepth 100000 in
set_option maxHeartbeats 4000000 in
theorem ctX6_hidesBy (l : Launch) (Ω : Om) (σ : Sg) (v : SpV) (hz : isZ (σ 370) v) (a b : Nat) (ha : a < vN v) (hb : b < vN v) : CtW l yX6_hidesBy wsX6_hidesBy (rmD 5) Ω [.ref (ad Ω 369), .int (nI a), .int (nI b)] σ (roI (hbI v a b) σ) := by
  refine ct_intro [some (.ref (ad Ω 369)), some (.int (nI a)), some (.int (nI b)), none, none] (by decide) rfl rfl (Nat.le_of_ble_eq_true rfl) (fun Γ hL hQ => ?_)
  show AtW mX6_hidesBy Γ Ω σ 0 [some (.ref (ad Ω 369)), some (.int (nI a)), some (.int (nI b)), none, none] []
  have hn := hz.1
  have hz0 := hz.2.1
  have J1 : ∀ (x : Int32) (hx : x = fI (fun d => !decide (vLo v a d < vHi v b d)) 3 + 1), AtW mX6_hidesBy Γ Ω σ 42 [some (.ref (ad Ω 369)), some (.int (nI a)), some (.int (nI b)), some (.int x), some (.int ((-1)))] [] := by
    intro x hx
    refine r_iload_n dX6_hidesBy_42 rfl ?_
    refine r_iload_n dX6_hidesBy_43 rfl ?_
    refine r_icmp_eq 60 dX6_hidesBy_44 (by decide) (fun c44 => ?_) (fun c44 => ?_)
    ·
      have n44 := (nI_eq (a := a) (b := b) (by omega) (by omega)).mp c44
      refine r_iconst 0 dX6_hidesBy_60 (by decide) ?_
      exact r_iret hQ rfl dX6_hidesBy_61 (roI_of (hb_out (Or.inl n44)))
    ·
      have n44 : ¬ a = b := fun q => c44 ((nI_eq (a := a) (b := b) (by omega) (by omega)).mpr q)
      refine r_aload_n dX6_hidesBy_47 rfl ?_
      refine r_iload_n dX6_hidesBy_48 rfl ?_
      refine r_iload_n dX6_hidesBy_49 rfl ?_
      refine r_callVI (369) hL (ctX6_overlap l Ω _ v hz a b (by omega) (by omega)) kX6_hidesBy_68 (by omega) ⟨_, _, _, rfl, rfl, rfl⟩ rfl rfl (Nat.le_of_ble_eq_true rfl) dX6_hidesBy_50 ?_
      refine r_if_eq 60 dX6_hidesBy_53 (by decide) (fun c53 => ?_) (fun c53 => ?_)
      ·
        replace c53 := bI_f c53
        refine r_iconst 0 dX6_hidesBy_60 (by decide) ?_
        exact r_iret hQ rfl dX6_hidesBy_61 (roI_of (hb_out (Or.inr c53)))
      ·
        replace c53 := bI_t c53
        refine r_iload_n dX6_hidesBy_56 rfl ?_
        refine r_goto 61 dX6_hidesBy_57 (by decide) ?_
        exact r_iret hQ rfl dX6_hidesBy_61 (roI_of (hb_in hx n44 c53))
  refine r_iconst 0 dX6_hidesBy_0 (by decide) ?_
  refine r_istore_n dX6_hidesBy_1 (by decide) rfl ?_
  refine r_iconst 2 dX6_hidesBy_2 (by decide) ?_
  refine r_istore dX6_hidesBy_3 (by decide) rfl ?_
  refine r_iload dX6_hidesBy_5 rfl ?_
  refine r_if_lt 42 dX6_hidesBy_7 (by decide) (fun c7 => absurd c7 (by decide)) (fun c7 => ?_)
  refine r_aload_n dX6_hidesBy_10 rfl ?_
  refine r_iload_n dX6_hidesBy_11 rfl ?_
  refine r_iload dX6_hidesBy_12 rfl ?_
  refine r_callVI (369) hL (ctX6_low l Ω _ v hz a (by omega) 2 (by omega)) kX6_hidesBy_47 (by omega) ⟨_, _, _, rfl, rfl, rfl⟩ rfl rfl (Nat.le_of_ble_eq_true rfl) dX6_hidesBy_14 ?_
  refine r_aload_n dX6_hidesBy_17 rfl ?_
  refine r_iload_n dX6_hidesBy_18 rfl ?_
  refine r_iload dX6_hidesBy_19 rfl ?_
  refine r_callVI (369) hL (ctX6_high l Ω _ v hz b (by omega) 2 (by omega)) kX6_hidesBy_57 (by omega) ⟨_, _, _, rfl, rfl, rfl⟩ rfl rfl (Nat.le_of_ble_eq_true rfl) dX6_hidesBy_21 ?_
  refine r_icmp_lt 34 dX6_hidesBy_24 (by decide) (fun c24 => ?_) (fun c24 => ?_)
  ·
    have g2 := c24
    refine r_iload_n dX6_hidesBy_34 rfl ?_
    refine r_istore_n dX6_hidesBy_35 (by decide) rfl ?_
    refine r_iinc (1) dX6_hidesBy_36 rfl (by decide) (by decide) rfl ?_
    refine r_goto 5 dX6_hidesBy_39 (by decide) ?_
    refine r_iload dX6_hidesBy_5 rfl ?_
    refine r_if_lt 42 dX6_hidesBy_7 (by decide) (fun c7 => absurd c7 (by decide)) (fun c7 => ?_)
    refine r_aload_n dX6_hidesBy_10 rfl ?_
    refine r_iload_n dX6_hidesBy_11 rfl ?_
    refine r_iload dX6_hidesBy_12 rfl ?_
    refine r_callVI (369) hL (ctX6_low l Ω _ v hz a (by omega) 1 (by omega)) kX6_hidesBy_47 (by omega) ⟨_, _, _, rfl, rfl, rfl⟩ rfl rfl (Nat.le_of_ble_eq_true rfl) dX6_hidesBy_14 ?_
    refine r_aload_n dX6_hidesBy_17 rfl ?_
    refine r_iload_n dX6_hidesBy_18 rfl ?_
    refine r_iload dX6_hidesBy_19 rfl ?_
    refine r_callVI (369) hL (ctX6_high l Ω _ v hz b (by omega) 1 (by omega)) kX6_hidesBy_57 (by omega) ⟨_, _, _, rfl, rfl, rfl⟩ rfl rfl (Nat.le_of_ble_eq_true rfl) dX6_hidesBy_21 ?_
    refine r_icmp_lt 34 dX6_hidesBy_24 (by decide) (fun c24 => ?_) (fun c24 => ?_)
    ·
      have g1 := c24
      refine r_iload_n dX6_hidesBy_34 rfl ?_
      refine r_istore_n dX6_hidesBy_35 (by decide) rfl ?_
      refine r_iinc (0) dX6_hidesBy_36 rfl (by decide) (by decide) rfl ?_
      refine r_goto 5 dX6_hidesBy_39 (by decide) ?_
      refine r_iload dX6_hidesBy_5 rfl ?_
      refine r_if_lt 42 dX6_hidesBy_7 (by decide) (fun c7 => absurd c7 (by decide)) (fun c7 => ?_)
      refine r_aload_n dX6_hidesBy_10 rfl ?_
      refine r_iload_n dX6_hidesBy_11 rfl ?_
      refine r_iload dX6_hidesBy_12 rfl ?_
      refine r_callVI (369) hL (ctX6_low l Ω _ v hz a (by omega) 0 (by omega)) kX6_hidesBy_47 (by omega) ⟨_, _, _, rfl, rfl, rfl⟩ rfl rfl (Nat.le_of_ble_eq_true rfl) dX6_hidesBy_14 ?_
      refine r_aload_n dX6_hidesBy_17 rfl ?_
      refine r_iload_n dX6_hidesBy_18 rfl ?_
      refine r_iload dX6_hidesBy_19 rfl ?_
      refine r_callVI (369) hL (ctX6_high l Ω _ v hz b (by omega) 0 (by omega)) kX6_hidesBy_57 (by omega) ⟨_, _, _, rfl, rfl, rfl⟩ rfl rfl (Nat.le_of_ble_eq_true rfl) dX6_hidesBy_21 ?_
      refine r_icmp_lt 34 dX6_hidesBy_24 (by decide) (fun c24 => ?_) (fun c24 => ?_)
      ·
        have g0 := c24
        refine r_iload_n dX6_hidesBy_34 rfl ?_
        refine r_istore_n dX6_hidesBy_35 (by decide) rfl ?_
        refine r_iinc ((-1)) dX6_hidesBy_36 rfl (by decide) (by decide) rfl ?_
        refine r_goto 5 dX6_hidesBy_39 (by decide) ?_
        refine r_iload dX6_hidesBy_5 rfl ?_
        refine r_if_lt 42 dX6_hidesBy_7 (by decide) (fun c7 => ?_) (fun c7 => absurd c7 (by decide))
        exact J1 _ (fI3_n (by simp [g0]) (by simp [g1]) (by simp [g2]))
      ·
        have g0 := c24
        refine r_iload dX6_hidesBy_27 rfl ?_
        refine r_iconst 1 dX6_hidesBy_29 (by decide) ?_
        refine r_iadd dX6_hidesBy_30 ?_
        rw [show (0 : Int32) + 1 = 1 from by decide]
        refine r_goto 35 dX6_hidesBy_31 (by decide) ?_
        refine r_istore_n dX6_hidesBy_35 (by decide) rfl ?_
        refine r_iinc ((-1)) dX6_hidesBy_36 rfl (by decide) (by decide) rfl ?_
        refine r_goto 5 dX6_hidesBy_39 (by decide) ?_
        refine r_iload dX6_hidesBy_5 rfl ?_
        refine r_if_lt 42 dX6_hidesBy_7 (by decide) (fun c7 => ?_) (fun c7 => absurd c7 (by decide))
        exact J1 _ (fI3_0 (by simp [g0]))
    ·
      have g1 := c24
      refine r_iload dX6_hidesBy_27 rfl ?_
      refine r_iconst 1 dX6_hidesBy_29 (by decide) ?_
      refine r_iadd dX6_hidesBy_30 ?_
      rw [show (1 : Int32) + 1 = 2 from by decide]
      refine r_goto 35 dX6_hidesBy_31 (by decide) ?_
      refine r_istore_n dX6_hidesBy_35 (by decide) rfl ?_
      refine r_iinc (0) dX6_hidesBy_36 rfl (by decide) (by decide) rfl ?_
      refine r_goto 5 dX6_hidesBy_39 (by decide) ?_
      refine r_iload dX6_hidesBy_5 rfl ?_
      refine r_if_lt 42 dX6_hidesBy_7 (by decide) (fun c7 => absurd c7 (by decide)) (fun c7 => ?_)
      refine r_aload_n dX6_hidesBy_10 rfl ?_
      refine r_iload_n dX6_hidesBy_11 rfl ?_
      refine r_iload dX6_hidesBy_12 rfl ?_
      refine r_callVI (369) hL (ctX6_low l Ω _ v hz a (by omega) 0 (by omega)) kX6_hidesBy_47 (by omega) ⟨_, _, _, rfl, rfl, rfl⟩ rfl rfl (Nat.le_of_ble_eq_true rfl) dX6_hidesBy_14 ?_
      refine r_aload_n dX6_hidesBy_17 rfl ?_
      refine r_iload_n dX6_hidesBy_18 rfl ?_
      refine r_iload dX6_hidesBy_19 rfl ?_
      refine r_callVI (369) hL (ctX6_high l Ω _ v hz b (by omega) 0 (by omega)) kX6_hidesBy_57 (by omega) ⟨_, _, _, rfl, rfl, rfl⟩ rfl rfl (Nat.le_of_ble_eq_true rfl) dX6_hidesBy_21 ?_
      refine r_icmp_lt 34 dX6_hidesBy_24 (by decide) (fun c24 => ?_) (fun c24 => ?_)
      ·
        have g0 := c24
        refine r_iload_n dX6_hidesBy_34 rfl ?_
        refine r_istore_n dX6_hidesBy_35 (by decide) rfl ?_
        refine r_iinc ((-1)) dX6_hidesBy_36 rfl (by decide) (by decide) rfl ?_
        refine r_goto 5 dX6_hidesBy_39 (by decide) ?_
        refine r_iload dX6_hidesBy_5 rfl ?_
        refine r_if_lt 42 dX6_hidesBy_7 (by decide) (fun c7 => ?_) (fun c7 => absurd c7 (by decide))
        exact J1 _ (fI3_1 (by simp [g0]) (by simp [g1]))
      ·
        have g0 := c24
        refine r_iload dX6_hidesBy_27 rfl ?_
        refine r_iconst 1 dX6_hidesBy_29 (by decide) ?_
        refine r_iadd dX6_hidesBy_30 ?_
        rw [show (0 : Int32) + 1 = 1 from by decide]
        refine r_goto 35 dX6_hidesBy_31 (by decide) ?_
        refine r_istore_n dX6_hidesBy_35 (by decide) rfl ?_
        refine r_iinc ((-1)) dX6_hidesBy_36 rfl (by decide) (by decide) rfl ?_
        refine r_goto 5 dX6_hidesBy_39 (by decide) ?_
        refine r_iload dX6_hidesBy_5 rfl ?_
        refine r_if_lt 42 dX6_hidesBy_7 (by decide) (fun c7 => ?_) (fun c7 => absurd c7 (by decide))
        exact J1 _ (fI3_0 (by simp [g0]))
  ·
    have g2 := c24
    refine r_iload dX6_hidesBy_27 rfl ?_
    refine r_iconst 1 dX6_hidesBy_29 (by decide) ?_
    refine r_iadd dX6_hidesBy_30 ?_
    rw [show (2 : Int32) + 1 = 3 from by decide]
    refine r_goto 35 dX6_hidesBy_31 (by decide) ?_
    refine r_istore_n dX6_hidesBy_35 (by decide) rfl ?_
    refine r_iinc (1) dX6_hidesBy_36 rfl (by decide) (by decide) rfl ?_
    refine r_goto 5 dX6_hidesBy_39 (by decide) ?_
    refine r_iload dX6_hidesBy_5 rfl ?_
    refine r_if_lt 42 dX6_hidesBy_7 (by decide) (fun c7 => absurd c7 (by decide)) (fun c7 => ?_)
    refine r_aload_n dX6_hidesBy_10 rfl ?_
    refine r_iload_n dX6_hidesBy_11 rfl ?_
    refine r_iload dX6_hidesBy_12 rfl ?_
    refine r_callVI (369) hL (ctX6_low l Ω _ v hz a (by omega) 1 (by omega)) kX6_hidesBy_47 (by omega) ⟨_, _, _, rfl, rfl, rfl⟩ rfl rfl (Nat.le_of_ble_eq_true rfl) dX6_hidesBy_14 ?_
    refine r_aload_n dX6_hidesBy_17 rfl ?_
    refine r_iload_n dX6_hidesBy_18 rfl ?_
    refine r_iload dX6_hidesBy_19 rfl ?_
    refine r_callVI (369) hL (ctX6_high l Ω _ v hz b (by omega) 1 (by omega)) kX6_hidesBy_57 (by omega) ⟨_, _, _, rfl, rfl, rfl⟩ rfl rfl (Nat.le_of_ble_eq_true rfl) dX6_hidesBy_21 ?_
    refine r_icmp_lt 34 dX6_hidesBy_24 (by decide) (fun c24 => ?_) (fun c24 => ?_)
    ·
      have g1 := c24
      refine r_iload_n dX6_hidesBy_34 rfl ?_
      refine r_istore_n dX6_hidesBy_35 (by decide) rfl ?_
      refine r_iinc (0) dX6_hidesBy_36 rfl (by decide) (by decide) rfl ?_
      refine r_goto 5 dX6_hidesBy_39 (by decide) ?_
      refine r_iload dX6_hidesBy_5 rfl ?_
      refine r_if_lt 42 dX6_hidesBy_7 (by decide) (fun c7 => absurd c7 (by decide)) (fun c7 => ?_)
      refine r_aload_n dX6_hidesBy_10 rfl ?_
      refine r_iload_n dX6_hidesBy_11 rfl ?_
      refine r_iload dX6_hidesBy_12 rfl ?_
      refine r_callVI (369) hL (ctX6_low l Ω _ v hz a (by omega) 0 (by omega)) kX6_hidesBy_47 (by omega) ⟨_, _, _, rfl, rfl, rfl⟩ rfl rfl (Nat.le_of_ble_eq_true rfl) dX6_hidesBy_14 ?_
      refine r_aload_n dX6_hidesBy_17 rfl ?_
      refine r_iload_n dX6_hidesBy_18 rfl ?_
      refine r_iload dX6_hidesBy_19 rfl ?_
      refine r_callVI (369) hL (ctX6_high l Ω _ v hz b (by omega) 0 (by omega)) kX6_hidesBy_57 (by omega) ⟨_, _, _, rfl, rfl, rfl⟩ rfl rfl (Nat.le_of_ble_eq_true rfl) dX6_hidesBy_21 ?_
      refine r_icmp_lt 34 dX6_hidesBy_24 (by decide) (fun c24 => ?_) (fun c24 => ?_)
      ·
        have g0 := c24
        refine r_iload_n dX6_hidesBy_34 rfl ?_
        refine r_istore_n dX6_hidesBy_35 (by decide) rfl ?_
        refine r_iinc ((-1)) dX6_hidesBy_36 rfl (by decide) (by decide) rfl ?_
        refine r_goto 5 dX6_hidesBy_39 (by decide) ?_
        refine r_iload dX6_hidesBy_5 rfl ?_
        refine r_if_lt 42 dX6_hidesBy_7 (by decide) (fun c7 => ?_) (fun c7 => absurd c7 (by decide))
        exact J1 _ (fI3_2 (by simp [g0]) (by simp [g1]) (by simp [g2]))
      ·
        have g0 := c24
        refine r_iload dX6_hidesBy_27 rfl ?_
        refine r_iconst 1 dX6_hidesBy_29 (by decide) ?_
        refine r_iadd dX6_hidesBy_30 ?_
        rw [show (0 : Int32) + 1 = 1 from by decide]
        refine r_goto 35 dX6_hidesBy_31 (by decide) ?_
        refine r_istore_n dX6_hidesBy_35 (by decide) rfl ?_
        refine r_iinc ((-1)) dX6_hidesBy_36 rfl (by decide) (by decide) rfl ?_
        refine r_goto 5 dX6_hidesBy_39 (by decide) ?_
        refine r_iload dX6_hidesBy_5 rfl ?_
        refine r_if_lt 42 dX6_hidesBy_7 (by decide) (fun c7 => ?_) (fun c7 => absurd c7 (by decide))
        exact J1 _ (fI3_0 (by simp [g0]))
    ·
      have g1 := c24
      refine r_iload dX6_hidesBy_27 rfl ?_
      refine r_iconst 1 dX6_hidesBy_29 (by decide) ?_
      refine r_iadd dX6_hidesBy_30 ?_
      rw [show (1 : Int32) + 1 = 2 from by decide]
      refine r_goto 35 dX6_hidesBy_31 (by decide) ?_
      refine r_istore_n dX6_hidesBy_35 (by decide) rfl ?_
      refine r_iinc (0) dX6_hidesBy_36 rfl (by decide) (by decide) rfl ?_
      refine r_goto 5 dX6_hidesBy_39 (by decide) ?_
      refine r_iload dX6_hidesBy_5 rfl ?_
      refine r_if_lt 42 dX6_hidesBy_7 (by decide) (fun c7 => absurd c7 (by decide)) (fun c7 => ?_)
      refine r_aload_n dX6_hidesBy_10 rfl ?_
      refine r_iload_n dX6_hidesBy_11 rfl ?_
      refine r_iload dX6_hidesBy_12 rfl ?_
      refine r_callVI (369) hL (ctX6_low l Ω _ v hz a (by omega) 0 (by omega)) kX6_hidesBy_47 (by omega) ⟨_, _, _, rfl, rfl, rfl⟩ rfl rfl (Nat.le_of_ble_eq_true rfl) dX6_hidesBy_14 ?_
      refine r_aload_n dX6_hidesBy_17 rfl ?_
      refine r_iload_n dX6_hidesBy_18 rfl ?_
      refine r_iload dX6_hidesBy_19 rfl ?_
      refine r_callVI (369) hL (ctX6_high l Ω _ v hz b (by omega) 0 (by omega)) kX6_hidesBy_57 (by omega) ⟨_, _, _, rfl, rfl, rfl⟩ rfl rfl (Nat.le_of_ble_eq_true rfl) dX6_hidesBy_21 ?_
      refine r_icmp_lt 34 dX6_hidesBy_24 (by decide) (fun c24 => ?_) (fun c24 => ?_)
      ·
        have g0 := c24
        refine r_iload_n dX6_hidesBy_34 rfl ?_
        refine r_istore_n dX6_hidesBy_35 (by decide) rfl ?_
        refine r_iinc ((-1)) dX6_hidesBy_36 rfl (by decide) (by decide) rfl ?_
        refine r_goto 5 dX6_hidesBy_39 (by decide) ?_
        refine r_iload dX6_hidesBy_5 rfl ?_
        refine r_if_lt 42 dX6_hidesBy_7 (by decide) (fun c7 => ?_) (fun c7 => absurd c7 (by decide))
        exact J1 _ (fI3_1 (by simp [g0]) (by simp [g1]))
      ·
        have g0 := c24
        refine r_iload dX6_hidesBy_27 rfl ?_
        refine r_iconst 1 dX6_hidesBy_29 (by decide) ?_
        refine r_iadd dX6_hidesBy_30 ?_
        rw [show (0 : Int32) + 1 = 1 from by decide]
        refine r_goto 35 dX6_hidesBy_31 (by decide) ?_
        refine r_istore_n dX6_hidesBy_35 (by decide) rfl ?_
        refine r_iinc ((-1)) dX6_hidesBy_36 rfl (by decide) (by decide) rfl ?_
        refine r_goto 5 dX6_hidesBy_39 (by decide) ?_
        refine r_iload dX6_hidesBy_5 rfl ?_
        refine r_if_lt 42 dX6_hidesBy_7 (by decide) (fun c7 => ?_) (fun c7 => absurd c7 (by decide))
        exact J1 _ (fI3_0 (by simp [g0]))

set_option maxRecDepth 100000 in
set_option maxHeartbeats 4000000 in
theorem ctX6_findHiding (l : Launch) (Ω : Om) (σ : Sg) (v : SpV) (hz : isZ (σ 370) v) : CtW l yX6_findHiding wsX6_findHiding (rmD 6) Ω [.ref (ad Ω 369)] σ (reV (fun σ1 => fhI v σ σ1)) := by
  refine ct_intro [some (.ref (ad Ω 369)), none, none] (by decide) rfl rfl (Nat.le_of_ble_eq_true rfl) (fun Γ hL hQ => ?_)
  show AtW mX6_findHiding Γ Ω σ 0 [some (.ref (ad Ω 369)), none, none] []
  have hn := hz.1
  have hz0 := hz.2.1
  refine r_iconst 0 dX6_findHiding_0 (by decide) ?_
  refine r_istore_n dX6_findHiding_1 (by decide) rfl ?_
  have L1 : ∀ (N : Nat) (k : Nat) (τ : Sg) (v2 : Option Value), k ≤ vN v → fh1 v σ k τ → vN v < k + N → AtW mX6_findHiding Γ Ω τ 2 [some (.ref (ad Ω 369)), some (.int (nI k)), v2] [] := by
    intro N
    induction N with
    | zero =>
      intro k τ v2 hk hτ hN
      exact absurd hN (by omega)
    | succ N ih =>
      intro k τ v2 hk hτ hN
      have ihA := ih
      have hzτ : isZ (τ 370) v := by rw [hτ.2 370 (by omega) (by omega)]; exact hz
      have hz0τ := hzτ.2.1
      refine r_iload_n dX6_findHiding_2 rfl ?_
      refine r_aload_n dX6_findHiding_3 rfl ?_
      refine fX6_0 jX6_findHiding_X6 lX6_findHiding_7 dX6_findHiding_4 ?_
      refine r_iconst 0 dX6_findHiding_7 (by decide) ?_
      refine ldM370 0 rfl (by omega) dX6_findHiding_8 ?_
      rw [hz0τ]
      refine r_icmp_ge 80 dX6_findHiding_9 (by decide) (fun c9 => ?_) (fun c9 => ?_)
      ·
        replace c9 := Int32.not_lt.mpr c9
        have n9 := Nat.not_lt.mp (fun q => c9 ((nI_ltI (a := k) (b := vN v) (by omega) (by omega)).mpr q))
        refine r_iconst 0 dX6_findHiding_80 (by decide) ?_
        refine r_istore_n dX6_findHiding_81 (by decide) rfl ?_
        have L3 : ∀ (N : Nat) (k : Nat) (τ : Sg) (v2 : Option Value), k ≤ vN v → fh3 v σ k τ → vN v < k + N → AtW mX6_findHiding Γ Ω τ 82 [some (.ref (ad Ω 369)), some (.int (nI k)), v2] [] := by
          intro N
          induction N with
          | zero =>
            intro k τ v2 hk hτ hN
            exact absurd hN (by omega)
          | succ N ih =>
            intro k τ v2 hk hτ hN
            have ihA := ih
            have hzτ : isZ (τ 370) v := by rw [hτ.2 370 (by omega) (by omega)]; exact hz
            have hz0τ := hzτ.2.1
            refine r_iload_n dX6_findHiding_82 rfl ?_
            refine r_aload_n dX6_findHiding_83 rfl ?_
            refine fX6_0 jX6_findHiding_X6 lX6_findHiding_7 dX6_findHiding_84 ?_
            refine r_iconst 0 dX6_findHiding_87 (by decide) ?_
            refine ldM370 0 rfl (by omega) dX6_findHiding_88 ?_
            rw [hz0τ]
            refine r_icmp_ge 148 dX6_findHiding_89 (by decide) (fun c89 => ?_) (fun c89 => ?_)
            ·
              replace c89 := Int32.not_lt.mpr c89
              have n89 := Nat.not_lt.mp (fun q => c89 ((nI_ltI (a := k) (b := vN v) (by omega) (by omega)).mpr q))
              have ek : vN v = k := by omega
              subst ek
              exact r_vret hQ rfl dX6_findHiding_148 (reV_of (fhI_of hτ))
            ·
              replace c89 := Int32.not_le.mp c89
              have n89 := (nI_ltI (a := k) (b := vN v) (by omega) (by omega)).mp c89
              refine r_iconst 0 dX6_findHiding_92 (by decide) ?_
              refine r_istore_n dX6_findHiding_93 (by decide) rfl ?_
              have L4 : ∀ (N : Nat) (j : Nat) (υ : Sg), j ≤ vN v → fh4 v σ k j υ → vN v < j + N → AtW mX6_findHiding Γ Ω υ 94 [some (.ref (ad Ω 369)), some (.int (nI k)), some (.int (nI j))] [] := by
                intro N
                induction N with
                | zero =>
                  intro j υ hj hυ hN
                  exact absurd hN (by omega)
                | succ N ih =>
                  intro j υ hj hυ hN
                  have hzυ : isZ (υ 370) v := by rw [hυ.2 370 (by omega) (by omega)]; exact hz
                  have hz0υ := hzυ.2.1
                  refine r_iload_n dX6_findHiding_94 rfl ?_
                  refine r_aload_n dX6_findHiding_95 rfl ?_
                  refine fX6_0 jX6_findHiding_X6 lX6_findHiding_7 dX6_findHiding_96 ?_
                  refine r_iconst 0 dX6_findHiding_99 (by decide) ?_
                  refine ldM370 0 rfl (by omega) dX6_findHiding_100 ?_
                  rw [hz0υ]
                  refine r_icmp_ge 142 dX6_findHiding_101 (by decide) (fun c101 => ?_) (fun c101 => ?_)
                  ·
                    replace c101 := Int32.not_lt.mpr c101
                    have n101 := Nat.not_lt.mp (fun q => c101 ((nI_ltI (a := j) (b := vN v) (by omega) (by omega)).mpr q))
                    have ej : vN v = j := by omega
                    subst ej
                    refine r_iinc (nI (k + 1)) dX6_findHiding_142 rfl (nI_1 k) (by decide) rfl ?_
                    refine r_goto 82 dX6_findHiding_145 (by decide) ?_
                    exact ihA (k + 1) _ _ (by omega) (fh3_s hυ) (by omega)
                  ·
                    replace c101 := Int32.not_le.mp c101
                    have n101 := (nI_ltI (a := j) (b := vN v) (by omega) (by omega)).mp c101
                    refine r_aload_n dX6_findHiding_104 rfl ?_
                    refine fX6_9 jX6_findHiding_X6 lX6_findHiding_28 dX6_findHiding_105 ?_
                    refine r_iload_n dX6_findHiding_108 rfl ?_
                    refine r_dup2 dX6_findHiding_109 rfl rfl ?_
                    refine ldM376 j rfl (by omega) dX6_findHiding_110 ?_
                    refine r_aload_n dX6_findHiding_111 rfl ?_
                    refine fX6_9 jX6_findHiding_X6 lX6_findHiding_28 dX6_findHiding_112 ?_
                    refine r_iload_n dX6_findHiding_115 rfl ?_
                    refine ldM376 j rfl (by omega) dX6_findHiding_116 ?_
                    refine r_iload_n dX6_findHiding_117 rfl ?_
                    refine r_callSI hL (ctX6_has l Ω _ _ k) kX6_findHiding_75 rfl rfl (Nat.le_of_ble_eq_true rfl) dX6_findHiding_118 ?_
                    refine r_if_eq 133 dX6_findHiding_121 (by decide) (fun c121 => ?_) (fun c121 => ?_)
                    ·
                      replace c121 := bI_f c121
                      refine r_iconst 0 dX6_findHiding_133 (by decide) ?_
                      refine r_ior dX6_findHiding_134 ?_
                      refine stM376 j rfl (by omega) dX6_findHiding_135 ?_
                      refine r_iinc (nI (j + 1)) dX6_findHiding_136 rfl (nI_1 j) (by decide) rfl ?_
                      refine r_goto 94 dX6_findHiding_139 (by decide) ?_
                      exact ih (j + 1) _ (by omega) (fh4_no (by omega) hυ c121) (by omega)
                    ·
                      replace c121 := bI_t c121
                      refine r_aload_n dX6_findHiding_124 rfl ?_
                      refine fX6_9 jX6_findHiding_X6 lX6_findHiding_28 dX6_findHiding_125 ?_
                      refine r_iload_n dX6_findHiding_128 rfl ?_
                      refine ldM376 k rfl (by omega) dX6_findHiding_129 ?_
                      refine r_goto 134 dX6_findHiding_130 (by decide) ?_
                      refine r_ior dX6_findHiding_134 ?_
                      refine stM376 j rfl (by omega) dX6_findHiding_135 ?_
                      refine r_iinc (nI (j + 1)) dX6_findHiding_136 rfl (nI_1 j) (by decide) rfl ?_
                      refine r_goto 94 dX6_findHiding_139 (by decide) ?_
                      exact ih (j + 1) _ (by omega) (fh4_yes (by omega) (by omega) hυ c121) (by omega)
              exact L4 (vN v + 1) 0 _ (by omega) (fh4_0 hτ) (by omega)
        have ek : vN v = k := by omega
        subst ek
        exact L3 (vN v + 1) 0 τ _ (by omega) (fh3_0 hτ) (by omega)
      ·
        replace c9 := Int32.not_le.mp c9
        have n9 := (nI_ltI (a := k) (b := vN v) (by omega) (by omega)).mp c9
        refine r_aload_n dX6_findHiding_12 rfl ?_
        refine fX6_8 jX6_findHiding_X6 lX6_findHiding_25 dX6_findHiding_13 ?_
        refine r_iload_n dX6_findHiding_16 rfl ?_
        refine r_iconst 0 dX6_findHiding_17 (by decide) ?_
        refine stM375 k rfl (by omega) dX6_findHiding_18 ?_
        refine r_iconst 0 dX6_findHiding_19 (by decide) ?_
        refine r_istore_n dX6_findHiding_20 (by decide) rfl ?_
        have L2 : ∀ (N : Nat) (j : Nat) (υ : Sg), j ≤ vN v → fh2 v σ k j υ → vN v < j + N → AtW mX6_findHiding Γ Ω υ 21 [some (.ref (ad Ω 369)), some (.int (nI k)), some (.int (nI j))] [] := by
          intro N
          induction N with
          | zero =>
            intro j υ hj hυ hN
            exact absurd hN (by omega)
          | succ N ih =>
            intro j υ hj hυ hN
            have hzυ : isZ (υ 370) v := by rw [hυ.2.2 370 (by omega) (by omega)]; exact hz
            have hz0υ := hzυ.2.1
            refine r_iload_n dX6_findHiding_21 rfl ?_
            refine r_aload_n dX6_findHiding_22 rfl ?_
            refine fX6_0 jX6_findHiding_X6 lX6_findHiding_7 dX6_findHiding_23 ?_
            refine r_iconst 0 dX6_findHiding_26 (by decide) ?_
            refine ldM370 0 rfl (by omega) dX6_findHiding_27 ?_
            rw [hz0υ]
            refine r_icmp_ge 62 dX6_findHiding_28 (by decide) (fun c28 => ?_) (fun c28 => ?_)
            ·
              replace c28 := Int32.not_lt.mpr c28
              have n28 := Nat.not_lt.mp (fun q => c28 ((nI_ltI (a := j) (b := vN v) (by omega) (by omega)).mpr q))
              have ej : vN v = j := by omega
              subst ej
              refine r_aload_n dX6_findHiding_62 rfl ?_
              refine fX6_9 jX6_findHiding_X6 lX6_findHiding_28 dX6_findHiding_63 ?_
              refine r_iload_n dX6_findHiding_66 rfl ?_
              refine r_aload_n dX6_findHiding_67 rfl ?_
              refine fX6_8 jX6_findHiding_X6 lX6_findHiding_25 dX6_findHiding_68 ?_
              refine r_iload_n dX6_findHiding_71 rfl ?_
              refine ldM375 k rfl (by omega) dX6_findHiding_72 ?_
              refine stM376 k rfl (by omega) dX6_findHiding_73 ?_
              refine r_iinc (nI (k + 1)) dX6_findHiding_74 rfl (nI_1 k) (by decide) rfl ?_
              refine r_goto 2 dX6_findHiding_77 (by decide) ?_
              exact ihA (k + 1) _ _ (by omega) (fh1_s hυ) (by omega)
            ·
              replace c28 := Int32.not_le.mp c28
              have n28 := (nI_ltI (a := j) (b := vN v) (by omega) (by omega)).mp c28
              refine r_aload_n dX6_findHiding_31 rfl ?_
              refine fX6_8 jX6_findHiding_X6 lX6_findHiding_25 dX6_findHiding_32 ?_
              refine r_iload_n dX6_findHiding_35 rfl ?_
              refine r_dup2 dX6_findHiding_36 rfl rfl ?_
              refine ldM375 k rfl (by omega) dX6_findHiding_37 ?_
              refine r_aload_n dX6_findHiding_38 rfl ?_
              refine r_iload_n dX6_findHiding_39 rfl ?_
              refine r_iload_n dX6_findHiding_40 rfl ?_
              refine r_callVI (369) hL (ctX6_hidesBy l Ω _ v hzυ k j (by omega) (by omega)) kX6_findHiding_72 (by omega) ⟨_, _, _, rfl, rfl, rfl⟩ rfl rfl (Nat.le_of_ble_eq_true rfl) dX6_findHiding_41 ?_
              refine r_if_le 53 dX6_findHiding_44 (by decide) (fun c44 => ?_) (fun c44 => ?_)
              ·
                replace c44 := Int32.not_lt.mpr c44
                refine r_iconst 0 dX6_findHiding_53 (by decide) ?_
                refine r_ior dX6_findHiding_54 ?_
                refine stM375 k rfl (by omega) dX6_findHiding_55 ?_
                refine r_iinc (nI (j + 1)) dX6_findHiding_56 rfl (nI_1 j) (by decide) rfl ?_
                refine r_goto 21 dX6_findHiding_59 (by decide) ?_
                exact ih (j + 1) _ (by omega) (fh2_no hυ (hb_neg c44)) (by omega)
              ·
                replace c44 := Int32.not_le.mp c44
                refine r_iconst 1 dX6_findHiding_47 (by decide) ?_
                refine r_iload_n dX6_findHiding_48 rfl ?_
                refine r_ishl dX6_findHiding_49 ?_
                refine r_goto 54 dX6_findHiding_50 (by decide) ?_
                refine r_ior dX6_findHiding_54 ?_
                refine stM375 k rfl (by omega) dX6_findHiding_55 ?_
                refine r_iinc (nI (j + 1)) dX6_findHiding_56 rfl (nI_1 j) (by decide) rfl ?_
                refine r_goto 21 dX6_findHiding_59 (by decide) ?_
                exact ih (j + 1) _ (by omega) (fh2_yes hυ (hb_pos c44)) (by omega)
        exact L2 (vN v + 1) 0 _ (by omega) (fh2_0 hτ) (by omega)
  exact L1 (vN v + 1) 0 σ _ (by omega) ⟨fun j hj => absurd hj (Nat.not_lt_zero j), fun _ _ _ => rfl⟩ (by omega)

set_option maxRecDepth 100000 in
set_option maxHeartbeats 4000000 in
theorem ctX6_isInRing (l : Launch) (Ω : Om) (σ : Sg) (k : Nat) (hk : k < 16) : CtW l yX6_isInRing wsX6_isInRing (rmD 1) Ω [.ref (ad Ω 369), .int (nI k)] σ (roI (bI (hasB (σ 376 k) k)) σ) := by
  refine ct_intro [some (.ref (ad Ω 369)), some (.int (nI k))] (by decide) rfl rfl (Nat.le_of_ble_eq_true rfl) (fun Γ hL hQ => ?_)
  show AtW mX6_isInRing Γ Ω σ 0 [some (.ref (ad Ω 369)), some (.int (nI k))] []
  refine r_aload_n dX6_isInRing_0 rfl ?_
  refine fX6_9 jX6_isInRing_X6 lX6_isInRing_28 dX6_isInRing_1 ?_
  refine r_iload_n dX6_isInRing_4 rfl ?_
  refine ldM376 k rfl (by omega) dX6_isInRing_5 ?_
  refine r_iload_n dX6_isInRing_6 rfl ?_
  refine r_callSI hL (ctX6_has l Ω _ _ k) kX6_isInRing_75 rfl rfl (Nat.le_of_ble_eq_true rfl) dX6_isInRing_7 ?_
  exact r_zret hQ rfl (bI_01 _) dX6_isInRing_10 (roI_of rfl)

set_option maxRecDepth 100000 in
set_option maxHeartbeats 4000000 in
theorem ctX6_ringBoxes (l : Launch) (Ω : Om) (σ : Sg) (v : SpV) (hz : isZ (σ 370) v) (hc : ∀ k, k < vN v → σ 376 k = CVv v k) : CtW l yX6_ringBoxes wsX6_ringBoxes (rmD 2) Ω [.ref (ad Ω 369)] σ (roI (rgI v) σ) := by
  refine ct_intro [some (.ref (ad Ω 369)), none, none] (by decide) rfl rfl (Nat.le_of_ble_eq_true rfl) (fun Γ hL hQ => ?_)
  show AtW mX6_ringBoxes Γ Ω σ 0 [some (.ref (ad Ω 369)), none, none] []
  have hn := hz.1
  have hz0 := hz.2.1
  refine r_iconst 0 dX6_ringBoxes_0 (by decide) ?_
  refine r_istore_n dX6_ringBoxes_1 (by decide) rfl ?_
  refine r_iconst 0 dX6_ringBoxes_2 (by decide) ?_
  refine r_istore_n dX6_ringBoxes_3 (by decide) rfl ?_
  have L1 : ∀ (N : Nat) (k : Nat) (x : Int32), k ≤ vN v → x = orI (fun k => hasB (CVv v k) k) bitI k → vN v < k + N → AtW mX6_ringBoxes Γ Ω σ 4 [some (.ref (ad Ω 369)), some (.int x), some (.int (nI k))] [] := by
    intro N
    induction N with
    | zero =>
      intro k x hk hx hN
      exact absurd hN (by omega)
    | succ N ih =>
      intro k x hk hx hN
      refine r_iload_n dX6_ringBoxes_4 rfl ?_
      refine r_aload_n dX6_ringBoxes_5 rfl ?_
      refine fX6_0 jX6_ringBoxes_X6 lX6_ringBoxes_7 dX6_ringBoxes_6 ?_
      refine r_iconst 0 dX6_ringBoxes_9 (by decide) ?_
      refine ldM370 0 rfl (by omega) dX6_ringBoxes_10 ?_
      rw [hz0]
      refine r_icmp_ge 38 dX6_ringBoxes_11 (by decide) (fun c11 => ?_) (fun c11 => ?_)
      ·
        replace c11 := Int32.not_lt.mpr c11
        have n11 := Nat.not_lt.mp (fun q => c11 ((nI_ltI (a := k) (b := vN v) (by omega) (by omega)).mpr q))
        refine r_iload_n dX6_ringBoxes_38 rfl ?_
        have ek : k = vN v := by omega
        subst ek
        exact r_iret hQ rfl dX6_ringBoxes_39 (roI_of hx)
      ·
        replace c11 := Int32.not_le.mp c11
        have n11 := (nI_ltI (a := k) (b := vN v) (by omega) (by omega)).mp c11
        refine r_iload_n dX6_ringBoxes_14 rfl ?_
        refine r_aload_n dX6_ringBoxes_15 rfl ?_
        refine r_iload_n dX6_ringBoxes_16 rfl ?_
        refine r_callVI (369) hL (ctX6_isInRing l Ω _ k (by omega)) kX6_ringBoxes_78 (by omega) ⟨_, _, _, rfl, rfl, rfl⟩ rfl rfl (Nat.le_of_ble_eq_true rfl) dX6_ringBoxes_17 ?_
        refine r_if_eq 29 dX6_ringBoxes_20 (by decide) (fun c20 => ?_) (fun c20 => ?_)
        ·
          replace c20 := bI_f c20
          refine r_iconst 0 dX6_ringBoxes_29 (by decide) ?_
          refine r_ior dX6_ringBoxes_30 ?_
          refine r_istore_n dX6_ringBoxes_31 (by decide) rfl ?_
          refine r_iinc (nI (k + 1)) dX6_ringBoxes_32 rfl (nI_1 k) (by decide) rfl ?_
          refine r_goto 4 dX6_ringBoxes_35 (by decide) ?_
          exact ih (k + 1) _ (by omega) (by rw [hc k (by omega)] at c20; rw [orI, if_neg (by simp [c20]), hx, or_0]) (by omega)
        ·
          replace c20 := bI_t c20
          refine r_iconst 1 dX6_ringBoxes_23 (by decide) ?_
          refine r_iload_n dX6_ringBoxes_24 rfl ?_
          refine r_ishl dX6_ringBoxes_25 ?_
          refine r_goto 30 dX6_ringBoxes_26 (by decide) ?_
          refine r_ior dX6_ringBoxes_30 ?_
          refine r_istore_n dX6_ringBoxes_31 (by decide) rfl ?_
          refine r_iinc (nI (k + 1)) dX6_ringBoxes_32 rfl (nI_1 k) (by decide) rfl ?_
          refine r_goto 4 dX6_ringBoxes_35 (by decide) ?_
          exact ih (k + 1) _ (by omega) (by rw [hc k (by omega)] at c20; rw [orI, if_pos c20, hx]; rfl) (by omega)
  exact L1 (vN v + 1) 0 _ (by omega) rfl (by omega)

set_option maxRecDepth 100000 in
set_option maxHeartbeats 4000000 in
theorem ctX6_hiddenByAny (l : Launch) (Ω : Om) (σ : Sg) (v : SpV) (hz : isZ (σ 370) v) (hh : ∀ k, k < vN v → σ 375 k = HV v k) (m : Int32) : CtW l yX6_hiddenByAny wsX6_hiddenByAny (rmD 1) Ω [.ref (ad Ω 369), .int m] σ (roI (orI (hasB m) (HV v) (vN v)) σ) := by
  refine ct_intro [some (.ref (ad Ω 369)), some (.int m), none, none] (by decide) rfl rfl (Nat.le_of_ble_eq_true rfl) (fun Γ hL hQ => ?_)
  show AtW mX6_hiddenByAny Γ Ω σ 0 [some (.ref (ad Ω 369)), some (.int m), none, none] []
  have hn := hz.1
  have hz0 := hz.2.1
  refine r_iconst 0 dX6_hiddenByAny_0 (by decide) ?_
  refine r_istore_n dX6_hiddenByAny_1 (by decide) rfl ?_
  refine r_iconst 0 dX6_hiddenByAny_2 (by decide) ?_
  refine r_istore_n dX6_hiddenByAny_3 (by decide) rfl ?_
  have L1 : ∀ (N : Nat) (k : Nat) (x : Int32), k ≤ vN v → x = orI (hasB m) (HV v) k → vN v < k + N → AtW mX6_hiddenByAny Γ Ω σ 4 [some (.ref (ad Ω 369)), some (.int m), some (.int x), some (.int (nI k))] [] := by
    intro N
    induction N with
    | zero =>
      intro k x hk hx hN
      exact absurd hN (by omega)
    | succ N ih =>
      intro k x hk hx hN
      refine r_iload_n dX6_hiddenByAny_4 rfl ?_
      refine r_aload_n dX6_hiddenByAny_5 rfl ?_
      refine fX6_0 jX6_hiddenByAny_X6 lX6_hiddenByAny_7 dX6_hiddenByAny_6 ?_
      refine r_iconst 0 dX6_hiddenByAny_9 (by decide) ?_
      refine ldM370 0 rfl (by omega) dX6_hiddenByAny_10 ?_
      rw [hz0]
      refine r_icmp_ge 41 dX6_hiddenByAny_11 (by decide) (fun c11 => ?_) (fun c11 => ?_)
      ·
        replace c11 := Int32.not_lt.mpr c11
        have n11 := Nat.not_lt.mp (fun q => c11 ((nI_ltI (a := k) (b := vN v) (by omega) (by omega)).mpr q))
        refine r_iload_n dX6_hiddenByAny_41 rfl ?_
        have ek : k = vN v := by omega
        subst ek
        exact r_iret hQ rfl dX6_hiddenByAny_42 (roI_of hx)
      ·
        replace c11 := Int32.not_le.mp c11
        have n11 := (nI_ltI (a := k) (b := vN v) (by omega) (by omega)).mp c11
        refine r_iload_n dX6_hiddenByAny_14 rfl ?_
        refine r_iload_n dX6_hiddenByAny_15 rfl ?_
        refine r_iload_n dX6_hiddenByAny_16 rfl ?_
        refine r_callSI hL (ctX6_has l Ω _ _ k) kX6_hiddenByAny_75 rfl rfl (Nat.le_of_ble_eq_true rfl) dX6_hiddenByAny_17 ?_
        refine r_if_eq 32 dX6_hiddenByAny_20 (by decide) (fun c20 => ?_) (fun c20 => ?_)
        ·
          replace c20 := bI_f c20
          refine r_iconst 0 dX6_hiddenByAny_32 (by decide) ?_
          refine r_ior dX6_hiddenByAny_33 ?_
          refine r_istore_n dX6_hiddenByAny_34 (by decide) rfl ?_
          refine r_iinc (nI (k + 1)) dX6_hiddenByAny_35 rfl (nI_1 k) (by decide) rfl ?_
          refine r_goto 4 dX6_hiddenByAny_38 (by decide) ?_
          exact ih (k + 1) _ (by omega) (by rw [orI, if_neg (by simp [c20]), hx, or_0]) (by omega)
        ·
          replace c20 := bI_t c20
          refine r_aload_n dX6_hiddenByAny_23 rfl ?_
          refine fX6_8 jX6_hiddenByAny_X6 lX6_hiddenByAny_25 dX6_hiddenByAny_24 ?_
          refine r_iload_n dX6_hiddenByAny_27 rfl ?_
          refine ldM375 k rfl (by omega) dX6_hiddenByAny_28 ?_
          rw [hh k (by omega)]
          refine r_goto 33 dX6_hiddenByAny_29 (by decide) ?_
          refine r_ior dX6_hiddenByAny_33 ?_
          refine r_istore_n dX6_hiddenByAny_34 (by decide) rfl ?_
          refine r_iinc (nI (k + 1)) dX6_hiddenByAny_35 rfl (nI_1 k) (by decide) rfl ?_
          refine r_goto 4 dX6_hiddenByAny_38 (by decide) ?_
          exact ih (k + 1) _ (by omega) (by rw [orI, if_pos c20, hx]) (by omega)
  exact L1 (vN v + 1) 0 _ (by omega) rfl (by omega)

set_option maxRecDepth 100000 in
set_option maxHeartbeats 4000000 in
theorem ctX6_shortestRing (l : Launch) (Ω : Om) (σ : Sg) (v : SpV) (hz : isZ (σ 370) v) (hh : ∀ k, k < vN v → σ 375 k = HV v k) (k : Nat) (hk : k < vN v) (hr : exN v k < vN v) : CtW l yX6_shortestRing wsX6_shortestRing (rmD 2) Ω [.ref (ad Ω 369), .int (nI k)] σ (roI (nI (exN v k + 1)) σ) := by
  refine ct_intro [some (.ref (ad Ω 369)), some (.int (nI k)), none, none] (by decide) rfl rfl (Nat.le_of_ble_eq_true rfl) (fun Γ hL hQ => ?_)
  show AtW mX6_shortestRing Γ Ω σ 0 [some (.ref (ad Ω 369)), some (.int (nI k)), none, none] []
  have hn := hz.1
  have hz0 := hz.2.1
  refine r_aload_n dX6_shortestRing_0 rfl ?_
  refine fX6_8 jX6_shortestRing_X6 lX6_shortestRing_25 dX6_shortestRing_1 ?_
  refine r_iload_n dX6_shortestRing_4 rfl ?_
  refine ldM375 k rfl (by omega) dX6_shortestRing_5 ?_
  rw [hh k hk]
  refine r_istore_n dX6_shortestRing_6 (by decide) rfl ?_
  refine r_iconst 1 dX6_shortestRing_7 (by decide) ?_
  refine r_istore_n dX6_shortestRing_8 (by decide) rfl ?_
  have L1 : ∀ (N : Nat) (j : Nat) (x : Int32), j ≤ exN v k → x = exW (HV v) (vN v) k j → exN v k < j + N → AtW mX6_shortestRing Γ Ω σ 9 [some (.ref (ad Ω 369)), some (.int (nI k)), some (.int x), some (.int (nI (j + 1)))] [] := by
    intro N
    induction N with
    | zero =>
      intro j x hj hx hN
      exact absurd hN (by omega)
    | succ N ih =>
      intro j x hj hx hN
      refine r_iload_n dX6_shortestRing_9 rfl ?_
      refine r_iload_n dX6_shortestRing_10 rfl ?_
      refine r_callSI hL (ctX6_has l Ω _ _ k) kX6_shortestRing_75 rfl rfl (Nat.le_of_ble_eq_true rfl) dX6_shortestRing_11 ?_
      refine r_if_ne 29 dX6_shortestRing_14 (by decide) (fun c14 => ?_) (fun c14 => ?_)
      ·
        replace c14 := bI_t c14
        refine r_iload_n dX6_shortestRing_29 rfl ?_
        exact r_iret hQ rfl dX6_shortestRing_30 (roI_of (by rw [exN_hit hj hr (by rw [← hx]; exact c14)]))
      ·
        replace c14 := bI_f c14
        refine r_aload_n dX6_shortestRing_17 rfl ?_
        refine r_iload_n dX6_shortestRing_18 rfl ?_
        refine r_callVI (369) hL (ctX6_hiddenByAny l Ω _ v hz hh _) kX6_shortestRing_82 (by omega) ⟨_, _, _, rfl, rfl, rfl⟩ rfl rfl (Nat.le_of_ble_eq_true rfl) dX6_shortestRing_19 ?_
        refine r_istore_n dX6_shortestRing_22 (by decide) rfl ?_
        refine r_iinc (nI (j + 1 + 1)) dX6_shortestRing_23 rfl (nI_1 (j + 1)) (by decide) rfl ?_
        refine r_goto 9 dX6_shortestRing_26 (by decide) ?_
        exact ih (j + 1) _ (exN_go hj hr (by rw [← hx]; exact c14)) (by rw [hx]; rfl) (by omega)
  exact L1 (exN v k + 1) 0 _ (by omega) rfl (by omega)

set_option maxRecDepth 100000 in
set_option maxHeartbeats 4000000 in
theorem ctX6_shortestOfAll (l : Launch) (Ω : Om) (σ : Sg) (v : SpV) (hz : isZ (σ 370) v) (hh : ∀ k, k < vN v → σ 375 k = HV v k) (hc : ∀ k, k < vN v → σ 376 k = CVv v k) (hR : ∀ k, k < vN v → hasB (CVv v k) k = true → exN v k < vN v) : CtW l yX6_shortestOfAll wsX6_shortestOfAll (rmD 3) Ω [.ref (ad Ω 369)] σ (roI (srX v (vN v)) σ) := by
  refine ct_intro [some (.ref (ad Ω 369)), none, none, none] (by decide) rfl rfl (Nat.le_of_ble_eq_true rfl) (fun Γ hL hQ => ?_)
  show AtW mX6_shortestOfAll Γ Ω σ 0 [some (.ref (ad Ω 369)), none, none, none] []
  have hn := hz.1
  have hz0 := hz.2.1
  refine r_bipush (-5) dX6_shortestOfAll_0 (by decide) ?_
  refine r_istore_n dX6_shortestOfAll_2 (by decide) rfl ?_
  refine r_iconst 0 dX6_shortestOfAll_3 (by decide) ?_
  refine r_istore_n dX6_shortestOfAll_4 (by decide) rfl ?_
  have L1 : ∀ (N : Nat) (k : Nat) (x : Int32) (vx : Option Value), k ≤ vN v → x = srX v k → vN v < k + N → AtW mX6_shortestOfAll Γ Ω σ 5 [some (.ref (ad Ω 369)), some (.int x), some (.int (nI k)), vx] [] := by
    intro N
    induction N with
    | zero =>
      intro k x vx hk hx hN
      exact absurd hN (by omega)
    | succ N ih =>
      intro k x vx hk hx hN
      refine r_iload_n dX6_shortestOfAll_5 rfl ?_
      refine r_aload_n dX6_shortestOfAll_6 rfl ?_
      refine fX6_0 jX6_shortestOfAll_X6 lX6_shortestOfAll_7 dX6_shortestOfAll_7 ?_
      refine r_iconst 0 dX6_shortestOfAll_10 (by decide) ?_
      refine ldM370 0 rfl (by omega) dX6_shortestOfAll_11 ?_
      rw [hz0]
      refine r_icmp_ge 50 dX6_shortestOfAll_12 (by decide) (fun c12 => ?_) (fun c12 => ?_)
      ·
        replace c12 := Int32.not_lt.mpr c12
        have n12 := Nat.not_lt.mp (fun q => c12 ((nI_ltI (a := k) (b := vN v) (by omega) (by omega)).mpr q))
        refine r_iload_n dX6_shortestOfAll_50 rfl ?_
        have ek : k = vN v := by omega
        subst ek
        exact r_iret hQ rfl dX6_shortestOfAll_51 (roI_of hx)
      ·
        replace c12 := Int32.not_le.mp c12
        have n12 := (nI_ltI (a := k) (b := vN v) (by omega) (by omega)).mp c12
        refine r_aload_n dX6_shortestOfAll_15 rfl ?_
        refine r_iload_n dX6_shortestOfAll_16 rfl ?_
        refine r_callVI (369) hL (ctX6_isInRing l Ω _ k (by omega)) kX6_shortestOfAll_78 (by omega) ⟨_, _, _, rfl, rfl, rfl⟩ rfl rfl (Nat.le_of_ble_eq_true rfl) dX6_shortestOfAll_17 ?_
        refine r_if_eq 44 dX6_shortestOfAll_20 (by decide) (fun c20 => ?_) (fun c20 => ?_)
        ·
          replace c20 := bI_f c20
          rw [hc k (by omega)] at c20
          refine r_iinc (nI (k + 1)) dX6_shortestOfAll_44 rfl (nI_1 k) (by decide) rfl ?_
          refine r_goto 5 dX6_shortestOfAll_47 (by decide) ?_
          exact ih (k + 1) _ _ (by omega) (by rw [srX, if_neg (by simp [c20]), hx]) (by omega)
        ·
          replace c20 := bI_t c20
          rw [hc k (by omega)] at c20
          refine r_aload_n dX6_shortestOfAll_23 rfl ?_
          refine r_iload_n dX6_shortestOfAll_24 rfl ?_
          refine r_callVI (369) hL (ctX6_shortestRing l Ω _ v hz hh k (by omega) (hR k (by omega) c20)) kX6_shortestOfAll_86 (by omega) ⟨_, _, _, rfl, rfl, rfl⟩ rfl rfl (Nat.le_of_ble_eq_true rfl) dX6_shortestOfAll_25 ?_
          refine r_istore_n dX6_shortestOfAll_28 (by decide) rfl ?_
          refine r_iload_n dX6_shortestOfAll_29 rfl ?_
          refine r_if_lt 38 dX6_shortestOfAll_30 (by decide) (fun c30 => ?_) (fun c30 => ?_)
          ·
            refine r_iload_n dX6_shortestOfAll_38 rfl ?_
            refine r_goto 43 dX6_shortestOfAll_39 (by decide) ?_
            refine r_istore_n dX6_shortestOfAll_43 (by decide) rfl ?_
            refine r_iinc (nI (k + 1)) dX6_shortestOfAll_44 rfl (nI_1 k) (by decide) rfl ?_
            refine r_goto 5 dX6_shortestOfAll_47 (by decide) ?_
            exact ih (k + 1) _ _ (by omega) (by rw [srX, if_pos c20, ← hx, if_pos c30]) (by omega)
          ·
            refine r_iload_n dX6_shortestOfAll_33 rfl ?_
            refine r_iload_n dX6_shortestOfAll_34 rfl ?_
            refine r_icmp_ge 42 dX6_shortestOfAll_35 (by decide) (fun c35 => ?_) (fun c35 => ?_)
            ·
              replace c35 := Int32.not_lt.mpr c35
              refine r_iload_n dX6_shortestOfAll_42 rfl ?_
              refine r_istore_n dX6_shortestOfAll_43 (by decide) rfl ?_
              refine r_iinc (nI (k + 1)) dX6_shortestOfAll_44 rfl (nI_1 k) (by decide) rfl ?_
              refine r_goto 5 dX6_shortestOfAll_47 (by decide) ?_
              exact ih (k + 1) _ _ (by omega) (by rw [srX, if_pos c20, ← hx, if_neg c30, if_neg c35]) (by omega)
            ·
              replace c35 := Int32.not_le.mp c35
              refine r_iload_n dX6_shortestOfAll_38 rfl ?_
              refine r_goto 43 dX6_shortestOfAll_39 (by decide) ?_
              refine r_istore_n dX6_shortestOfAll_43 (by decide) rfl ?_
              refine r_iinc (nI (k + 1)) dX6_shortestOfAll_44 rfl (nI_1 k) (by decide) rfl ?_
              refine r_goto 5 dX6_shortestOfAll_47 (by decide) ?_
              exact ih (k + 1) _ _ (by omega) (by rw [srX, if_pos c20, ← hx, if_neg c30, if_pos c35]) (by omega)
  exact L1 (vN v + 1) 0 _ _ (by omega) rfl (by omega)
