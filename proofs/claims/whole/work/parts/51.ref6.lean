set_option maxRecDepth 100000 in
set_option maxHeartbeats 4000000 in
theorem ctX6_hiders (l : Launch) (Ω : Om) (σ : Sg) (v : SpV) (hz : isZ (σ 370) v) (hh : ∀ k, k < vN v → σ 375 k = HV v k) (a : Nat) (ha : a < 16) : CtW l yX6_hiders wsX6_hiders (rmD 1) Ω [.ref (ad Ω 369), .int (nI a)] σ (roI (cntI (fun j => hasB (HV v j) a) (vN v)) σ) := by
  refine ct_intro [some (.ref (ad Ω 369)), some (.int (nI a)), none, none] (by decide) rfl rfl (Nat.le_of_ble_eq_true rfl) (fun Γ hL hQ => ?_)
  show AtW mX6_hiders Γ Ω σ 0 [some (.ref (ad Ω 369)), some (.int (nI a)), none, none] []
  have hn := hz.1
  have hz0 := hz.2.1
  refine r_iconst 0 dX6_hiders_0 (by decide) ?_
  refine r_istore_n dX6_hiders_1 (by decide) rfl ?_
  refine r_iconst 0 dX6_hiders_2 (by decide) ?_
  refine r_istore_n dX6_hiders_3 (by decide) rfl ?_
  have L1 : ∀ (N : Nat) (k : Nat) (x : Int32), k ≤ vN v → x = cntI (fun j => hasB (HV v j) a) k → vN v < k + N → AtW mX6_hiders Γ Ω σ 4 [some (.ref (ad Ω 369)), some (.int (nI a)), some (.int x), some (.int (nI k))] [] := by
    intro N
    induction N with
    | zero =>
      intro k x hk hx hN
      exact absurd hN (by omega)
    | succ N ih =>
      intro k x hk hx hN
      refine r_iload_n dX6_hiders_4 rfl ?_
      refine r_aload_n dX6_hiders_5 rfl ?_
      refine fX6_0 jX6_hiders_X6 lX6_hiders_7 dX6_hiders_6 ?_
      refine r_iconst 0 dX6_hiders_9 (by decide) ?_
      refine ldM370 0 rfl (by omega) dX6_hiders_10 ?_
      rw [hz0]
      refine r_icmp_ge 41 dX6_hiders_11 (by decide) (fun c11 => ?_) (fun c11 => ?_)
      ·
        replace c11 := Int32.not_lt.mpr c11
        have n11 := Nat.not_lt.mp (fun q => c11 ((nI_ltI (a := k) (b := vN v) (by omega) (by omega)).mpr q))
        refine r_iload_n dX6_hiders_41 rfl ?_
        have ek : k = vN v := by omega
        subst ek
        exact r_iret hQ rfl dX6_hiders_42 (roI_of hx)
      ·
        replace c11 := Int32.not_le.mp c11
        have n11 := (nI_ltI (a := k) (b := vN v) (by omega) (by omega)).mp c11
        refine r_iload_n dX6_hiders_14 rfl ?_
        refine r_aload_n dX6_hiders_15 rfl ?_
        refine fX6_8 jX6_hiders_X6 lX6_hiders_25 dX6_hiders_16 ?_
        refine r_iload_n dX6_hiders_19 rfl ?_
        refine ldM375 k rfl (by omega) dX6_hiders_20 ?_
        refine r_iload_n dX6_hiders_21 rfl ?_
        refine r_callSI hL (ctX6_has l Ω _ _ a) kX6_hiders_75 rfl rfl (Nat.le_of_ble_eq_true rfl) dX6_hiders_22 ?_
        refine r_if_eq 32 dX6_hiders_25 (by decide) (fun c25 => ?_) (fun c25 => ?_)
        ·
          replace c25 := bI_f c25
          refine r_iconst 0 dX6_hiders_32 (by decide) ?_
          refine r_iadd dX6_hiders_33 ?_
          refine r_istore_n dX6_hiders_34 (by decide) rfl ?_
          refine r_iinc (nI (k + 1)) dX6_hiders_35 rfl (nI_1 k) (by decide) rfl ?_
          refine r_goto 4 dX6_hiders_38 (by decide) ?_
          exact ih (k + 1) _ (by omega) (by rw [hh k (by omega)] at c25; rw [cntI, if_neg (by simp [c25]), hx, Int32.add_zero]) (by omega)
        ·
          replace c25 := bI_t c25
          refine r_iconst 1 dX6_hiders_28 (by decide) ?_
          refine r_goto 33 dX6_hiders_29 (by decide) ?_
          refine r_iadd dX6_hiders_33 ?_
          refine r_istore_n dX6_hiders_34 (by decide) rfl ?_
          refine r_iinc (nI (k + 1)) dX6_hiders_35 rfl (nI_1 k) (by decide) rfl ?_
          refine r_goto 4 dX6_hiders_38 (by decide) ?_
          exact ih (k + 1) _ (by omega) (by rw [hh k (by omega)] at c25; rw [cntI, if_pos c25, hx]) (by omega)
  exact L1 (vN v + 1) 0 _ (by omega) rfl (by omega)

set_option maxRecDepth 100000 in
set_option maxHeartbeats 4000000 in
theorem ctX6_boxesBelow (l : Launch) (Ω : Om) (σ : Sg) (v : SpV) (hz : isZ (σ 370) v) (hl : ltV v) (a : Nat) (ha : a < vN v) (w : Int32) : CtW l yX6_boxesBelow wsX6_boxesBelow (rmD 5) Ω [.ref (ad Ω 369), .int (nI a), .int w] σ (roI (bbV v a w) σ) := by
  refine ct_intro [some (.ref (ad Ω 369)), some (.int (nI a)), some (.int w), none, none] (by decide) rfl rfl (Nat.le_of_ble_eq_true rfl) (fun Γ hL hQ => ?_)
  show AtW mX6_boxesBelow Γ Ω σ 0 [some (.ref (ad Ω 369)), some (.int (nI a)), some (.int w), none, none] []
  have hn := hz.1
  have hz0 := hz.2.1
  refine r_iconst 0 dX6_boxesBelow_0 (by decide) ?_
  refine r_istore_n dX6_boxesBelow_1 (by decide) rfl ?_
  refine r_iconst 0 dX6_boxesBelow_2 (by decide) ?_
  refine r_istore dX6_boxesBelow_3 (by decide) rfl ?_
  have L1 : ∀ (N : Nat) (k : Nat) (x : Int32), k ≤ vN v → x = cntI (fun j => beB (vLo v j) (vHi v j) (vLo v a) (vHi v a) && (decide (w = 0) || decide (vHi v j 2 = vLo v a 2))) k → vN v < k + N → AtW mX6_boxesBelow Γ Ω σ 5 [some (.ref (ad Ω 369)), some (.int (nI a)), some (.int w), some (.int x), some (.int (nI k))] [] := by
    intro N
    induction N with
    | zero =>
      intro k x hk hx hN
      exact absurd hN (by omega)
    | succ N ih =>
      intro k x hk hx hN
      refine r_iload dX6_boxesBelow_5 rfl ?_
      refine r_aload_n dX6_boxesBelow_7 rfl ?_
      refine fX6_0 jX6_boxesBelow_X6 lX6_boxesBelow_7 dX6_boxesBelow_8 ?_
      refine r_iconst 0 dX6_boxesBelow_11 (by decide) ?_
      refine ldM370 0 rfl (by omega) dX6_boxesBelow_12 ?_
      rw [hz0]
      refine r_icmp_ge 60 dX6_boxesBelow_13 (by decide) (fun c13 => ?_) (fun c13 => ?_)
      ·
        replace c13 := Int32.not_lt.mpr c13
        have n13 := Nat.not_lt.mp (fun q => c13 ((nI_ltI (a := k) (b := vN v) (by omega) (by omega)).mpr q))
        refine r_iload_n dX6_boxesBelow_60 rfl ?_
        have ek : k = vN v := by omega
        subst ek
        exact r_iret hQ rfl dX6_boxesBelow_61 (roI_of hx)
      ·
        replace c13 := Int32.not_le.mp c13
        have n13 := (nI_ltI (a := k) (b := vN v) (by omega) (by omega)).mp c13
        refine r_iload_n dX6_boxesBelow_16 rfl ?_
        refine r_aload_n dX6_boxesBelow_17 rfl ?_
        refine r_iload dX6_boxesBelow_18 rfl ?_
        refine r_iload_n dX6_boxesBelow_20 rfl ?_
        refine r_callVI (369) hL (ctX6_isBelow l Ω _ v hz k a (by omega) (by omega) hl) kX6_boxesBelow_134 (by omega) ⟨_, _, _, rfl, rfl, rfl⟩ rfl rfl (Nat.le_of_ble_eq_true rfl) dX6_boxesBelow_21 ?_
        refine r_if_eq 51 dX6_boxesBelow_24 (by decide) (fun c24 => ?_) (fun c24 => ?_)
        ·
          replace c24 := bI_f c24
          refine r_iconst 0 dX6_boxesBelow_51 (by decide) ?_
          refine r_iadd dX6_boxesBelow_52 ?_
          refine r_istore_n dX6_boxesBelow_53 (by decide) rfl ?_
          refine r_iinc (nI (k + 1)) dX6_boxesBelow_54 rfl (nI_1 k) (by decide) rfl ?_
          refine r_goto 5 dX6_boxesBelow_57 (by decide) ?_
          exact ih (k + 1) _ (by omega) (by rw [cntI, if_neg (by simp [c24]), hx, Int32.add_zero]) (by omega)
        ·
          replace c24 := bI_t c24
          refine r_iload_n dX6_boxesBelow_27 rfl ?_
          refine r_if_eq 47 dX6_boxesBelow_28 (by decide) (fun c28 => ?_) (fun c28 => ?_)
          ·
            refine r_iconst 1 dX6_boxesBelow_47 (by decide) ?_
            refine r_goto 52 dX6_boxesBelow_48 (by decide) ?_
            refine r_iadd dX6_boxesBelow_52 ?_
            refine r_istore_n dX6_boxesBelow_53 (by decide) rfl ?_
            refine r_iinc (nI (k + 1)) dX6_boxesBelow_54 rfl (nI_1 k) (by decide) rfl ?_
            refine r_goto 5 dX6_boxesBelow_57 (by decide) ?_
            exact ih (k + 1) _ (by omega) (by rw [cntI, if_pos (by simp [c24, c28]), hx]) (by omega)
          ·
            refine r_aload_n dX6_boxesBelow_31 rfl ?_
            refine r_iload dX6_boxesBelow_32 rfl ?_
            refine r_iconst 2 dX6_boxesBelow_34 (by decide) ?_
            refine r_callVI (369) hL (ctX6_high l Ω _ v hz k (by omega) 2 (by omega)) kX6_boxesBelow_57 (by omega) ⟨_, _, _, rfl, rfl, rfl⟩ rfl rfl (Nat.le_of_ble_eq_true rfl) dX6_boxesBelow_35 ?_
            refine r_aload_n dX6_boxesBelow_38 rfl ?_
            refine r_iload_n dX6_boxesBelow_39 rfl ?_
            refine r_iconst 2 dX6_boxesBelow_40 (by decide) ?_
            refine r_callVI (369) hL (ctX6_low l Ω _ v hz a (by omega) 2 (by omega)) kX6_boxesBelow_47 (by omega) ⟨_, _, _, rfl, rfl, rfl⟩ rfl rfl (Nat.le_of_ble_eq_true rfl) dX6_boxesBelow_41 ?_
            refine r_icmp_ne 51 dX6_boxesBelow_44 (by decide) (fun c44 => ?_) (fun c44 => ?_)
            ·
              refine r_iconst 0 dX6_boxesBelow_51 (by decide) ?_
              refine r_iadd dX6_boxesBelow_52 ?_
              refine r_istore_n dX6_boxesBelow_53 (by decide) rfl ?_
              refine r_iinc (nI (k + 1)) dX6_boxesBelow_54 rfl (nI_1 k) (by decide) rfl ?_
              refine r_goto 5 dX6_boxesBelow_57 (by decide) ?_
              exact ih (k + 1) _ (by omega) (by rw [cntI, if_neg (by simp [c28, c44]), hx, Int32.add_zero]) (by omega)
            ·
              refine r_iconst 1 dX6_boxesBelow_47 (by decide) ?_
              refine r_goto 52 dX6_boxesBelow_48 (by decide) ?_
              refine r_iadd dX6_boxesBelow_52 ?_
              refine r_istore_n dX6_boxesBelow_53 (by decide) rfl ?_
              refine r_iinc (nI (k + 1)) dX6_boxesBelow_54 rfl (nI_1 k) (by decide) rfl ?_
              refine r_goto 5 dX6_boxesBelow_57 (by decide) ?_
              exact ih (k + 1) _ (by omega) (by rw [cntI, if_pos (by simp [c24, c44]), hx]) (by omega)
  exact L1 (vN v + 1) 0 _ (by omega) rfl (by omega)

set_option maxRecDepth 100000 in
set_option maxHeartbeats 4000000 in
theorem ctX6_covers (l : Launch) (Ω : Om) (σ : Sg) (v : SpV) (hz : isZ (σ 370) v) (k : Nat) (hk : k < vN v) (x y : Int32) : CtW l yX6_covers wsX6_covers (rmD 3) Ω [.ref (ad Ω 369), .int (nI k), .int x, .int y] σ (roI (bI (cvX v k x y)) σ) := by
  refine ct_intro [some (.ref (ad Ω 369)), some (.int (nI k)), some (.int x), some (.int y)] (by decide) rfl rfl (Nat.le_of_ble_eq_true rfl) (fun Γ hL hQ => ?_)
  show AtW mX6_covers Γ Ω σ 0 [some (.ref (ad Ω 369)), some (.int (nI k)), some (.int x), some (.int y)] []
  have hn := hz.1
  have hz0 := hz.2.1
  refine r_iload_n dX6_covers_0 rfl ?_
  refine r_i2l dX6_covers_1 ?_
  refine r_aload_n dX6_covers_2 rfl ?_
  refine r_iload_n dX6_covers_3 rfl ?_
  refine r_iconst 0 dX6_covers_4 (by decide) ?_
  refine r_callVI (369) hL (ctX6_low l Ω _ v hz k (by omega) 0 (by omega)) kX6_covers_47 (by omega) ⟨_, _, _, rfl, rfl, rfl⟩ rfl rfl (Nat.le_of_ble_eq_true rfl) dX6_covers_5 ?_
  refine r_aload_n dX6_covers_8 rfl ?_
  refine r_iload_n dX6_covers_9 rfl ?_
  refine r_iconst 0 dX6_covers_10 (by decide) ?_
  refine r_callVI (369) hL (ctX6_high l Ω _ v hz k (by omega) 0 (by omega)) kX6_covers_57 (by omega) ⟨_, _, _, rfl, rfl, rfl⟩ rfl rfl (Nat.le_of_ble_eq_true rfl) dX6_covers_11 ?_
  refine r_iconst 1 dX6_covers_14 (by decide) ?_
  refine r_isub dX6_covers_15 ?_
  refine r_callSI hL (ctX6_in l Ω _ _ _ _) kX6_covers_53 rfl rfl (Nat.le_of_ble_eq_true rfl) dX6_covers_16 ?_
  refine r_if_eq 48 dX6_covers_19 (by decide) (fun c19 => ?_) (fun c19 => ?_)
  ·
    replace c19 := bI_f c19
    rw [inL_W] at c19
    refine r_iconst 0 dX6_covers_48 (by decide) ?_
    exact r_zret hQ rfl ((by decide)) dX6_covers_49 (roI_of (by rw [cvX, c19]; rfl))
  ·
    replace c19 := bI_t c19
    rw [inL_W] at c19
    refine r_iload_n dX6_covers_22 rfl ?_
    refine r_i2l dX6_covers_23 ?_
    refine r_aload_n dX6_covers_24 rfl ?_
    refine r_iload_n dX6_covers_25 rfl ?_
    refine r_iconst 1 dX6_covers_26 (by decide) ?_
    refine r_callVI (369) hL (ctX6_low l Ω _ v hz k (by omega) 1 (by omega)) kX6_covers_47 (by omega) ⟨_, _, _, rfl, rfl, rfl⟩ rfl rfl (Nat.le_of_ble_eq_true rfl) dX6_covers_27 ?_
    refine r_aload_n dX6_covers_30 rfl ?_
    refine r_iload_n dX6_covers_31 rfl ?_
    refine r_iconst 1 dX6_covers_32 (by decide) ?_
    refine r_callVI (369) hL (ctX6_high l Ω _ v hz k (by omega) 1 (by omega)) kX6_covers_57 (by omega) ⟨_, _, _, rfl, rfl, rfl⟩ rfl rfl (Nat.le_of_ble_eq_true rfl) dX6_covers_33 ?_
    refine r_iconst 1 dX6_covers_36 (by decide) ?_
    refine r_isub dX6_covers_37 ?_
    refine r_callSI hL (ctX6_in l Ω _ _ _ _) kX6_covers_53 rfl rfl (Nat.le_of_ble_eq_true rfl) dX6_covers_38 ?_
    refine r_if_eq 48 dX6_covers_41 (by decide) (fun c41 => ?_) (fun c41 => ?_)
    ·
      replace c41 := bI_f c41
      rw [inL_W] at c41
      refine r_iconst 0 dX6_covers_48 (by decide) ?_
      exact r_zret hQ rfl ((by decide)) dX6_covers_49 (roI_of (by rw [cvX, c41, Bool.and_false]; rfl))
    ·
      replace c41 := bI_t c41
      rw [inL_W] at c41
      refine r_iconst 1 dX6_covers_44 (by decide) ?_
      refine r_goto 49 dX6_covers_45 (by decide) ?_
      exact r_zret hQ rfl ((by decide)) dX6_covers_49 (roI_of (by rw [cvX, c19, c41]; rfl))

set_option maxRecDepth 100000 in
set_option maxHeartbeats 4000000 in
theorem ctX6_shadows (l : Launch) (Ω : Om) (σ : Sg) (v : SpV) (hz : isZ (σ 370) v) (k : Nat) (hk : k < vN v) (hg : gdV v) : CtW l yX6_shadows wsX6_shadows (rmD 5) Ω [.ref (ad Ω 369), .int (nI k)] σ (roI (shX v k) σ) := by
  refine ct_intro [some (.ref (ad Ω 369)), some (.int (nI k)), none, none, none, none, none] (by decide) rfl rfl (Nat.le_of_ble_eq_true rfl) (fun Γ hL hQ => ?_)
  show AtW mX6_shadows Γ Ω σ 0 [some (.ref (ad Ω 369)), some (.int (nI k)), none, none, none, none, none] []
  have hn := hz.1
  have hz0 := hz.2.1
  have hl := gd_lt hg
  obtain ⟨a0, b0, e1, e2, u1, u2, _⟩ := hg.2.2.1 k hk 0 (by omega)
  obtain ⟨a1, b1, e3, e4, u3, u4, _⟩ := hg.2.2.1 k hk 1 (by omega)
  refine r_iconst 0 dX6_shadows_0 (by decide) ?_
  refine r_istore_n dX6_shadows_1 (by decide) rfl ?_
  refine r_aload_n dX6_shadows_2 rfl ?_
  refine r_iload_n dX6_shadows_3 rfl ?_
  refine r_iconst 0 dX6_shadows_4 (by decide) ?_
  refine r_callVI (369) hL (ctX6_low l Ω _ v hz k (by omega) 0 (by omega)) kX6_shadows_47 (by omega) ⟨_, _, _, rfl, rfl, rfl⟩ rfl rfl (Nat.le_of_ble_eq_true rfl) dX6_shadows_5 ?_
  rw [e1]
  show AtW _ _ _ _ _ _ (.int (nI (a0 + 0)) :: _)
  refine r_istore_n dX6_shadows_8 (by decide) rfl ?_
  have L1 : ∀ (N : Nat) (i : Nat) (x : Int32) (v4 v5 v6 : Option Value), i ≤ b0 - a0 → x = shT v k a0 a1 (b1 - a1) i → b0 - a0 < i + N → AtW mX6_shadows Γ Ω σ 9 [some (.ref (ad Ω 369)), some (.int (nI k)), some (.int x), some (.int (nI (a0 + i))), v4, v5, v6] [] := by
    intro N
    induction N with
    | zero =>
      intro i x v4 v5 v6 hi hx hN
      exact absurd hN (by omega)
    | succ N ih =>
      intro i x v4 v5 v6 hi hx hN
      have ihA := ih
      refine r_iload_n dX6_shadows_9 rfl ?_
      refine r_aload_n dX6_shadows_10 rfl ?_
      refine r_iload_n dX6_shadows_11 rfl ?_
      refine r_iconst 0 dX6_shadows_12 (by decide) ?_
      refine r_callVI (369) hL (ctX6_high l Ω _ v hz k (by omega) 0 (by omega)) kX6_shadows_57 (by omega) ⟨_, _, _, rfl, rfl, rfl⟩ rfl rfl (Nat.le_of_ble_eq_true rfl) dX6_shadows_13 ?_
      rw [e2]
      refine r_icmp_ge 120 dX6_shadows_16 (by decide) (fun c16 => ?_) (fun c16 => ?_)
      ·
        replace c16 := Int32.not_lt.mpr c16
        have n16 := Nat.not_lt.mp (fun q => c16 ((nI_ltI (a := a0 + i) (b := b0) (by omega) (by omega)).mpr q))
        refine r_iload_n dX6_shadows_120 rfl ?_
        have ei : i = b0 - a0 := by omega
        subst ei
        exact r_iret hQ rfl dX6_shadows_121 (roI_of (by rw [shX_at e1 e2 e3 e4 (by omega) (by omega) (by omega) (by omega)]; exact hx))
      ·
        replace c16 := Int32.not_le.mp c16
        have n16 := (nI_ltI (a := a0 + i) (b := b0) (by omega) (by omega)).mp c16
        refine r_aload_n dX6_shadows_19 rfl ?_
        refine r_iload_n dX6_shadows_20 rfl ?_
        refine r_iconst 1 dX6_shadows_21 (by decide) ?_
        refine r_callVI (369) hL (ctX6_low l Ω _ v hz k (by omega) 1 (by omega)) kX6_shadows_47 (by omega) ⟨_, _, _, rfl, rfl, rfl⟩ rfl rfl (Nat.le_of_ble_eq_true rfl) dX6_shadows_22 ?_
        rw [e3]
        show AtW _ _ _ _ _ _ (.int (nI (a1 + 0)) :: _)
        refine r_istore dX6_shadows_25 (by decide) rfl ?_
        have L2 : ∀ (N : Nat) (m : Nat) (x : Int32) (v5 v6 : Option Value), m ≤ b1 - a1 → x = shT v k a0 a1 (b1 - a1) i + shY v k a1 (a0 + i) m → b1 - a1 < m + N → AtW mX6_shadows Γ Ω σ 27 [some (.ref (ad Ω 369)), some (.int (nI k)), some (.int x), some (.int (nI (a0 + i))), some (.int (nI (a1 + m))), v5, v6] [] := by
          intro N
          induction N with
          | zero =>
            intro m x v5 v6 hm hx hN
            exact absurd hN (by omega)
          | succ N ih =>
            intro m x v5 v6 hm hx hN
            have ihB := ih
            refine r_iload dX6_shadows_27 rfl ?_
            refine r_aload_n dX6_shadows_29 rfl ?_
            refine r_iload_n dX6_shadows_30 rfl ?_
            refine r_iconst 1 dX6_shadows_31 (by decide) ?_
            refine r_callVI (369) hL (ctX6_high l Ω _ v hz k (by omega) 1 (by omega)) kX6_shadows_57 (by omega) ⟨_, _, _, rfl, rfl, rfl⟩ rfl rfl (Nat.le_of_ble_eq_true rfl) dX6_shadows_32 ?_
            rw [e4]
            refine r_icmp_ge 114 dX6_shadows_35 (by decide) (fun c35 => ?_) (fun c35 => ?_)
            ·
              replace c35 := Int32.not_lt.mpr c35
              have n35 := Nat.not_lt.mp (fun q => c35 ((nI_ltI (a := a1 + m) (b := b1) (by omega) (by omega)).mpr q))
              have em : m = b1 - a1 := by omega
              subst em
              refine r_iinc (nI (a0 + i + 1)) dX6_shadows_114 rfl (nI_1 (a0 + i)) (by decide) rfl ?_
              refine r_goto 9 dX6_shadows_117 (by decide) ?_
              exact ihA (i + 1) _ _ _ _ (by omega) hx (by omega)
            ·
              replace c35 := Int32.not_le.mp c35
              have n35 := (nI_ltI (a := a1 + m) (b := b1) (by omega) (by omega)).mp c35
              refine r_iconst 0 dX6_shadows_38 (by decide) ?_
              refine r_istore dX6_shadows_39 (by decide) rfl ?_
              refine r_iconst 0 dX6_shadows_41 (by decide) ?_
              refine r_istore dX6_shadows_42 (by decide) rfl ?_
              have L3 : ∀ (N : Nat) (j : Nat) (x5 : Int32), j ≤ vN v → x5 = bI (anyb (fun j => beB (vLo v k) (vHi v k) (vLo v j) (vHi v j) && cvX v j (nI (a0 + i)) (nI (a1 + m))) j) → vN v < j + N → AtW mX6_shadows Γ Ω σ 44 [some (.ref (ad Ω 369)), some (.int (nI k)), some (.int x), some (.int (nI (a0 + i))), some (.int (nI (a1 + m))), some (.int x5), some (.int (nI j))] [] := by
                intro N
                induction N with
                | zero =>
                  intro j x5 hj hx5 hN
                  exact absurd hN (by omega)
                | succ N ih =>
                  intro j x5 hj hx5 hN
                  refine r_iload dX6_shadows_44 rfl ?_
                  refine r_aload_n dX6_shadows_46 rfl ?_
                  refine fX6_0 jX6_shadows_X6 lX6_shadows_7 dX6_shadows_47 ?_
                  refine r_iconst 0 dX6_shadows_50 (by decide) ?_
                  refine ldM370 0 rfl (by omega) dX6_shadows_51 ?_
                  rw [hz0]
                  refine r_icmp_ge 95 dX6_shadows_52 (by decide) (fun c52 => ?_) (fun c52 => ?_)
                  ·
                    replace c52 := Int32.not_lt.mpr c52
                    have n52 := Nat.not_lt.mp (fun q => c52 ((nI_ltI (a := j) (b := vN v) (by omega) (by omega)).mpr q))
                    have ej : j = vN v := by omega
                    subst ej
                    refine r_iload_n dX6_shadows_95 rfl ?_
                    refine r_iload dX6_shadows_96 rfl ?_
                    refine r_if_eq 105 dX6_shadows_98 (by decide) (fun c98 => ?_) (fun c98 => ?_)
                    ·
                      refine r_iconst 0 dX6_shadows_105 (by decide) ?_
                      refine r_iadd dX6_shadows_106 ?_
                      refine r_istore_n dX6_shadows_107 (by decide) rfl ?_
                      refine r_iinc (nI (a1 + m + 1)) dX6_shadows_108 rfl (nI_1 (a1 + m)) (by decide) rfl ?_
                      refine r_goto 27 dX6_shadows_111 (by decide) ?_
                      exact ihB (m + 1) _ _ _ (by omega) (by rw [hx, shF_f hx5 c98, Int32.add_assoc]; rfl) (by omega)
                    ·
                      refine r_iconst 1 dX6_shadows_101 (by decide) ?_
                      refine r_goto 106 dX6_shadows_102 (by decide) ?_
                      refine r_iadd dX6_shadows_106 ?_
                      refine r_istore_n dX6_shadows_107 (by decide) rfl ?_
                      refine r_iinc (nI (a1 + m + 1)) dX6_shadows_108 rfl (nI_1 (a1 + m)) (by decide) rfl ?_
                      refine r_goto 27 dX6_shadows_111 (by decide) ?_
                      exact ihB (m + 1) _ _ _ (by omega) (by rw [hx, shF_t hx5 c98, Int32.add_assoc]; rfl) (by omega)
                  ·
                    replace c52 := Int32.not_le.mp c52
                    have n52 := (nI_ltI (a := j) (b := vN v) (by omega) (by omega)).mp c52
                    refine r_iload dX6_shadows_55 rfl ?_
                    refine r_if_ne 82 dX6_shadows_57 (by decide) (fun c57 => ?_) (fun c57 => ?_)
                    ·
                      rw [hx5] at c57
                      replace c57 := bI_t c57
                      refine r_iconst 1 dX6_shadows_82 (by decide) ?_
                      refine r_goto 87 dX6_shadows_83 (by decide) ?_
                      refine r_istore dX6_shadows_87 (by decide) rfl ?_
                      refine r_iinc (nI (j + 1)) dX6_shadows_89 rfl (nI_1 j) (by decide) rfl ?_
                      refine r_goto 44 dX6_shadows_92 (by decide) ?_
                      exact ih (j + 1) _ (by omega) (by rw [anyb, c57]; rfl) (by omega)
                    ·
                      rw [hx5] at c57
                      replace c57 := bI_f c57
                      refine r_aload_n dX6_shadows_60 rfl ?_
                      refine r_iload_n dX6_shadows_61 rfl ?_
                      refine r_iload dX6_shadows_62 rfl ?_
                      refine r_callVI (369) hL (ctX6_isBelow l Ω _ v hz k j (by omega) (by omega) hl) kX6_shadows_134 (by omega) ⟨_, _, _, rfl, rfl, rfl⟩ rfl rfl (Nat.le_of_ble_eq_true rfl) dX6_shadows_64 ?_
                      refine r_if_eq 86 dX6_shadows_67 (by decide) (fun c67 => ?_) (fun c67 => ?_)
                      ·
                        replace c67 := bI_f c67
                        refine r_iconst 0 dX6_shadows_86 (by decide) ?_
                        refine r_istore dX6_shadows_87 (by decide) rfl ?_
                        refine r_iinc (nI (j + 1)) dX6_shadows_89 rfl (nI_1 j) (by decide) rfl ?_
                        refine r_goto 44 dX6_shadows_92 (by decide) ?_
                        exact ih (j + 1) _ (by omega) (by rw [anyb, c57, c67]; rfl) (by omega)
                      ·
                        replace c67 := bI_t c67
                        refine r_aload_n dX6_shadows_70 rfl ?_
                        refine r_iload dX6_shadows_71 rfl ?_
                        refine r_iload_n dX6_shadows_73 rfl ?_
                        refine r_iload dX6_shadows_74 rfl ?_
                        refine r_callVI (369) hL (ctX6_covers l Ω _ v hz j (by omega) _ _) kX6_shadows_190 (by omega) ⟨_, _, _, rfl, rfl, rfl⟩ rfl rfl (Nat.le_of_ble_eq_true rfl) dX6_shadows_76 ?_
                        refine r_if_eq 86 dX6_shadows_79 (by decide) (fun c79 => ?_) (fun c79 => ?_)
                        ·
                          replace c79 := bI_f c79
                          refine r_iconst 0 dX6_shadows_86 (by decide) ?_
                          refine r_istore dX6_shadows_87 (by decide) rfl ?_
                          refine r_iinc (nI (j + 1)) dX6_shadows_89 rfl (nI_1 j) (by decide) rfl ?_
                          refine r_goto 44 dX6_shadows_92 (by decide) ?_
                          exact ih (j + 1) _ (by omega) (by rw [anyb, c57, c79, Bool.and_false]; rfl) (by omega)
                        ·
                          replace c79 := bI_t c79
                          refine r_iconst 1 dX6_shadows_82 (by decide) ?_
                          refine r_goto 87 dX6_shadows_83 (by decide) ?_
                          refine r_istore dX6_shadows_87 (by decide) rfl ?_
                          refine r_iinc (nI (j + 1)) dX6_shadows_89 rfl (nI_1 j) (by decide) rfl ?_
                          refine r_goto 44 dX6_shadows_92 (by decide) ?_
                          exact ih (j + 1) _ (by omega) (by rw [anyb, c57, c67, c79]; rfl) (by omega)
              exact L3 (vN v + 1) 0 _ (by omega) rfl (by omega)
        exact L2 (b1 - a1 + 1) 0 _ _ _ (by omega) (by rw [hx, show shY v k a1 (a0 + i) 0 = 0 from rfl, Int32.add_zero]) (by omega)
  exact L1 (b0 - a0 + 1) 0 _ _ _ _ (by omega) rfl (by omega)

set_option maxRecDepth 100000 in
set_option maxHeartbeats 4000000 in
theorem ctX6_ofBox (l : Launch) (Ω : Om) (σ : Sg) (S : StV) (h : isMd σ S) (hg : gdV (qC S)) (p1 : peOn (qC S)) (p2 : peLy (qC S)) (p3 : peSr (qC S)) (p4 : peSh (qC S)) (y w : Int32) : CtW l yX6_ofBox wsX6_ofBox (rmD 7) Ω [.ref (ad Ω 369), .int y, .int w] σ (reJ (fun r σ1 => okMd σ (oOf S y w) r σ1)) := by
  refine ct_intro [some (.ref (ad Ω 369)), some (.int y), some (.int w), none] (by decide) rfl rfl (Nat.le_of_ble_eq_true rfl) (fun Γ hL hQ => ?_)
  show AtW mX6_ofBox Γ Ω σ 0 [some (.ref (ad Ω 369)), some (.int y), some (.int w), none] []
  have hz := h.1
  have hn := h.1.1
  have hz0 := h.1.2.1
  have hu := hg.1
  have hru := hg.2.1
  have hl := gd_lt hg
  refine r_aload_n dX6_ofBox_0 rfl ?_
  refine r_iload_n dX6_ofBox_1 rfl ?_
  refine r_callVI (369) hL (ctX6_rankOf l Ω _ (qC S) hz hu _) kX6_ofBox_125 (by omega) ⟨_, _, _, rfl, rfl, rfl⟩ rfl rfl (Nat.le_of_ble_eq_true rfl) dX6_ofBox_2 ?_
  refine r_istore_n dX6_ofBox_5 (by decide) rfl ?_
  refine r_iload_n dX6_ofBox_6 rfl ?_
  refine r_if_ge 12 dX6_ofBox_7 (by decide) (fun c7 => ?_) (fun c7 => ?_)
  ·
    replace c7 := Int32.not_lt.mpr c7
    obtain ⟨k, hk, ek, e0⟩ := loc_some (fun q => c7 (by rw [q]; decide))
    rw [e0]
    refine r_aload_n dX6_ofBox_12 rfl ?_
    refine r_callVV (369) hL (ctX6_findHiding l Ω _ (qC S) hz) kX6_ofBox_141 (by omega) ⟨_, _, _, rfl, rfl, rfl⟩ rfl rfl (Nat.le_of_ble_eq_true rfl) dX6_ofBox_13 ?_
    intro σ1 hσ1
    have hz1 : isZ (σ1 370) (qC S) := by rw [hσ1.2 370 (by omega) (by omega)]; exact hz
    have hh1 : ∀ k, k < vN (qC S) → σ1 375 k = HV (qC S) k := fun k hk => (hσ1.1 k hk).1
    have hc1 : ∀ k, k < vN (qC S) → σ1 376 k = CVv (qC S) k := fun k hk => (hσ1.1 k hk).2
    have k1 := fhF_kr hσ1.2
    refine r_aload_n dX6_ofBox_16 rfl ?_
    refine r_callVV (369) hL (ctX6_findLayers l Ω _ (qC S) hz1 hh1 hc1) kX6_ofBox_193 (by omega) ⟨_, _, _, rfl, rfl, rfl⟩ rfl rfl (Nat.le_of_ble_eq_true rfl) dX6_ofBox_17 ?_
    intro σ2 hσ2
    have hz2 : isZ (σ2 370) (qC S) := by rw [hσ2.2 370 (by omega)]; exact hz1
    have hh2 : ∀ k, k < vN (qC S) → σ2 375 k = HV (qC S) k := fun k hk => by rw [hσ2.2 375 (by omega)]; exact hh1 k hk
    have hc2 : ∀ k, k < vN (qC S) → σ2 376 k = CVv (qC S) k := fun k hk => by rw [hσ2.2 376 (by omega)]; exact hc1 k hk
    have k2 := keepRf_tr k1 (lyI_kr hσ2)
    have hl2 := hσ2.1
    refine r_iload_n dX6_ofBox_20 rfl ?_
    by_cases w0 : w = 0
    ·
      subst w0
      refine r_tableIn 51 72 dX6_ofBox_21 (by decide) (by decide) (by decide) (by decide) ?_
      refine r_aload_n dX6_ofBox_72 rfl ?_
      refine r_iload_n dX6_ofBox_73 rfl ?_
      refine r_callVI (369) hL (ctX6_volume l Ω _ (qC S) hz2 k (by omega)) kX6_ofBox_93 (by omega) ⟨_, _, _, rfl, rfl, rfl⟩ rfl rfl (Nat.le_of_ble_eq_true rfl) dX6_ofBox_74 ?_
      exact r_iret hQ rfl dX6_ofBox_77 (reJ_of (by rw [oOf, ek]; exact okMd_ro h k2 ((ofA_0 _ _).symm)))
    by_cases w1 : w = 1
    ·
      subst w1
      refine r_tableIn 57 78 dX6_ofBox_21 (by decide) (by decide) (by decide) (by decide) ?_
      refine r_aload_n dX6_ofBox_78 rfl ?_
      refine fX6_8 jX6_ofBox_X6 lX6_ofBox_25 dX6_ofBox_79 ?_
      refine r_iload_n dX6_ofBox_82 rfl ?_
      refine ldM375 k rfl (by omega) dX6_ofBox_83 ?_
      rw [hh2 k hk]
      refine r_callSI hL (ctX6_ones l Ω _ _) kX6_ofBox_156 rfl rfl (Nat.le_of_ble_eq_true rfl) dX6_ofBox_84 ?_
      exact r_iret hQ rfl dX6_ofBox_87 (reJ_of (by rw [oOf, ek]; exact okMd_ro h k2 ((p1 k hk).trans (ofA_1 _ _).symm)))
    by_cases w2 : w = 2
    ·
      subst w2
      refine r_tableIn 67 88 dX6_ofBox_21 (by decide) (by decide) (by decide) (by decide) ?_
      refine r_aload_n dX6_ofBox_88 rfl ?_
      refine r_iload_n dX6_ofBox_89 rfl ?_
      refine r_callVI (369) hL (ctX6_hiders l Ω _ (qC S) hz2 hh2 k (by omega)) kX6_ofBox_196 (by omega) ⟨_, _, _, rfl, rfl, rfl⟩ rfl rfl (Nat.le_of_ble_eq_true rfl) dX6_ofBox_90 ?_
      exact r_iret hQ rfl dX6_ofBox_93 (reJ_of (by rw [oOf, ek]; exact okMd_ro h k2 ((ofA_2 _ _).symm)))
    by_cases w3 : w = 3
    ·
      subst w3
      refine r_tableIn 73 94 dX6_ofBox_21 (by decide) (by decide) (by decide) (by decide) ?_
      refine r_aload_n dX6_ofBox_94 rfl ?_
      refine fX6_10 jX6_ofBox_X6 lX6_ofBox_31 dX6_ofBox_95 ?_
      refine r_iload_n dX6_ofBox_98 rfl ?_
      refine ldM377 k rfl (by omega) dX6_ofBox_99 ?_
      rw [hl2 k hk]
      exact r_iret hQ rfl dX6_ofBox_100 (reJ_of (by rw [oOf, ek]; exact okMd_ro h k2 ((p2 k hk).trans (ofA_3 _ _).symm)))
    by_cases w4 : w = 4
    ·
      subst w4
      refine r_tableIn 80 101 dX6_ofBox_21 (by decide) (by decide) (by decide) (by decide) ?_
      refine r_aload_n dX6_ofBox_101 rfl ?_
      refine r_iload_n dX6_ofBox_102 rfl ?_
      refine r_callVI (369) hL (ctX6_isInRing l Ω _ k (by omega)) kX6_ofBox_78 (by omega) ⟨_, _, _, rfl, rfl, rfl⟩ rfl rfl (Nat.le_of_ble_eq_true rfl) dX6_ofBox_103 ?_
      refine r_if_eq 117 dX6_ofBox_106 (by decide) (fun c106 => ?_) (fun c106 => ?_)
      ·
        replace c106 := bI_f c106
        rw [hc2 k hk] at c106
        refine r_bipush (-5) dX6_ofBox_117 (by decide) ?_
        exact r_iret hQ rfl dX6_ofBox_119 (reJ_of (by rw [oOf, ek]; exact okMd_ro h k2 (((p3 k hk).2 c106).symm.trans (ofA_4 _ _).symm)))
      ·
        replace c106 := bI_t c106
        rw [hc2 k hk] at c106
        refine r_aload_n dX6_ofBox_109 rfl ?_
        refine r_iload_n dX6_ofBox_110 rfl ?_
        refine r_callVI (369) hL (ctX6_shortestRing l Ω _ (qC S) hz2 hh2 k (by omega) ((p3 k hk).1 c106).1) kX6_ofBox_86 (by omega) ⟨_, _, _, rfl, rfl, rfl⟩ rfl rfl (Nat.le_of_ble_eq_true rfl) dX6_ofBox_111 ?_
        refine r_goto 119 dX6_ofBox_114 (by decide) ?_
        exact r_iret hQ rfl dX6_ofBox_119 (reJ_of (by rw [oOf, ek]; exact okMd_ro h k2 (((p3 k hk).1 c106).2.symm.trans (ofA_4 _ _).symm)))
    by_cases w5 : w = 5
    ·
      subst w5
      refine r_tableIn 99 120 dX6_ofBox_21 (by decide) (by decide) (by decide) (by decide) ?_
      refine r_aload_n dX6_ofBox_120 rfl ?_
      refine r_iload_n dX6_ofBox_121 rfl ?_
      refine r_iconst 1 dX6_ofBox_122 (by decide) ?_
      refine r_callVI (369) hL (ctX6_boxesBelow l Ω _ (qC S) hz2 hl k (by omega) _) kX6_ofBox_199 (by omega) ⟨_, _, _, rfl, rfl, rfl⟩ rfl rfl (Nat.le_of_ble_eq_true rfl) dX6_ofBox_123 ?_
      exact r_iret hQ rfl dX6_ofBox_126 (reJ_of (by rw [oOf, ek]; exact okMd_ro h k2 ((bb_sup _ _).trans (ofA_5 _ _).symm)))
    by_cases w6 : w = 6
    ·
      subst w6
      refine r_tableIn 106 127 dX6_ofBox_21 (by decide) (by decide) (by decide) (by decide) ?_
      refine r_aload_n dX6_ofBox_127 rfl ?_
      refine r_iload_n dX6_ofBox_128 rfl ?_
      refine r_iconst 0 dX6_ofBox_129 (by decide) ?_
      refine r_callVI (369) hL (ctX6_boxesBelow l Ω _ (qC S) hz2 hl k (by omega) _) kX6_ofBox_199 (by omega) ⟨_, _, _, rfl, rfl, rfl⟩ rfl rfl (Nat.le_of_ble_eq_true rfl) dX6_ofBox_130 ?_
      exact r_iret hQ rfl dX6_ofBox_133 (reJ_of (by rw [oOf, ek]; exact okMd_ro h k2 ((bb_bel _ _).trans (ofA_6 _ _).symm)))
    by_cases w7 : w = 7
    ·
      subst w7
      refine r_tableIn 113 134 dX6_ofBox_21 (by decide) (by decide) (by decide) (by decide) ?_
      refine r_aload_n dX6_ofBox_134 rfl ?_
      refine r_iload_n dX6_ofBox_135 rfl ?_
      refine r_callVI (369) hL (ctX6_shadows l Ω _ (qC S) hz2 k (by omega) hg) kX6_ofBox_203 (by omega) ⟨_, _, _, rfl, rfl, rfl⟩ rfl rfl (Nat.le_of_ble_eq_true rfl) dX6_ofBox_136 ?_
      exact r_iret hQ rfl dX6_ofBox_139 (reJ_of (by rw [oOf, ek]; exact okMd_ro h k2 ((p4 k hk).trans (ofA_7 _ _).symm)))
    by_cases w8 : w = 8
    ·
      subst w8
      refine r_tableIn 119 140 dX6_ofBox_21 (by decide) (by decide) (by decide) (by decide) ?_
      refine r_aload_n dX6_ofBox_140 rfl ?_
      refine r_iload_n dX6_ofBox_141 rfl ?_
      refine r_iconst 2 dX6_ofBox_142 (by decide) ?_
      refine r_callVI (369) hL (ctX6_low l Ω _ (qC S) hz2 k (by omega) 2 (by omega)) kX6_ofBox_47 (by omega) ⟨_, _, _, rfl, rfl, rfl⟩ rfl rfl (Nat.le_of_ble_eq_true rfl) dX6_ofBox_143 ?_
      refine r_if_eq 158 dX6_ofBox_146 (by decide) (fun c146 => ?_) (fun c146 => ?_)
      ·
        refine r_iconst 1 dX6_ofBox_158 (by decide) ?_
        refine r_goto 163 dX6_ofBox_159 (by decide) ?_
        exact r_iret hQ rfl dX6_ofBox_163 (reJ_of (by rw [oOf, ek]; exact okMd_ro h k2 (((ofA_8 _ _).trans (if_pos c146)).symm)))
      ·
        refine r_aload_n dX6_ofBox_149 rfl ?_
        refine r_iload_n dX6_ofBox_150 rfl ?_
        refine r_iconst 1 dX6_ofBox_151 (by decide) ?_
        refine r_callVI (369) hL (ctX6_boxesBelow l Ω _ (qC S) hz2 hl k (by omega) _) kX6_ofBox_199 (by omega) ⟨_, _, _, rfl, rfl, rfl⟩ rfl rfl (Nat.le_of_ble_eq_true rfl) dX6_ofBox_152 ?_
        rw [bb_sup]
        refine r_if_le 162 dX6_ofBox_155 (by decide) (fun c155 => ?_) (fun c155 => ?_)
        ·
          replace c155 := Int32.not_lt.mpr c155
          refine r_iconst 0 dX6_ofBox_162 (by decide) ?_
          exact r_iret hQ rfl dX6_ofBox_163 (reJ_of (by rw [oOf, ek]; exact okMd_ro h k2 (((ofA_8 _ _).trans ((if_neg c146).trans (if_neg c155))).symm)))
        ·
          replace c155 := Int32.not_le.mp c155
          refine r_iconst 1 dX6_ofBox_158 (by decide) ?_
          refine r_goto 163 dX6_ofBox_159 (by decide) ?_
          exact r_iret hQ rfl dX6_ofBox_163 (reJ_of (by rw [oOf, ek]; exact okMd_ro h k2 (((ofA_8 _ _).trans ((if_neg c146).trans (if_pos c155))).symm)))
    have hw : ∀ j, j ≤ 8 → ¬ w = nI j := by
      intro j hj
      rcases (show j = 0 ∨ j = 1 ∨ j = 2 ∨ j = 3 ∨ j = 4 ∨ j = 5 ∨ j = 6 ∨ j = 7 ∨ j = 8 by omega) with rfl | rfl | rfl | rfl | rfl | rfl | rfl | rfl | rfl
      · exact w0
      · exact w1
      · exact w2
      · exact w3
      · exact w4
      · exact w5
      · exact w6
      · exact w7
      · exact w8
    refine r_tableOut 164 dX6_ofBox_21 (by simpa using sw_out (m := 8) (by omega) hw) (by decide) ?_
    refine r_bipush (-2) dX6_ofBox_164 (by decide) ?_
    exact r_iret hQ rfl dX6_ofBox_166 (reJ_of (by rw [oOf, ek]; exact okMd_ro h k2 ((ofA_d hw).symm)))
  ·
    replace c7 := Int32.not_le.mp c7
    refine r_iconst (-1) dX6_ofBox_10 (by decide) ?_
    exact r_iret hQ rfl dX6_ofBox_11 (reJ_of (okMd_of (by rw [oOf, loc_none hn (fI_neg hn c7)]) h (keepLw_rfl σ)))

set_option maxRecDepth 100000 in
set_option maxHeartbeats 4000000 in
theorem ctX6_pair (l : Launch) (Ω : Om) (σ : Sg) (S : StV) (h : isMd σ S) (hg : gdV (qC S)) (p1 : pePr (qC S)) (x y : Int32) : CtW l yX6_pair wsX6_pair (rmD 6) Ω [.ref (ad Ω 369), .int x, .int y] σ (reJ (fun r σ1 => okMd σ (oPair S x y) r σ1)) := by
  refine ct_intro [some (.ref (ad Ω 369)), some (.int x), some (.int y), none, none, none] (by decide) rfl rfl (Nat.le_of_ble_eq_true rfl) (fun Γ hL hQ => ?_)
  show AtW mX6_pair Γ Ω σ 0 [some (.ref (ad Ω 369)), some (.int x), some (.int y), none, none, none] []
  have hz := h.1
  have hn := h.1.1
  have hz0 := h.1.2.1
  have hu := hg.1
  have hru := hg.2.1
  have hl := gd_lt hg
  refine r_aload_n dX6_pair_0 rfl ?_
  refine r_iload_n dX6_pair_1 rfl ?_
  refine r_callVI (369) hL (ctX6_rankOf l Ω _ (qC S) hz hu _) kX6_pair_125 (by omega) ⟨_, _, _, rfl, rfl, rfl⟩ rfl rfl (Nat.le_of_ble_eq_true rfl) dX6_pair_2 ?_
  refine r_istore_n dX6_pair_5 (by decide) rfl ?_
  refine r_aload_n dX6_pair_6 rfl ?_
  refine r_iload_n dX6_pair_7 rfl ?_
  refine r_callVI (369) hL (ctX6_rankOf l Ω _ (qC S) hz hu _) kX6_pair_125 (by omega) ⟨_, _, _, rfl, rfl, rfl⟩ rfl rfl (Nat.le_of_ble_eq_true rfl) dX6_pair_8 ?_
  refine r_istore dX6_pair_11 (by decide) rfl ?_
  refine r_iload_n dX6_pair_13 rfl ?_
  refine r_if_lt 22 dX6_pair_14 (by decide) (fun c14 => ?_) (fun c14 => ?_)
  ·
    refine r_iconst (-1) dX6_pair_22 (by decide) ?_
    exact r_iret hQ rfl dX6_pair_23 (reJ_of (okMd_of (by rw [oPair, loc_none hn (fI_neg hn c14)]) h (keepLw_rfl σ)))
  ·
    obtain ⟨a, ha, ea, e0⟩ := loc_some (fun q => c14 (by rw [q]; decide))
    rw [e0]
    refine r_iload dX6_pair_17 rfl ?_
    refine r_if_ge 24 dX6_pair_19 (by decide) (fun c19 => ?_) (fun c19 => ?_)
    ·
      replace c19 := Int32.not_lt.mpr c19
      obtain ⟨b, hb, eb, e1⟩ := loc_some (fun q => c19 (by rw [q]; decide))
      rw [e1]
      refine r_iload_n dX6_pair_24 rfl ?_
      refine r_iload dX6_pair_25 rfl ?_
      refine r_icmp_ne 33 dX6_pair_27 (by decide) (fun c27 => ?_) (fun c27 => ?_)
      ·
        have n27 : ¬ a = b := fun q => c27 ((nI_eq (a := a) (b := b) (by omega) (by omega)).mpr q)
        refine r_aload_n dX6_pair_33 rfl ?_
        refine r_iload dX6_pair_34 rfl ?_
        refine r_iload_n dX6_pair_36 rfl ?_
        refine r_callVI (369) hL (ctX6_hidesBy l Ω _ (qC S) hz b a (by omega) (by omega)) kX6_pair_72 (by omega) ⟨_, _, _, rfl, rfl, rfl⟩ rfl rfl (Nat.le_of_ble_eq_true rfl) dX6_pair_37 ?_
        refine r_istore dX6_pair_40 (by decide) rfl ?_
        refine r_iload dX6_pair_42 rfl ?_
        refine r_if_le 54 dX6_pair_44 (by decide) (fun c44 => ?_) (fun c44 => ?_)
        ·
          replace c44 := Int32.not_lt.mpr c44
          refine r_aload_n dX6_pair_54 rfl ?_
          refine r_iload_n dX6_pair_55 rfl ?_
          refine r_iload dX6_pair_56 rfl ?_
          refine r_callVI (369) hL (ctX6_hidesBy l Ω _ (qC S) hz a b (by omega) (by omega)) kX6_pair_72 (by omega) ⟨_, _, _, rfl, rfl, rfl⟩ rfl rfl (Nat.le_of_ble_eq_true rfl) dX6_pair_58 ?_
          exact r_iret hQ rfl dX6_pair_61 (reJ_of (okMd_of (by rw [oPair, ea, eb]; simp only; rw [if_neg n27, ← pair_eq p1 ha hb n27, if_neg c44]) h (keepLw_rfl σ)))
        ·
          replace c44 := Int32.not_le.mp c44
          refine r_iconst 3 dX6_pair_47 (by decide) ?_
          refine r_iload dX6_pair_48 rfl ?_
          refine r_iadd dX6_pair_50 ?_
          refine r_goto 61 dX6_pair_51 (by decide) ?_
          exact r_iret hQ rfl dX6_pair_61 (reJ_of (okMd_of (by rw [oPair, ea, eb]; simp only; rw [if_neg n27, ← pair_eq p1 ha hb n27, if_pos c44]) h (keepLw_rfl σ)))
      ·
        have n27 := (nI_eq (a := a) (b := b) (by omega) (by omega)).mp c27
        refine r_bipush (-2) dX6_pair_30 (by decide) ?_
        exact r_iret hQ rfl dX6_pair_32 (reJ_of (okMd_of (by rw [oPair, ea, eb]; simp only; rw [if_pos n27]) h (keepLw_rfl σ)))
    ·
      replace c19 := Int32.not_le.mp c19
      refine r_iconst (-1) dX6_pair_22 (by decide) ?_
      exact r_iret hQ rfl dX6_pair_23 (reJ_of (okMd_of (by rw [oPair, ea, loc_none hn (fI_neg hn c19)]) h (keepLw_rfl σ)))

set_option maxRecDepth 100000 in
set_option maxHeartbeats 4000000 in
theorem ctX6_drawn (l : Launch) (Ω : Om) (σ : Sg) (S : StV) (h : isMd σ S) (hg : gdV (qC S)) (p1 : peDr (qC S)) (y : Int32) : CtW l yX6_drawn wsX6_drawn (rmD 7) Ω [.ref (ad Ω 369), .int y] σ (reJ (fun r σ1 => okMd σ (oDrawn S y) r σ1)) := by
  refine ct_intro [some (.ref (ad Ω 369)), some (.int y)] (by decide) rfl rfl (Nat.le_of_ble_eq_true rfl) (fun Γ hL hQ => ?_)
  show AtW mX6_drawn Γ Ω σ 0 [some (.ref (ad Ω 369)), some (.int y)] []
  have hz := h.1
  have hn := h.1.1
  have hz0 := h.1.2.1
  have hu := hg.1
  have hru := hg.2.1
  have hl := gd_lt hg
  refine r_iload_n dX6_drawn_0 rfl ?_
  refine r_if_ge 7 dX6_drawn_1 (by decide) (fun c1 => ?_) (fun c1 => ?_)
  ·
    replace c1 := Int32.not_lt.mpr c1
    refine r_aload_n dX6_drawn_7 rfl ?_
    refine r_callVV (369) hL (ctX6_findHiding l Ω _ (qC S) hz) kX6_drawn_141 (by omega) ⟨_, _, _, rfl, rfl, rfl⟩ rfl rfl (Nat.le_of_ble_eq_true rfl) dX6_drawn_8 ?_
    intro σ1 hσ1
    have hz1 : isZ (σ1 370) (qC S) := by rw [hσ1.2 370 (by omega) (by omega)]; exact hz
    have hh1 : ∀ k, k < vN (qC S) → σ1 375 k = HV (qC S) k := fun k hk => (hσ1.1 k hk).1
    have hc1 : ∀ k, k < vN (qC S) → σ1 376 k = CVv (qC S) k := fun k hk => (hσ1.1 k hk).2
    have k1 := fhF_kr hσ1.2
    refine r_aload_n dX6_drawn_11 rfl ?_
    refine r_iconst 0 dX6_drawn_12 (by decide) ?_
    refine r_callVV (369) hL (ctX6_drawAll l Ω _ (qC S) hz1 hh1 hru _) kX6_drawn_206 (by omega) ⟨_, _, _, rfl, rfl, rfl⟩ rfl rfl (Nat.le_of_ble_eq_true rfl) dX6_drawn_13 ?_
    intro σ2 hσ2
    have k2 := keepRf_tr k1 (daI_kr hσ2)
    have hz2 : isZ (σ2 370) (qC S) := keepRf_z hz k2
    have hd12 : σ2 369 12 = nI (DCv (qC S)) := by rw [hσ2.2.1, p1.1]
    have hle : DCv (qC S) ≤ vN (qC S) := ffi_le _ _
    refine r_iload_n dX6_drawn_16 rfl ?_
    refine r_aload_n dX6_drawn_17 rfl ?_
    refine fX6_12 jX6_drawn_X6 lX6_drawn_96 dX6_drawn_18 ?_
    rw [hd12]
    refine r_icmp_ge 38 dX6_drawn_21 (by decide) (fun c21 => ?_) (fun c21 => ?_)
    ·
      replace c21 := Int32.not_lt.mpr c21
      refine r_bipush (-5) dX6_drawn_38 (by decide) ?_
      exact r_iret hQ rfl dX6_drawn_40 (reJ_of (by rw [dr_out c1 c21]; exact okMd_ro h k2 rfl))
    ·
      replace c21 := Int32.not_le.mp c21
      obtain ⟨j, hj, ey⟩ := slot_ix c1 c21 (by omega)
      obtain ⟨b, hb, eb⟩ := OV_ix hj
      have ho : σ2 378 j = nI b := by rw [hσ2.2.2.1 j (by rw [p1.1]; exact hj), p1.2 j hj, eb]
      refine r_aload_n dX6_drawn_24 rfl ?_
      refine r_aload_n dX6_drawn_25 rfl ?_
      refine fX6_11 jX6_drawn_X6 lX6_drawn_34 dX6_drawn_26 ?_
      refine r_iload_n dX6_drawn_29 rfl ?_
      refine ldM378 j ey (by omega) dX6_drawn_30 ?_
      rw [ho]
      refine r_iconst 0 dX6_drawn_31 (by decide) ?_
      refine r_callVI (369) hL (ctX6_of l Ω _ b 0 (by omega) (by omega)) kX6_drawn_43 (by omega) ⟨_, _, _, rfl, rfl, rfl⟩ rfl rfl (Nat.le_of_ble_eq_true rfl) dX6_drawn_32 ?_
      refine r_goto 40 dX6_drawn_35 (by decide) ?_
      exact r_iret hQ rfl dX6_drawn_40 (reJ_of (by rw [dr_ans c1 hj ey hn eb (by omega)]; exact okMd_ro h k2 (hz2.2.2.2.2.2.1 b hb)))
  ·
    replace c1 := Int32.not_le.mp c1
    refine r_bipush (-2) dX6_drawn_4 (by decide) ?_
    exact r_iret hQ rfl dX6_drawn_6 (reJ_of (okMd_of (by rw [oDrawn, if_pos c1]) h (keepLw_rfl σ)))

set_option maxRecDepth 100000 in
set_option maxHeartbeats 4000000 in
theorem ctX6_drawnWithout (l : Launch) (Ω : Om) (σ : Sg) (S : StV) (h : isMd σ S) (hg : gdV (qC S)) (p1 : peWo (qC S)) (y : Int32) : CtW l yX6_drawnWithout wsX6_drawnWithout (rmD 7) Ω [.ref (ad Ω 369), .int y] σ (reJ (fun r σ1 => okMd σ (oWithout S y) r σ1)) := by
  refine ct_intro [some (.ref (ad Ω 369)), some (.int y), none] (by decide) rfl rfl (Nat.le_of_ble_eq_true rfl) (fun Γ hL hQ => ?_)
  show AtW mX6_drawnWithout Γ Ω σ 0 [some (.ref (ad Ω 369)), some (.int y), none] []
  have hz := h.1
  have hn := h.1.1
  have hz0 := h.1.2.1
  have hu := hg.1
  have hru := hg.2.1
  have hl := gd_lt hg
  refine r_aload_n dX6_drawnWithout_0 rfl ?_
  refine r_iload_n dX6_drawnWithout_1 rfl ?_
  refine r_callVI (369) hL (ctX6_rankOf l Ω _ (qC S) hz hu _) kX6_drawnWithout_125 (by omega) ⟨_, _, _, rfl, rfl, rfl⟩ rfl rfl (Nat.le_of_ble_eq_true rfl) dX6_drawnWithout_2 ?_
  refine r_istore_n dX6_drawnWithout_5 (by decide) rfl ?_
  refine r_iload_n dX6_drawnWithout_6 rfl ?_
  refine r_if_ge 12 dX6_drawnWithout_7 (by decide) (fun c7 => ?_) (fun c7 => ?_)
  ·
    replace c7 := Int32.not_lt.mpr c7
    obtain ⟨k, hk, ek, e0⟩ := loc_some (fun q => c7 (by rw [q]; decide))
    rw [e0]
    refine r_aload_n dX6_drawnWithout_12 rfl ?_
    refine r_callVV (369) hL (ctX6_findHiding l Ω _ (qC S) hz) kX6_drawnWithout_141 (by omega) ⟨_, _, _, rfl, rfl, rfl⟩ rfl rfl (Nat.le_of_ble_eq_true rfl) dX6_drawnWithout_13 ?_
    intro σ1 hσ1
    have hz1 : isZ (σ1 370) (qC S) := by rw [hσ1.2 370 (by omega) (by omega)]; exact hz
    have hh1 : ∀ k, k < vN (qC S) → σ1 375 k = HV (qC S) k := fun k hk => (hσ1.1 k hk).1
    have hc1 : ∀ k, k < vN (qC S) → σ1 376 k = CVv (qC S) k := fun k hk => (hσ1.1 k hk).2
    have k1 := fhF_kr hσ1.2
    refine r_aload_n dX6_drawnWithout_16 rfl ?_
    refine r_iconst 1 dX6_drawnWithout_17 (by decide) ?_
    refine r_iload_n dX6_drawnWithout_18 rfl ?_
    refine r_ishl dX6_drawnWithout_19 ?_
    refine r_callVV (369) hL (ctX6_drawAll l Ω _ (qC S) hz1 hh1 hru _) kX6_drawnWithout_206 (by omega) ⟨_, _, _, rfl, rfl, rfl⟩ rfl rfl (Nat.le_of_ble_eq_true rfl) dX6_drawnWithout_20 ?_
    intro σ2 hσ2
    have k2 := keepRf_tr k1 (daI_kr hσ2)
    refine r_aload_n dX6_drawnWithout_23 rfl ?_
    refine fX6_12 jX6_drawnWithout_X6 lX6_drawnWithout_96 dX6_drawnWithout_24 ?_
    exact r_iret hQ rfl dX6_drawnWithout_27 (reJ_of (by rw [oWithout, ek]; exact okMd_ro h k2 (by rw [hσ2.2.1]; exact congrArg nI (p1 k hk))))
  ·
    replace c7 := Int32.not_le.mp c7
    refine r_iconst (-1) dX6_drawnWithout_10 (by decide) ?_
    exact r_iret hQ rfl dX6_drawnWithout_11 (reJ_of (okMd_of (by rw [oWithout, loc_none hn (fI_neg hn c7)]) h (keepLw_rfl σ)))

set_option maxRecDepth 100000 in
set_option maxHeartbeats 4000000 in
theorem ctX6_waitsFor (l : Launch) (Ω : Om) (σ : Sg) (S : StV) (h : isMd σ S) (hg : gdV (qC S)) (p1 : peDs (qC S)) (p2 : peWa (qC S)) (y : Int32) : CtW l yX6_waitsFor wsX6_waitsFor (rmD 7) Ω [.ref (ad Ω 369), .int y] σ (reJ (fun r σ1 => okMd σ (oWaits S y) r σ1)) := by
  refine ct_intro [some (.ref (ad Ω 369)), some (.int y), none, none, none, none] (by decide) rfl rfl (Nat.le_of_ble_eq_true rfl) (fun Γ hL hQ => ?_)
  show AtW mX6_waitsFor Γ Ω σ 0 [some (.ref (ad Ω 369)), some (.int y), none, none, none, none] []
  have hz := h.1
  have hn := h.1.1
  have hz0 := h.1.2.1
  have hu := hg.1
  have hru := hg.2.1
  have hl := gd_lt hg
  refine r_aload_n dX6_waitsFor_0 rfl ?_
  refine r_iload_n dX6_waitsFor_1 rfl ?_
  refine r_callVI (369) hL (ctX6_rankOf l Ω _ (qC S) hz hu _) kX6_waitsFor_125 (by omega) ⟨_, _, _, rfl, rfl, rfl⟩ rfl rfl (Nat.le_of_ble_eq_true rfl) dX6_waitsFor_2 ?_
  refine r_istore_n dX6_waitsFor_5 (by decide) rfl ?_
  refine r_iload_n dX6_waitsFor_6 rfl ?_
  refine r_if_ge 12 dX6_waitsFor_7 (by decide) (fun c7 => ?_) (fun c7 => ?_)
  ·
    replace c7 := Int32.not_lt.mpr c7
    obtain ⟨k, hk, ek, e0⟩ := loc_some (fun q => c7 (by rw [q]; decide))
    rw [e0]
    refine r_aload_n dX6_waitsFor_12 rfl ?_
    refine r_callVV (369) hL (ctX6_findHiding l Ω _ (qC S) hz) kX6_waitsFor_141 (by omega) ⟨_, _, _, rfl, rfl, rfl⟩ rfl rfl (Nat.le_of_ble_eq_true rfl) dX6_waitsFor_13 ?_
    intro σ1 hσ1
    have hz1 : isZ (σ1 370) (qC S) := by rw [hσ1.2 370 (by omega) (by omega)]; exact hz
    have hh1 : ∀ k, k < vN (qC S) → σ1 375 k = HV (qC S) k := fun k hk => (hσ1.1 k hk).1
    have hc1 : ∀ k, k < vN (qC S) → σ1 376 k = CVv (qC S) k := fun k hk => (hσ1.1 k hk).2
    have k1 := fhF_kr hσ1.2
    refine r_aload_n dX6_waitsFor_16 rfl ?_
    refine r_iconst 0 dX6_waitsFor_17 (by decide) ?_
    refine r_callVV (369) hL (ctX6_drawAll l Ω _ (qC S) hz1 hh1 hru _) kX6_waitsFor_206 (by omega) ⟨_, _, _, rfl, rfl, rfl⟩ rfl rfl (Nat.le_of_ble_eq_true rfl) dX6_waitsFor_18 ?_
    intro σ2 hσ2
    have k2 := keepRf_tr k1 (daI_kr hσ2)
    have hz2 : isZ (σ2 370) (qC S) := keepRf_z hz k2
    have eds : dsI (σ2 378) (lfC (qC S) (lf0 (qC S) 0)) = BV (qC S) := (dsI_c hσ2.2.2.1).trans p1
    refine r_aload_n dX6_waitsFor_21 rfl ?_
    refine fX6_8 jX6_waitsFor_X6 lX6_waitsFor_25 dX6_waitsFor_22 ?_
    refine r_iload_n dX6_waitsFor_25 rfl ?_
    refine ldM375 k rfl (by omega) dX6_waitsFor_26 ?_
    rw [hσ2.2.2.2.1 375 (by omega) (by omega), hh1 k hk]
    refine r_aload_n dX6_waitsFor_27 rfl ?_
    refine r_callVI (369) hL (ctX6_drawnSet l Ω _ (lfC (qC S) (lf0 (qC S) 0)) (by have := hσ2.1; omega) hσ2.2.1) kX6_waitsFor_213 (by omega) ⟨_, _, _, rfl, rfl, rfl⟩ rfl rfl (Nat.le_of_ble_eq_true rfl) dX6_waitsFor_28 ?_
    rw [eds]
    refine r_iconst (-1) dX6_waitsFor_31 (by decide) ?_
    refine r_ixor dX6_waitsFor_32 ?_
    refine r_iand dX6_waitsFor_33 ?_
    refine r_istore_n dX6_waitsFor_34 (by decide) rfl ?_
    refine r_bipush (-5) dX6_waitsFor_35 (by decide) ?_
    refine r_istore dX6_waitsFor_37 (by decide) rfl ?_
    refine r_aload_n dX6_waitsFor_39 rfl ?_
    refine fX6_0 jX6_waitsFor_X6 lX6_waitsFor_7 dX6_waitsFor_40 ?_
    refine r_iconst 0 dX6_waitsFor_43 (by decide) ?_
    refine ldM370 0 rfl (by omega) dX6_waitsFor_44 ?_
    rw [hz2.2.1]
    refine r_iconst 1 dX6_waitsFor_45 (by decide) ?_
    refine r_isub dX6_waitsFor_46 ?_
    refine r_istore dX6_waitsFor_47 (by decide) rfl ?_
    have L1 : ∀ (N : Nat) (m : Nat) (x : Int32), m ≤ vN (qC S) → wtS2 (qC S) k m x → True → m < N → AtW mX6_waitsFor Γ Ω σ2 49 [some (.ref (ad Ω 369)), some (.int y), some (.int (nI k)), some (.int (HV (qC S) k &&& (BV (qC S) ^^^ -1))), some (.int x), some (.int (nI m - 1))] [] := by
      intro N
      induction N with
      | zero =>
        intro m x hm hx hN2 hN
        exact absurd hN (by omega)
      | succ N ih =>
        intro m x hm hx hN2 hN
        refine r_iload dX6_waitsFor_49 rfl ?_
        refine r_if_lt 83 dX6_waitsFor_51 (by decide) (fun c51 => ?_) (fun c51 => ?_)
        ·
          have em : m = 0 := (pred_neg (by omega)).mp c51
          subst em
          refine r_aload_n dX6_waitsFor_83 rfl ?_
          refine r_callVI (369) hL (ctX6_drawnSet l Ω _ (lfC (qC S) (lf0 (qC S) 0)) (by have := hσ2.1; omega) hσ2.2.1) kX6_waitsFor_213 (by omega) ⟨_, _, _, rfl, rfl, rfl⟩ rfl rfl (Nat.le_of_ble_eq_true rfl) dX6_waitsFor_84 ?_
          rw [eds]
          refine r_iload_n dX6_waitsFor_87 rfl ?_
          refine r_callSI hL (ctX6_has l Ω _ _ k) kX6_waitsFor_75 rfl rfl (Nat.le_of_ble_eq_true rfl) dX6_waitsFor_88 ?_
          refine r_if_eq 99 dX6_waitsFor_91 (by decide) (fun c91 => ?_) (fun c91 => ?_)
          ·
            replace c91 := bI_f c91
            refine r_iload dX6_waitsFor_99 rfl ?_
            exact r_iret hQ rfl dX6_waitsFor_101 (reJ_of (by rw [oWaits, ek]; exact okMd_ro h k2 (wt2_end hn hx)))
          ·
            replace c91 := bI_t c91
            refine r_bipush (-5) dX6_waitsFor_94 (by decide) ?_
            refine r_goto 101 dX6_waitsFor_96 (by decide) ?_
            exact r_iret hQ rfl dX6_waitsFor_101 (reJ_of (by rw [oWaits, ek]; exact okMd_ro h k2 (if_pos (p2 k hk c91)).symm))
        ·
          have em : ¬ m = 0 := fun q => c51 ((pred_neg (by omega)).mpr q)
          obtain ⟨m, rfl⟩ : ∃ q, m = q + 1 := ⟨m - 1, by omega⟩
          rw [nI_pred]
          refine r_iload_n dX6_waitsFor_54 rfl ?_
          refine r_iload dX6_waitsFor_55 rfl ?_
          refine r_callSI hL (ctX6_has l Ω _ _ m) kX6_waitsFor_75 rfl rfl (Nat.le_of_ble_eq_true rfl) dX6_waitsFor_57 ?_
          refine r_if_eq 73 dX6_waitsFor_60 (by decide) (fun c60 => ?_) (fun c60 => ?_)
          ·
            replace c60 := bI_f c60
            refine r_iload dX6_waitsFor_73 rfl ?_
            refine r_istore dX6_waitsFor_75 (by decide) rfl ?_
            refine r_iinc (nI m - 1) dX6_waitsFor_77 rfl (dec_iinc m) (by decide) rfl ?_
            refine r_goto 49 dX6_waitsFor_80 (by decide) ?_
            exact ih m _ (by omega) (wt2_no hx (by rw [← wtP_has (by omega)]; exact c60)) trivial (by omega)
          ·
            replace c60 := bI_t c60
            refine r_aload_n dX6_waitsFor_63 rfl ?_
            refine r_iload dX6_waitsFor_64 rfl ?_
            refine r_iconst 0 dX6_waitsFor_66 (by decide) ?_
            refine r_callVI (369) hL (ctX6_of l Ω _ m 0 (by omega) (by omega)) kX6_waitsFor_43 (by omega) ⟨_, _, _, rfl, rfl, rfl⟩ rfl rfl (Nat.le_of_ble_eq_true rfl) dX6_waitsFor_67 ?_
            refine r_goto 75 dX6_waitsFor_70 (by decide) ?_
            refine r_istore dX6_waitsFor_75 (by decide) rfl ?_
            refine r_iinc (nI m - 1) dX6_waitsFor_77 rfl (dec_iinc m) (by decide) rfl ?_
            refine r_goto 49 dX6_waitsFor_80 (by decide) ?_
            exact ih m _ (by omega) (by rw [hz2.2.2.2.2.2.1 m (by omega)]; exact wt2_yes (by omega) (by rw [← wtP_has (by omega)]; exact c60)) trivial (by omega)
    exact L1 (vN (qC S) + 1) (vN (qC S)) _ (Nat.le_refl _) (Or.inl ⟨rfl, fun j a b => by omega⟩) trivial (by omega)
  ·
    replace c7 := Int32.not_le.mp c7
    refine r_iconst (-1) dX6_waitsFor_10 (by decide) ?_
    exact r_iret hQ rfl dX6_waitsFor_11 (reJ_of (okMd_of (by rw [oWaits, loc_none hn (fI_neg hn c7)]) h (keepLw_rfl σ)))
