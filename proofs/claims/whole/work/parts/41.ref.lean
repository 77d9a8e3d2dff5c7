set_option maxRecDepth 100000 in
set_option maxHeartbeats 4000000 in
theorem ctX6_in (l : Launch) (Ω : Om) (σ : Sg) (x : Int64) (a b : Int32) : CtW l yX6_in wsX6_in (rmD 0) Ω [.long x, .int a, .int b] σ (roI (bI (inL x a b)) σ) := by
  refine ct_intro [some (.long x), none, some (.int a), some (.int b)] (by decide) rfl rfl (Nat.le_of_ble_eq_true rfl) (fun Γ hL hQ => ?_)
  show AtW mX6_in Γ Ω σ 0 [some (.long x), none, some (.int a), some (.int b)] []
  refine r_lload_n dX6_in_0 rfl ?_
  refine r_iload_n dX6_in_1 rfl ?_
  refine r_i2l dX6_in_2 ?_
  refine r_lcmp dX6_in_3 ?_
  refine r_if_lt 18 dX6_in_4 (by decide) (fun c4 => ?_) (fun c4 => ?_)
  ·
    refine r_iconst 0 dX6_in_18 (by decide) ?_
    exact r_zret hQ rfl (by decide) dX6_in_19 (roI_of (by rw [in_1 c4]; rfl))
  ·
    refine r_lload_n dX6_in_7 rfl ?_
    refine r_iload_n dX6_in_8 rfl ?_
    refine r_i2l dX6_in_9 ?_
    refine r_lcmp dX6_in_10 ?_
    refine r_if_gt 18 dX6_in_11 (by decide) (fun c11 => ?_) (fun c11 => ?_)
    ·
      refine r_iconst 0 dX6_in_18 (by decide) ?_
      exact r_zret hQ rfl (by decide) dX6_in_19 (roI_of (by rw [in_2 c11]; rfl))
    ·
      refine r_iconst 1 dX6_in_14 (by decide) ?_
      refine r_goto 19 dX6_in_15 (by decide) ?_
      exact r_zret hQ rfl (by decide) dX6_in_19 (roI_of (by rw [in_3 c4 c11]; rfl))

set_option maxRecDepth 100000 in
set_option maxHeartbeats 4000000 in
theorem ctX6_has (l : Launch) (Ω : Om) (σ : Sg) (x : Int32) (k : Nat) : CtW l yX6_has wsX6_has (rmD 0) Ω [.int x, .int (nI k)] σ (roI (bI (hasB x k)) σ) := by
  refine ct_intro [some (.int x), some (.int (nI k))] (by decide) rfl rfl (Nat.le_of_ble_eq_true rfl) (fun Γ hL hQ => ?_)
  show AtW mX6_has Γ Ω σ 0 [some (.int x), some (.int (nI k))] []
  refine r_iload_n dX6_has_0 rfl ?_
  refine r_iload_n dX6_has_1 rfl ?_
  refine r_ishr dX6_has_2 ?_
  refine r_iconst 1 dX6_has_3 (by decide) ?_
  refine r_iand dX6_has_4 ?_
  refine r_iconst 1 dX6_has_5 (by decide) ?_
  refine r_icmp_ne 13 dX6_has_6 (by decide) (fun c6 => ?_) (fun c6 => ?_)
  ·
    refine r_iconst 0 dX6_has_13 (by decide) ?_
    exact r_zret hQ rfl (by decide) dX6_has_14 (roI_of (by rw [has_1 c6]; rfl))
  ·
    refine r_iconst 1 dX6_has_9 (by decide) ?_
    refine r_goto 14 dX6_has_10 (by decide) ?_
    exact r_zret hQ rfl (by decide) dX6_has_14 (roI_of (by rw [has_2 c6]; rfl))

set_option maxRecDepth 100000 in
set_option maxHeartbeats 4000000 in
theorem ctX6_ones (l : Launch) (Ω : Om) (σ : Sg) (y : Int32) : CtW l yX6_ones wsX6_ones (rmD 0) Ω [.int y] σ (roI (onI y) σ) := by
  refine ct_intro [some (.int y), none, none] (by decide) rfl rfl (Nat.le_of_ble_eq_true rfl) (fun Γ hL hQ => ?_)
  show AtW mX6_ones Γ Ω σ 0 [some (.int y), none, none] []
  refine r_iconst 0 dX6_ones_0 (by decide) ?_
  refine r_istore_n dX6_ones_1 (by decide) rfl ?_
  refine r_iconst 0 dX6_ones_2 (by decide) ?_
  refine r_istore_n dX6_ones_3 (by decide) rfl ?_
  have L1 : ∀ (N : Nat) (k : Nat) (x : Int32), k ≤ 16 → x = sumI (fun k => y >>> (nI k &&& 31) &&& 1) k → 16 < k + N → AtW mX6_ones Γ Ω σ 4 [some (.int y), some (.int x), some (.int (nI k))] [] := by
    intro N
    induction N with
    | zero =>
      intro k x hk hx hN
      exact absurd hN (by omega)
    | succ N ih =>
      intro k x hk hx hN
      refine r_iload_n dX6_ones_4 rfl ?_
      refine r_bipush 16 dX6_ones_5 (by decide) ?_
      refine r_icmp_ge 24 dX6_ones_7 (by decide) (fun c7 => ?_) (fun c7 => ?_)
      ·
        replace c7 := Int32.not_lt.mpr c7
        have n7 := Nat.not_lt.mp (fun q => c7 ((nI_ltI (a := k) (b := 16) (by omega) (by omega)).mpr q))
        refine r_iload_n dX6_ones_24 rfl ?_
        have ek : k = 16 := by omega
        subst ek
        exact r_iret hQ rfl dX6_ones_25 (roI_of hx)
      ·
        replace c7 := Int32.not_le.mp c7
        have n7 := (nI_ltI (a := k) (b := 16) (by omega) (by omega)).mp c7
        refine r_iload_n dX6_ones_10 rfl ?_
        refine r_iload_n dX6_ones_11 rfl ?_
        refine r_iload_n dX6_ones_12 rfl ?_
        refine r_ishr dX6_ones_13 ?_
        refine r_iconst 1 dX6_ones_14 (by decide) ?_
        refine r_iand dX6_ones_15 ?_
        refine r_iadd dX6_ones_16 ?_
        refine r_istore_n dX6_ones_17 (by decide) rfl ?_
        refine r_iinc (nI (k + 1)) dX6_ones_18 rfl (nI_1 k) (by decide) rfl ?_
        refine r_goto 4 dX6_ones_21 (by decide) ?_
        exact ih (k + 1) _ (by omega) (by rw [hx]; rfl) (by omega)
  exact L1 17 0 _ (by omega) rfl (by omega)

set_option maxRecDepth 100000 in
set_option maxHeartbeats 4000000 in
theorem ctX6_of (l : Launch) (Ω : Om) (σ : Sg) (j k : Nat) (hj : j < 16) (hk : k < 7) : CtW l yX6_of wsX6_of (rmD 0) Ω [.ref (ad Ω 369), .int (nI j), .int (nI k)] σ (roI (σ 370 (4 + 7 * j + k)) σ) := by
  refine ct_intro [some (.ref (ad Ω 369)), some (.int (nI j)), some (.int (nI k))] (by decide) rfl rfl (Nat.le_of_ble_eq_true rfl) (fun Γ hL hQ => ?_)
  show AtW mX6_of Γ Ω σ 0 [some (.ref (ad Ω 369)), some (.int (nI j)), some (.int (nI k))] []
  refine r_aload_n dX6_of_0 rfl ?_
  refine fX6_0 jX6_of_X6 lX6_of_7 dX6_of_1 ?_
  refine r_iconst 4 dX6_of_4 (by decide) ?_
  refine r_bipush 7 dX6_of_5 (by decide) ?_
  refine r_iload_n dX6_of_7 rfl ?_
  refine r_imul dX6_of_8 ?_
  refine r_iadd dX6_of_9 ?_
  refine r_iload_n dX6_of_10 rfl ?_
  refine r_iadd dX6_of_11 ?_
  rw [zix]
  refine ldM370 (4 + 7 * j + k) rfl (by omega) dX6_of_12 ?_
  exact r_iret hQ rfl dX6_of_13 (roI_of rfl)

set_option maxRecDepth 100000 in
set_option maxHeartbeats 4000000 in
theorem ctX6_put (l : Launch) (Ω : Om) (σ : Sg) (j k : Nat) (hj : j < 16) (hk : k < 7) (y : Int32) : CtW l yX6_put wsX6_put (rmD 0) Ω [.ref (ad Ω 369), .int (nI j), .int (nI k), .int y] σ (reV (fun σ1 => σ1 = upS σ 370 (4 + 7 * j + k) y)) := by
  refine ct_intro [some (.ref (ad Ω 369)), some (.int (nI j)), some (.int (nI k)), some (.int y)] (by decide) rfl rfl (Nat.le_of_ble_eq_true rfl) (fun Γ hL hQ => ?_)
  show AtW mX6_put Γ Ω σ 0 [some (.ref (ad Ω 369)), some (.int (nI j)), some (.int (nI k)), some (.int y)] []
  refine r_aload_n dX6_put_0 rfl ?_
  refine fX6_0 jX6_put_X6 lX6_put_7 dX6_put_1 ?_
  refine r_iconst 4 dX6_put_4 (by decide) ?_
  refine r_bipush 7 dX6_put_5 (by decide) ?_
  refine r_iload_n dX6_put_7 rfl ?_
  refine r_imul dX6_put_8 ?_
  refine r_iadd dX6_put_9 ?_
  refine r_iload_n dX6_put_10 rfl ?_
  refine r_iadd dX6_put_11 ?_
  rw [zix]
  refine r_iload_n dX6_put_12 rfl ?_
  refine stM370 (4 + 7 * j + k) rfl (by omega) dX6_put_13 ?_
  exact r_vret hQ rfl dX6_put_14 (reV_of rfl)

set_option maxRecDepth 100000 in
set_option maxHeartbeats 4000000 in
theorem ctX6_low (l : Launch) (Ω : Om) (σ : Sg) (v : SpV) (hz : isZ (σ 370) v) (k : Nat) (hk : k < vN v) (d : Nat) (hd : d < 3) : CtW l yX6_low wsX6_low (rmD 1) Ω [.ref (ad Ω 369), .int (nI k), .int (nI d)] σ (roI (vLo v k d) σ) := by
  refine ct_intro [some (.ref (ad Ω 369)), some (.int (nI k)), some (.int (nI d))] (by decide) rfl rfl (Nat.le_of_ble_eq_true rfl) (fun Γ hL hQ => ?_)
  show AtW mX6_low Γ Ω σ 0 [some (.ref (ad Ω 369)), some (.int (nI k)), some (.int (nI d))] []
  have hn := hz.1
  have hz0 := hz.2.1
  refine r_aload_n dX6_low_0 rfl ?_
  refine r_iload_n dX6_low_1 rfl ?_
  refine r_iconst 1 dX6_low_2 (by decide) ?_
  refine r_iload_n dX6_low_3 rfl ?_
  refine r_iadd dX6_low_4 ?_
  rw [one_d]
  refine r_callVI (369) hL (ctX6_of l Ω _ k (1 + d) (by omega) (by omega)) kX6_low_43 (by omega) ⟨_, _, _, rfl, rfl, rfl⟩ rfl rfl (Nat.le_of_ble_eq_true rfl) dX6_low_5 ?_
  exact r_iret hQ rfl dX6_low_8 (roI_of (hz.2.2.2.2.2.2 k hk d hd).1)

set_option maxRecDepth 100000 in
set_option maxHeartbeats 4000000 in
theorem ctX6_size (l : Launch) (Ω : Om) (σ : Sg) (v : SpV) (hz : isZ (σ 370) v) (k : Nat) (hk : k < vN v) (d : Nat) (hd : d < 3) : CtW l yX6_size wsX6_size (rmD 1) Ω [.ref (ad Ω 369), .int (nI k), .int (nI d)] σ (roI (szG (vLo v) (vHi v) k d) σ) := by
  refine ct_intro [some (.ref (ad Ω 369)), some (.int (nI k)), some (.int (nI d))] (by decide) rfl rfl (Nat.le_of_ble_eq_true rfl) (fun Γ hL hQ => ?_)
  show AtW mX6_size Γ Ω σ 0 [some (.ref (ad Ω 369)), some (.int (nI k)), some (.int (nI d))] []
  have hn := hz.1
  have hz0 := hz.2.1
  refine r_aload_n dX6_size_0 rfl ?_
  refine r_iload_n dX6_size_1 rfl ?_
  refine r_iconst 4 dX6_size_2 (by decide) ?_
  refine r_iload_n dX6_size_3 rfl ?_
  refine r_iadd dX6_size_4 ?_
  rw [four_d]
  refine r_callVI (369) hL (ctX6_of l Ω _ k (4 + d) (by omega) (by omega)) kX6_size_43 (by omega) ⟨_, _, _, rfl, rfl, rfl⟩ rfl rfl (Nat.le_of_ble_eq_true rfl) dX6_size_5 ?_
  exact r_iret hQ rfl dX6_size_8 (roI_of (hz.2.2.2.2.2.2 k hk d hd).2)

set_option maxRecDepth 100000 in
set_option maxHeartbeats 4000000 in
theorem ctX6_high (l : Launch) (Ω : Om) (σ : Sg) (v : SpV) (hz : isZ (σ 370) v) (k : Nat) (hk : k < vN v) (d : Nat) (hd : d < 3) : CtW l yX6_high wsX6_high (rmD 2) Ω [.ref (ad Ω 369), .int (nI k), .int (nI d)] σ (roI (vHi v k d) σ) := by
  refine ct_intro [some (.ref (ad Ω 369)), some (.int (nI k)), some (.int (nI d))] (by decide) rfl rfl (Nat.le_of_ble_eq_true rfl) (fun Γ hL hQ => ?_)
  show AtW mX6_high Γ Ω σ 0 [some (.ref (ad Ω 369)), some (.int (nI k)), some (.int (nI d))] []
  have hn := hz.1
  have hz0 := hz.2.1
  refine r_aload_n dX6_high_0 rfl ?_
  refine r_iload_n dX6_high_1 rfl ?_
  refine r_iload_n dX6_high_2 rfl ?_
  refine r_callVI (369) hL (ctX6_low l Ω _ v hz k (by omega) d (by omega)) kX6_high_47 (by omega) ⟨_, _, _, rfl, rfl, rfl⟩ rfl rfl (Nat.le_of_ble_eq_true rfl) dX6_high_3 ?_
  refine r_aload_n dX6_high_6 rfl ?_
  refine r_iload_n dX6_high_7 rfl ?_
  refine r_iload_n dX6_high_8 rfl ?_
  refine r_callVI (369) hL (ctX6_size l Ω _ v hz k (by omega) d (by omega)) kX6_high_50 (by omega) ⟨_, _, _, rfl, rfl, rfl⟩ rfl rfl (Nat.le_of_ble_eq_true rfl) dX6_high_9 ?_
  refine r_iadd dX6_high_12 ?_
  exact r_iret hQ rfl dX6_high_13 (roI_of (by unfold szG; rw [Int32.add_comm, Int32.sub_add_cancel]))

set_option maxRecDepth 100000 in
set_option maxHeartbeats 4000000 in
theorem ctX6_volume (l : Launch) (Ω : Om) (σ : Sg) (v : SpV) (hz : isZ (σ 370) v) (k : Nat) (hk : k < vN v) : CtW l yX6_volume wsX6_volume (rmD 2) Ω [.ref (ad Ω 369), .int (nI k)] σ (roI (voG (vLo v) (vHi v) k) σ) := by
  refine ct_intro [some (.ref (ad Ω 369)), some (.int (nI k))] (by decide) rfl rfl (Nat.le_of_ble_eq_true rfl) (fun Γ hL hQ => ?_)
  show AtW mX6_volume Γ Ω σ 0 [some (.ref (ad Ω 369)), some (.int (nI k))] []
  have hn := hz.1
  have hz0 := hz.2.1
  refine r_aload_n dX6_volume_0 rfl ?_
  refine r_iload_n dX6_volume_1 rfl ?_
  refine r_iconst 0 dX6_volume_2 (by decide) ?_
  refine r_callVI (369) hL (ctX6_size l Ω _ v hz k (by omega) 0 (by omega)) kX6_volume_50 (by omega) ⟨_, _, _, rfl, rfl, rfl⟩ rfl rfl (Nat.le_of_ble_eq_true rfl) dX6_volume_3 ?_
  refine r_aload_n dX6_volume_6 rfl ?_
  refine r_iload_n dX6_volume_7 rfl ?_
  refine r_iconst 1 dX6_volume_8 (by decide) ?_
  refine r_callVI (369) hL (ctX6_size l Ω _ v hz k (by omega) 1 (by omega)) kX6_volume_50 (by omega) ⟨_, _, _, rfl, rfl, rfl⟩ rfl rfl (Nat.le_of_ble_eq_true rfl) dX6_volume_9 ?_
  refine r_imul dX6_volume_12 ?_
  refine r_aload_n dX6_volume_13 rfl ?_
  refine r_iload_n dX6_volume_14 rfl ?_
  refine r_iconst 2 dX6_volume_15 (by decide) ?_
  refine r_callVI (369) hL (ctX6_size l Ω _ v hz k (by omega) 2 (by omega)) kX6_volume_50 (by omega) ⟨_, _, _, rfl, rfl, rfl⟩ rfl rfl (Nat.le_of_ble_eq_true rfl) dX6_volume_16 ?_
  refine r_imul dX6_volume_19 ?_
  exact r_iret hQ rfl dX6_volume_20 (roI_of rfl)

set_option maxRecDepth 100000 in
set_option maxHeartbeats 4000000 in
theorem ctX6_rankOf (l : Launch) (Ω : Om) (σ : Sg) (v : SpV) (hz : isZ (σ 370) v) (hu : uniV v) (y : Int32) : CtW l yX6_rankOf wsX6_rankOf (rmD 1) Ω [.ref (ad Ω 369), .int y] σ (roI (fI (fun k => decide (vNu v k = y)) (vN v)) σ) := by
  refine ct_intro [some (.ref (ad Ω 369)), some (.int y), none, none] (by decide) rfl rfl (Nat.le_of_ble_eq_true rfl) (fun Γ hL hQ => ?_)
  show AtW mX6_rankOf Γ Ω σ 0 [some (.ref (ad Ω 369)), some (.int y), none, none] []
  have hn := hz.1
  have hz0 := hz.2.1
  refine r_iconst (-1) dX6_rankOf_0 (by decide) ?_
  refine r_istore_n dX6_rankOf_1 (by decide) rfl ?_
  refine r_iconst 0 dX6_rankOf_2 (by decide) ?_
  refine r_istore_n dX6_rankOf_3 (by decide) rfl ?_
  have L1 : ∀ (N : Nat) (k : Nat) (x : Int32), k ≤ vN v → x = lmI (fun k => decide (vNu v k = y)) k → vN v < k + N → AtW mX6_rankOf Γ Ω σ 4 [some (.ref (ad Ω 369)), some (.int y), some (.int x), some (.int (nI k))] [] := by
    intro N
    induction N with
    | zero =>
      intro k x hk hx hN
      exact absurd hN (by omega)
    | succ N ih =>
      intro k x hk hx hN
      refine r_iload_n dX6_rankOf_4 rfl ?_
      refine r_aload_n dX6_rankOf_5 rfl ?_
      refine fX6_0 jX6_rankOf_X6 lX6_rankOf_7 dX6_rankOf_6 ?_
      refine r_iconst 0 dX6_rankOf_9 (by decide) ?_
      refine ldM370 0 rfl (by omega) dX6_rankOf_10 ?_
      rw [hz0]
      refine r_icmp_ge 36 dX6_rankOf_11 (by decide) (fun c11 => ?_) (fun c11 => ?_)
      ·
        replace c11 := Int32.not_lt.mpr c11
        have n11 := Nat.not_lt.mp (fun q => c11 ((nI_ltI (a := k) (b := vN v) (by omega) (by omega)).mpr q))
        refine r_iload_n dX6_rankOf_36 rfl ?_
        have ek : k = vN v := by omega
        subst ek
        exact r_iret hQ rfl dX6_rankOf_37 (roI_of (by rw [hx, rk_eq hu]))
      ·
        replace c11 := Int32.not_le.mp c11
        have n11 := (nI_ltI (a := k) (b := vN v) (by omega) (by omega)).mp c11
        refine r_aload_n dX6_rankOf_14 rfl ?_
        refine r_iload_n dX6_rankOf_15 rfl ?_
        refine r_iconst 0 dX6_rankOf_16 (by decide) ?_
        refine r_callVI (369) hL (ctX6_of l Ω _ k 0 (by omega) (by omega)) kX6_rankOf_43 (by omega) ⟨_, _, _, rfl, rfl, rfl⟩ rfl rfl (Nat.le_of_ble_eq_true rfl) dX6_rankOf_17 ?_
        rw [hz.2.2.2.2.2.1 k (by omega)]
        refine r_iload_n dX6_rankOf_20 rfl ?_
        refine r_icmp_ne 28 dX6_rankOf_21 (by decide) (fun c21 => ?_) (fun c21 => ?_)
        ·
          refine r_iload_n dX6_rankOf_28 rfl ?_
          refine r_istore_n dX6_rankOf_29 (by decide) rfl ?_
          refine r_iinc (nI (k + 1)) dX6_rankOf_30 rfl (nI_1 k) (by decide) rfl ?_
          refine r_goto 4 dX6_rankOf_33 (by decide) ?_
          exact ih (k + 1) _ (by omega) (by rw [lmI, if_neg (by simpa using c21), hx]) (by omega)
        ·
          refine r_iload_n dX6_rankOf_24 rfl ?_
          refine r_goto 29 dX6_rankOf_25 (by decide) ?_
          refine r_istore_n dX6_rankOf_29 (by decide) rfl ?_
          refine r_iinc (nI (k + 1)) dX6_rankOf_30 rfl (nI_1 k) (by decide) rfl ?_
          refine r_goto 4 dX6_rankOf_33 (by decide) ?_
          exact ih (k + 1) _ (by omega) (by rw [lmI, if_pos (by simpa using c21)]) (by omega)
  exact L1 (vN v + 1) 0 _ (by omega) rfl (by omega)

set_option maxRecDepth 100000 in
set_option maxHeartbeats 4000000 in
theorem ctX6_isDirection (l : Launch) (Ω : Om) (σ : Sg) (y : Int32) : CtW l yX6_isDirection wsX6_isDirection (rmD 1) Ω [.int y] σ (roI (bI (dirB y)) σ) := by
  refine ct_intro [some (.int y)] (by decide) rfl rfl (Nat.le_of_ble_eq_true rfl) (fun Γ hL hQ => ?_)
  show AtW mX6_isDirection Γ Ω σ 0 [some (.int y)] []
  refine r_iload_n dX6_isDirection_0 rfl ?_
  refine r_i2l dX6_isDirection_1 ?_
  refine r_iconst 0 dX6_isDirection_2 (by decide) ?_
  refine r_iconst 2 dX6_isDirection_3 (by decide) ?_
  refine r_callSI hL (ctX6_in l Ω _ _ _ _) kX6_isDirection_53 rfl rfl (Nat.le_of_ble_eq_true rfl) dX6_isDirection_4 ?_
  exact r_zret hQ rfl (bI_01 _) dX6_isDirection_7 (roI_of (by rw [inL_W, dirB_W]))

set_option maxRecDepth 100000 in
set_option maxHeartbeats 4000000 in
theorem ctX6_cross (l : Launch) (Ω : Om) (σ : Sg) (v : SpV) (hz : isZ (σ 370) v) (a b : Nat) (ha : a < vN v) (hb : b < vN v) (d : Nat) (hd : d < 3) : CtW l yX6_cross wsX6_cross (rmD 3) Ω [.ref (ad Ω 369), .int (nI a), .int (nI b), .int (nI d)] σ (roI (bI (mtB (vLo v a) (vHi v a) (vLo v b) (vHi v b) d)) σ) := by
  refine ct_intro [some (.ref (ad Ω 369)), some (.int (nI a)), some (.int (nI b)), some (.int (nI d))] (by decide) rfl rfl (Nat.le_of_ble_eq_true rfl) (fun Γ hL hQ => ?_)
  show AtW mX6_cross Γ Ω σ 0 [some (.ref (ad Ω 369)), some (.int (nI a)), some (.int (nI b)), some (.int (nI d))] []
  have hn := hz.1
  have hz0 := hz.2.1
  refine r_aload_n dX6_cross_0 rfl ?_
  refine r_iload_n dX6_cross_1 rfl ?_
  refine r_iload_n dX6_cross_2 rfl ?_
  refine r_callVI (369) hL (ctX6_low l Ω _ v hz a (by omega) d (by omega)) kX6_cross_47 (by omega) ⟨_, _, _, rfl, rfl, rfl⟩ rfl rfl (Nat.le_of_ble_eq_true rfl) dX6_cross_3 ?_
  refine r_aload_n dX6_cross_6 rfl ?_
  refine r_iload_n dX6_cross_7 rfl ?_
  refine r_iload_n dX6_cross_8 rfl ?_
  refine r_callVI (369) hL (ctX6_high l Ω _ v hz b (by omega) d (by omega)) kX6_cross_57 (by omega) ⟨_, _, _, rfl, rfl, rfl⟩ rfl rfl (Nat.le_of_ble_eq_true rfl) dX6_cross_9 ?_
  refine r_icmp_ge 34 dX6_cross_12 (by decide) (fun c12 => ?_) (fun c12 => ?_)
  ·
    replace c12 := Int32.not_lt.mpr c12
    refine r_iconst 0 dX6_cross_34 (by decide) ?_
    exact r_zret hQ rfl (by decide) dX6_cross_35 (roI_of (by rw [mtB, decide_eq_false c12]; rfl))
  ·
    replace c12 := Int32.not_le.mp c12
    refine r_aload_n dX6_cross_15 rfl ?_
    refine r_iload_n dX6_cross_16 rfl ?_
    refine r_iload_n dX6_cross_17 rfl ?_
    refine r_callVI (369) hL (ctX6_low l Ω _ v hz b (by omega) d (by omega)) kX6_cross_47 (by omega) ⟨_, _, _, rfl, rfl, rfl⟩ rfl rfl (Nat.le_of_ble_eq_true rfl) dX6_cross_18 ?_
    refine r_aload_n dX6_cross_21 rfl ?_
    refine r_iload_n dX6_cross_22 rfl ?_
    refine r_iload_n dX6_cross_23 rfl ?_
    refine r_callVI (369) hL (ctX6_high l Ω _ v hz a (by omega) d (by omega)) kX6_cross_57 (by omega) ⟨_, _, _, rfl, rfl, rfl⟩ rfl rfl (Nat.le_of_ble_eq_true rfl) dX6_cross_24 ?_
    refine r_icmp_ge 34 dX6_cross_27 (by decide) (fun c27 => ?_) (fun c27 => ?_)
    ·
      replace c27 := Int32.not_lt.mpr c27
      refine r_iconst 0 dX6_cross_34 (by decide) ?_
      exact r_zret hQ rfl (by decide) dX6_cross_35 (roI_of (by rw [mtB, decide_eq_false c27, Bool.and_false]; rfl))
    ·
      replace c27 := Int32.not_le.mp c27
      refine r_iconst 1 dX6_cross_30 (by decide) ?_
      refine r_goto 35 dX6_cross_31 (by decide) ?_
      exact r_zret hQ rfl (by decide) dX6_cross_35 (roI_of (by rw [mtB, decide_eq_true c12, decide_eq_true c27]; rfl))

set_option maxRecDepth 100000 in
set_option maxHeartbeats 4000000 in
theorem ctX6_cutsAny (l : Launch) (Ω : Om) (σ : Sg) (v : SpV) (hz : isZ (σ 370) v) (a m : Nat) (ha : a < vN v) (hm : m ≤ vN v) : CtW l yX6_cutsAny wsX6_cutsAny (rmD 4) Ω [.ref (ad Ω 369), .int (nI a), .int (nI m)] σ (roI (bI (anyb (fun j => !decide (j = a) && ctBx (vLo v j) (vHi v j) (vLo v a) (vHi v a)) m)) σ) := by
  refine ct_intro [some (.ref (ad Ω 369)), some (.int (nI a)), some (.int (nI m)), none, none] (by decide) rfl rfl (Nat.le_of_ble_eq_true rfl) (fun Γ hL hQ => ?_)
  show AtW mX6_cutsAny Γ Ω σ 0 [some (.ref (ad Ω 369)), some (.int (nI a)), some (.int (nI m)), none, none] []
  have hn := hz.1
  have hz0 := hz.2.1
  refine r_iconst 0 dX6_cutsAny_0 (by decide) ?_
  refine r_istore_n dX6_cutsAny_1 (by decide) rfl ?_
  refine r_iconst 0 dX6_cutsAny_2 (by decide) ?_
  refine r_istore dX6_cutsAny_3 (by decide) rfl ?_
  have L1 : ∀ (N : Nat) (k : Nat) (x : Int32), k ≤ m → x = bI (anyb (fun j => !decide (j = a) && ctBx (vLo v j) (vHi v j) (vLo v a) (vHi v a)) k) → m < k + N → AtW mX6_cutsAny Γ Ω σ 5 [some (.ref (ad Ω 369)), some (.int (nI a)), some (.int (nI m)), some (.int x), some (.int (nI k))] [] := by
    intro N
    induction N with
    | zero =>
      intro k x hk hx hN
      exact absurd hN (by omega)
    | succ N ih =>
      intro k x hk hx hN
      refine r_iload dX6_cutsAny_5 rfl ?_
      refine r_iload_n dX6_cutsAny_7 rfl ?_
      refine r_icmp_ge 66 dX6_cutsAny_8 (by decide) (fun c8 => ?_) (fun c8 => ?_)
      ·
        replace c8 := Int32.not_lt.mpr c8
        have n8 := Nat.not_lt.mp (fun q => c8 ((nI_ltI (a := k) (b := m) (by omega) (by omega)).mpr q))
        refine r_iload_n dX6_cutsAny_66 rfl ?_
        have ek : m = k := by omega
        subst ek
        exact r_zret hQ rfl ((by rw [hx]; exact bI_01 _)) dX6_cutsAny_67 (roI_of hx)
      ·
        replace c8 := Int32.not_le.mp c8
        have n8 := (nI_ltI (a := k) (b := m) (by omega) (by omega)).mp c8
        refine r_iload_n dX6_cutsAny_11 rfl ?_
        refine r_if_ne 54 dX6_cutsAny_12 (by decide) (fun c12 => ?_) (fun c12 => ?_)
        ·
          rw [hx] at c12
          replace c12 := bI_t c12
          refine r_iconst 1 dX6_cutsAny_54 (by decide) ?_
          refine r_goto 59 dX6_cutsAny_55 (by decide) ?_
          refine r_istore_n dX6_cutsAny_59 (by decide) rfl ?_
          refine r_iinc (nI (k + 1)) dX6_cutsAny_60 rfl (nI_1 k) (by decide) rfl ?_
          refine r_goto 5 dX6_cutsAny_63 (by decide) ?_
          exact ih (k + 1) _ (by omega) (by rw [anyb, c12]; rfl) (by omega)
        ·
          rw [hx] at c12
          replace c12 := bI_f c12
          refine r_iload dX6_cutsAny_15 rfl ?_
          refine r_iload_n dX6_cutsAny_17 rfl ?_
          refine r_icmp_eq 58 dX6_cutsAny_18 (by decide) (fun c18 => ?_) (fun c18 => ?_)
          ·
            have n18 := (nI_eq (a := k) (b := a) (by omega) (by omega)).mp c18
            refine r_iconst 0 dX6_cutsAny_58 (by decide) ?_
            refine r_istore_n dX6_cutsAny_59 (by decide) rfl ?_
            refine r_iinc (nI (k + 1)) dX6_cutsAny_60 rfl (nI_1 k) (by decide) rfl ?_
            refine r_goto 5 dX6_cutsAny_63 (by decide) ?_
            exact ih (k + 1) _ (by omega) (by rw [anyb, c12]; simp [bI, n18]) (by omega)
          ·
            have n18 : ¬ k = a := fun q => c18 ((nI_eq (a := k) (b := a) (by omega) (by omega)).mpr q)
            refine r_aload_n dX6_cutsAny_21 rfl ?_
            refine r_iload_n dX6_cutsAny_22 rfl ?_
            refine r_iload dX6_cutsAny_23 rfl ?_
            refine r_iconst 0 dX6_cutsAny_25 (by decide) ?_
            refine r_callVI (369) hL (ctX6_cross l Ω _ v hz a k (by omega) (by omega) 0 (by omega)) kX6_cutsAny_60 (by omega) ⟨_, _, _, rfl, rfl, rfl⟩ rfl rfl (Nat.le_of_ble_eq_true rfl) dX6_cutsAny_26 ?_
            refine r_if_eq 58 dX6_cutsAny_29 (by decide) (fun c29 => ?_) (fun c29 => ?_)
            ·
              replace c29 := bI_f c29
              refine r_iconst 0 dX6_cutsAny_58 (by decide) ?_
              refine r_istore_n dX6_cutsAny_59 (by decide) rfl ?_
              refine r_iinc (nI (k + 1)) dX6_cutsAny_60 rfl (nI_1 k) (by decide) rfl ?_
              refine r_goto 5 dX6_cutsAny_63 (by decide) ?_
              exact ih (k + 1) _ (by omega) (by rw [anyb, c12, ctBx_sym]; simp [bI, ctBx, c29]) (by omega)
            ·
              replace c29 := bI_t c29
              refine r_aload_n dX6_cutsAny_32 rfl ?_
              refine r_iload_n dX6_cutsAny_33 rfl ?_
              refine r_iload dX6_cutsAny_34 rfl ?_
              refine r_iconst 1 dX6_cutsAny_36 (by decide) ?_
              refine r_callVI (369) hL (ctX6_cross l Ω _ v hz a k (by omega) (by omega) 1 (by omega)) kX6_cutsAny_60 (by omega) ⟨_, _, _, rfl, rfl, rfl⟩ rfl rfl (Nat.le_of_ble_eq_true rfl) dX6_cutsAny_37 ?_
              refine r_if_eq 58 dX6_cutsAny_40 (by decide) (fun c40 => ?_) (fun c40 => ?_)
              ·
                replace c40 := bI_f c40
                refine r_iconst 0 dX6_cutsAny_58 (by decide) ?_
                refine r_istore_n dX6_cutsAny_59 (by decide) rfl ?_
                refine r_iinc (nI (k + 1)) dX6_cutsAny_60 rfl (nI_1 k) (by decide) rfl ?_
                refine r_goto 5 dX6_cutsAny_63 (by decide) ?_
                exact ih (k + 1) _ (by omega) (by rw [anyb, c12, ctBx_sym]; simp [bI, ctBx, c40]) (by omega)
              ·
                replace c40 := bI_t c40
                refine r_aload_n dX6_cutsAny_43 rfl ?_
                refine r_iload_n dX6_cutsAny_44 rfl ?_
                refine r_iload dX6_cutsAny_45 rfl ?_
                refine r_iconst 2 dX6_cutsAny_47 (by decide) ?_
                refine r_callVI (369) hL (ctX6_cross l Ω _ v hz a k (by omega) (by omega) 2 (by omega)) kX6_cutsAny_60 (by omega) ⟨_, _, _, rfl, rfl, rfl⟩ rfl rfl (Nat.le_of_ble_eq_true rfl) dX6_cutsAny_48 ?_
                refine r_if_eq 58 dX6_cutsAny_51 (by decide) (fun c51 => ?_) (fun c51 => ?_)
                ·
                  replace c51 := bI_f c51
                  refine r_iconst 0 dX6_cutsAny_58 (by decide) ?_
                  refine r_istore_n dX6_cutsAny_59 (by decide) rfl ?_
                  refine r_iinc (nI (k + 1)) dX6_cutsAny_60 rfl (nI_1 k) (by decide) rfl ?_
                  refine r_goto 5 dX6_cutsAny_63 (by decide) ?_
                  exact ih (k + 1) _ (by omega) (by rw [anyb, c12, ctBx_sym]; simp [bI, ctBx, c51]) (by omega)
                ·
                  replace c51 := bI_t c51
                  refine r_iconst 1 dX6_cutsAny_54 (by decide) ?_
                  refine r_goto 59 dX6_cutsAny_55 (by decide) ?_
                  refine r_istore_n dX6_cutsAny_59 (by decide) rfl ?_
                  refine r_iinc (nI (k + 1)) dX6_cutsAny_60 rfl (nI_1 k) (by decide) rfl ?_
                  refine r_goto 5 dX6_cutsAny_63 (by decide) ?_
                  exact ih (k + 1) _ (by omega) (by rw [anyb, c12, ctBx_sym]; simp [bI, ctBx, c29, c40, c51, n18]) (by omega)
  exact L1 (m + 1) 0 _ (by omega) rfl (by omega)

set_option maxRecDepth 100000 in
set_option maxHeartbeats 4000000 in
theorem ctX6_reachesBelow (l : Launch) (Ω : Om) (σ : Sg) (v : SpV) (hz : isZ (σ 370) v) (a b : Nat) (ha : a < vN v) (hb : b < vN v) (d e : Nat) (hd : d < 3) (he : e < 3) : CtW l yX6_reachesBelow wsX6_reachesBelow (rmD 3) Ω [.ref (ad Ω 369), .int (nI a), .int (nI b), .int (nI d), .int (nI e)] σ (roI (bI (rBl (vLo v a) (vHi v a) (vLo v b) (vHi v b) d e)) σ) := by
  refine ct_intro [some (.ref (ad Ω 369)), some (.int (nI a)), some (.int (nI b)), some (.int (nI d)), some (.int (nI e))] (by decide) rfl rfl (Nat.le_of_ble_eq_true rfl) (fun Γ hL hQ => ?_)
  show AtW mX6_reachesBelow Γ Ω σ 0 [some (.ref (ad Ω 369)), some (.int (nI a)), some (.int (nI b)), some (.int (nI d)), some (.int (nI e))] []
  have hn := hz.1
  have hz0 := hz.2.1
  refine r_aload_n dX6_reachesBelow_0 rfl ?_
  refine r_iload_n dX6_reachesBelow_1 rfl ?_
  refine r_iload_n dX6_reachesBelow_2 rfl ?_
  refine r_callVI (369) hL (ctX6_low l Ω _ v hz a (by omega) d (by omega)) kX6_reachesBelow_47 (by omega) ⟨_, _, _, rfl, rfl, rfl⟩ rfl rfl (Nat.le_of_ble_eq_true rfl) dX6_reachesBelow_3 ?_
  refine r_aload_n dX6_reachesBelow_6 rfl ?_
  refine r_iload_n dX6_reachesBelow_7 rfl ?_
  refine r_iload dX6_reachesBelow_8 rfl ?_
  refine r_callVI (369) hL (ctX6_high l Ω _ v hz a (by omega) e (by omega)) kX6_reachesBelow_57 (by omega) ⟨_, _, _, rfl, rfl, rfl⟩ rfl rfl (Nat.le_of_ble_eq_true rfl) dX6_reachesBelow_10 ?_
  refine r_isub dX6_reachesBelow_13 ?_
  refine r_aload_n dX6_reachesBelow_14 rfl ?_
  refine r_iload_n dX6_reachesBelow_15 rfl ?_
  refine r_iload_n dX6_reachesBelow_16 rfl ?_
  refine r_callVI (369) hL (ctX6_high l Ω _ v hz b (by omega) d (by omega)) kX6_reachesBelow_57 (by omega) ⟨_, _, _, rfl, rfl, rfl⟩ rfl rfl (Nat.le_of_ble_eq_true rfl) dX6_reachesBelow_17 ?_
  refine r_aload_n dX6_reachesBelow_20 rfl ?_
  refine r_iload_n dX6_reachesBelow_21 rfl ?_
  refine r_iload dX6_reachesBelow_22 rfl ?_
  refine r_callVI (369) hL (ctX6_low l Ω _ v hz b (by omega) e (by omega)) kX6_reachesBelow_47 (by omega) ⟨_, _, _, rfl, rfl, rfl⟩ rfl rfl (Nat.le_of_ble_eq_true rfl) dX6_reachesBelow_24 ?_
  refine r_isub dX6_reachesBelow_27 ?_
  refine r_icmp_ge 35 dX6_reachesBelow_28 (by decide) (fun c28 => ?_) (fun c28 => ?_)
  ·
    replace c28 := Int32.not_lt.mpr c28
    refine r_iconst 0 dX6_reachesBelow_35 (by decide) ?_
    exact r_zret hQ rfl (by decide) dX6_reachesBelow_36 (roI_of (by rw [rBl, decide_eq_false c28]; rfl))
  ·
    replace c28 := Int32.not_le.mp c28
    refine r_iconst 1 dX6_reachesBelow_31 (by decide) ?_
    refine r_goto 36 dX6_reachesBelow_32 (by decide) ?_
    exact r_zret hQ rfl (by decide) dX6_reachesBelow_36 (roI_of (by rw [rBl, decide_eq_true c28]; rfl))

set_option maxRecDepth 100000 in
set_option maxHeartbeats 4000000 in
theorem ctX6_overlap (l : Launch) (Ω : Om) (σ : Sg) (v : SpV) (hz : isZ (σ 370) v) (a b : Nat) (ha : a < vN v) (hb : b < vN v) : CtW l yX6_overlap wsX6_overlap (rmD 4) Ω [.ref (ad Ω 369), .int (nI a), .int (nI b)] σ (roI (bI (ovB (vLo v a) (vHi v a) (vLo v b) (vHi v b))) σ) := by
  refine ct_intro [some (.ref (ad Ω 369)), some (.int (nI a)), some (.int (nI b)), none, none, none] (by decide) rfl rfl (Nat.le_of_ble_eq_true rfl) (fun Γ hL hQ => ?_)
  show AtW mX6_overlap Γ Ω σ 0 [some (.ref (ad Ω 369)), some (.int (nI a)), some (.int (nI b)), none, none, none] []
  have hn := hz.1
  have hz0 := hz.2.1
  refine r_iconst 1 dX6_overlap_0 (by decide) ?_
  refine r_istore_n dX6_overlap_1 (by decide) rfl ?_
  refine r_iconst 0 dX6_overlap_2 (by decide) ?_
  refine r_istore dX6_overlap_3 (by decide) rfl ?_
  refine r_iload dX6_overlap_5 rfl ?_
  refine r_iconst 2 dX6_overlap_7 (by decide) ?_
  refine r_icmp_ge 71 dX6_overlap_8 (by decide) (fun c8 => absurd c8 (by decide)) (fun c8 => ?_)
  refine r_iload dX6_overlap_11 rfl ?_
  refine r_iconst 1 dX6_overlap_13 (by decide) ?_
  refine r_iadd dX6_overlap_14 ?_
  rw [show (0 : Int32) + 1 = 1 from by decide]
  refine r_istore dX6_overlap_15 (by decide) rfl ?_
  refine r_iload dX6_overlap_17 rfl ?_
  refine r_iconst 3 dX6_overlap_19 (by decide) ?_
  refine r_icmp_ge 65 dX6_overlap_20 (by decide) (fun c20 => absurd c20 (by decide)) (fun c20 => ?_)
  refine r_iload_n dX6_overlap_23 rfl ?_
  refine r_if_eq 57 dX6_overlap_24 (by decide) (fun c24 => absurd c24 (by decide)) (fun c24 => ?_)
  refine r_aload_n dX6_overlap_27 rfl ?_
  refine r_iload_n dX6_overlap_28 rfl ?_
  refine r_iload_n dX6_overlap_29 rfl ?_
  refine r_iload dX6_overlap_30 rfl ?_
  refine r_iload dX6_overlap_32 rfl ?_
  refine r_callVI (369) hL (ctX6_reachesBelow l Ω _ v hz a b (by omega) (by omega) 0 1 (by omega) (by omega)) kX6_overlap_64 (by omega) ⟨_, _, _, rfl, rfl, rfl⟩ rfl rfl (Nat.le_of_ble_eq_true rfl) dX6_overlap_34 ?_
  refine r_if_eq 57 dX6_overlap_37 (by decide) (fun c37 => ?_) (fun c37 => ?_)
  ·
    replace c37 := bI_f c37
    have p01 := c37
    refine r_iconst 0 dX6_overlap_57 (by decide) ?_
    refine r_istore_n dX6_overlap_58 (by decide) rfl ?_
    refine r_iinc (2) dX6_overlap_59 rfl (by decide) (by decide) rfl ?_
    refine r_goto 17 dX6_overlap_62 (by decide) ?_
    refine r_iload dX6_overlap_17 rfl ?_
    refine r_iconst 3 dX6_overlap_19 (by decide) ?_
    refine r_icmp_ge 65 dX6_overlap_20 (by decide) (fun c20 => absurd c20 (by decide)) (fun c20 => ?_)
    refine r_iload_n dX6_overlap_23 rfl ?_
    refine r_if_eq 57 dX6_overlap_24 (by decide) (fun c24 => ?_) (fun c24 => absurd c24 (by decide))
    refine r_iconst 0 dX6_overlap_57 (by decide) ?_
    refine r_istore_n dX6_overlap_58 (by decide) rfl ?_
    refine r_iinc (3) dX6_overlap_59 rfl (by decide) (by decide) rfl ?_
    refine r_goto 17 dX6_overlap_62 (by decide) ?_
    refine r_iload dX6_overlap_17 rfl ?_
    refine r_iconst 3 dX6_overlap_19 (by decide) ?_
    refine r_icmp_ge 65 dX6_overlap_20 (by decide) (fun c20 => ?_) (fun c20 => absurd c20 (by decide))
    refine r_iinc (1) dX6_overlap_65 rfl (by decide) (by decide) rfl ?_
    refine r_goto 5 dX6_overlap_68 (by decide) ?_
    refine r_iload dX6_overlap_5 rfl ?_
    refine r_iconst 2 dX6_overlap_7 (by decide) ?_
    refine r_icmp_ge 71 dX6_overlap_8 (by decide) (fun c8 => absurd c8 (by decide)) (fun c8 => ?_)
    refine r_iload dX6_overlap_11 rfl ?_
    refine r_iconst 1 dX6_overlap_13 (by decide) ?_
    refine r_iadd dX6_overlap_14 ?_
    rw [show (1 : Int32) + 1 = 2 from by decide]
    refine r_istore dX6_overlap_15 (by decide) rfl ?_
    refine r_iload dX6_overlap_17 rfl ?_
    refine r_iconst 3 dX6_overlap_19 (by decide) ?_
    refine r_icmp_ge 65 dX6_overlap_20 (by decide) (fun c20 => absurd c20 (by decide)) (fun c20 => ?_)
    refine r_iload_n dX6_overlap_23 rfl ?_
    refine r_if_eq 57 dX6_overlap_24 (by decide) (fun c24 => ?_) (fun c24 => absurd c24 (by decide))
    refine r_iconst 0 dX6_overlap_57 (by decide) ?_
    refine r_istore_n dX6_overlap_58 (by decide) rfl ?_
    refine r_iinc (3) dX6_overlap_59 rfl (by decide) (by decide) rfl ?_
    refine r_goto 17 dX6_overlap_62 (by decide) ?_
    refine r_iload dX6_overlap_17 rfl ?_
    refine r_iconst 3 dX6_overlap_19 (by decide) ?_
    refine r_icmp_ge 65 dX6_overlap_20 (by decide) (fun c20 => ?_) (fun c20 => absurd c20 (by decide))
    refine r_iinc (2) dX6_overlap_65 rfl (by decide) (by decide) rfl ?_
    refine r_goto 5 dX6_overlap_68 (by decide) ?_
    refine r_iload dX6_overlap_5 rfl ?_
    refine r_iconst 2 dX6_overlap_7 (by decide) ?_
    refine r_icmp_ge 71 dX6_overlap_8 (by decide) (fun c8 => ?_) (fun c8 => absurd c8 (by decide))
    refine r_iload_n dX6_overlap_71 rfl ?_
    exact r_zret hQ rfl ((by decide)) dX6_overlap_72 (roI_of (by rw [ovB, md_rB, md_rB, md_rB, p01]; rfl))
  ·
    replace c37 := bI_t c37
    have p01 := c37
    refine r_aload_n dX6_overlap_40 rfl ?_
    refine r_iload_n dX6_overlap_41 rfl ?_
    refine r_iload_n dX6_overlap_42 rfl ?_
    refine r_iload dX6_overlap_43 rfl ?_
    refine r_iload dX6_overlap_45 rfl ?_
    refine r_callVI (369) hL (ctX6_reachesBelow l Ω _ v hz b a (by omega) (by omega) 0 1 (by omega) (by omega)) kX6_overlap_64 (by omega) ⟨_, _, _, rfl, rfl, rfl⟩ rfl rfl (Nat.le_of_ble_eq_true rfl) dX6_overlap_47 ?_
    refine r_if_eq 57 dX6_overlap_50 (by decide) (fun c50 => ?_) (fun c50 => ?_)
    ·
      replace c50 := bI_f c50
      have q01 := c50
      refine r_iconst 0 dX6_overlap_57 (by decide) ?_
      refine r_istore_n dX6_overlap_58 (by decide) rfl ?_
      refine r_iinc (2) dX6_overlap_59 rfl (by decide) (by decide) rfl ?_
      refine r_goto 17 dX6_overlap_62 (by decide) ?_
      refine r_iload dX6_overlap_17 rfl ?_
      refine r_iconst 3 dX6_overlap_19 (by decide) ?_
      refine r_icmp_ge 65 dX6_overlap_20 (by decide) (fun c20 => absurd c20 (by decide)) (fun c20 => ?_)
      refine r_iload_n dX6_overlap_23 rfl ?_
      refine r_if_eq 57 dX6_overlap_24 (by decide) (fun c24 => ?_) (fun c24 => absurd c24 (by decide))
      refine r_iconst 0 dX6_overlap_57 (by decide) ?_
      refine r_istore_n dX6_overlap_58 (by decide) rfl ?_
      refine r_iinc (3) dX6_overlap_59 rfl (by decide) (by decide) rfl ?_
      refine r_goto 17 dX6_overlap_62 (by decide) ?_
      refine r_iload dX6_overlap_17 rfl ?_
      refine r_iconst 3 dX6_overlap_19 (by decide) ?_
      refine r_icmp_ge 65 dX6_overlap_20 (by decide) (fun c20 => ?_) (fun c20 => absurd c20 (by decide))
      refine r_iinc (1) dX6_overlap_65 rfl (by decide) (by decide) rfl ?_
      refine r_goto 5 dX6_overlap_68 (by decide) ?_
      refine r_iload dX6_overlap_5 rfl ?_
      refine r_iconst 2 dX6_overlap_7 (by decide) ?_
      refine r_icmp_ge 71 dX6_overlap_8 (by decide) (fun c8 => absurd c8 (by decide)) (fun c8 => ?_)
      refine r_iload dX6_overlap_11 rfl ?_
      refine r_iconst 1 dX6_overlap_13 (by decide) ?_
      refine r_iadd dX6_overlap_14 ?_
      rw [show (1 : Int32) + 1 = 2 from by decide]
      refine r_istore dX6_overlap_15 (by decide) rfl ?_
      refine r_iload dX6_overlap_17 rfl ?_
      refine r_iconst 3 dX6_overlap_19 (by decide) ?_
      refine r_icmp_ge 65 dX6_overlap_20 (by decide) (fun c20 => absurd c20 (by decide)) (fun c20 => ?_)
      refine r_iload_n dX6_overlap_23 rfl ?_
      refine r_if_eq 57 dX6_overlap_24 (by decide) (fun c24 => ?_) (fun c24 => absurd c24 (by decide))
      refine r_iconst 0 dX6_overlap_57 (by decide) ?_
      refine r_istore_n dX6_overlap_58 (by decide) rfl ?_
      refine r_iinc (3) dX6_overlap_59 rfl (by decide) (by decide) rfl ?_
      refine r_goto 17 dX6_overlap_62 (by decide) ?_
      refine r_iload dX6_overlap_17 rfl ?_
      refine r_iconst 3 dX6_overlap_19 (by decide) ?_
      refine r_icmp_ge 65 dX6_overlap_20 (by decide) (fun c20 => ?_) (fun c20 => absurd c20 (by decide))
      refine r_iinc (2) dX6_overlap_65 rfl (by decide) (by decide) rfl ?_
      refine r_goto 5 dX6_overlap_68 (by decide) ?_
      refine r_iload dX6_overlap_5 rfl ?_
      refine r_iconst 2 dX6_overlap_7 (by decide) ?_
      refine r_icmp_ge 71 dX6_overlap_8 (by decide) (fun c8 => ?_) (fun c8 => absurd c8 (by decide))
      refine r_iload_n dX6_overlap_71 rfl ?_
      exact r_zret hQ rfl ((by decide)) dX6_overlap_72 (roI_of (by rw [ovB, md_rB, md_rB, md_rB, p01, q01]; rfl))
    ·
      replace c50 := bI_t c50
      have q01 := c50
      refine r_iconst 1 dX6_overlap_53 (by decide) ?_
      refine r_goto 58 dX6_overlap_54 (by decide) ?_
      refine r_istore_n dX6_overlap_58 (by decide) rfl ?_
      refine r_iinc (2) dX6_overlap_59 rfl (by decide) (by decide) rfl ?_
      refine r_goto 17 dX6_overlap_62 (by decide) ?_
      refine r_iload dX6_overlap_17 rfl ?_
      refine r_iconst 3 dX6_overlap_19 (by decide) ?_
      refine r_icmp_ge 65 dX6_overlap_20 (by decide) (fun c20 => absurd c20 (by decide)) (fun c20 => ?_)
      refine r_iload_n dX6_overlap_23 rfl ?_
      refine r_if_eq 57 dX6_overlap_24 (by decide) (fun c24 => absurd c24 (by decide)) (fun c24 => ?_)
      refine r_aload_n dX6_overlap_27 rfl ?_
      refine r_iload_n dX6_overlap_28 rfl ?_
      refine r_iload_n dX6_overlap_29 rfl ?_
      refine r_iload dX6_overlap_30 rfl ?_
      refine r_iload dX6_overlap_32 rfl ?_
      refine r_callVI (369) hL (ctX6_reachesBelow l Ω _ v hz a b (by omega) (by omega) 0 2 (by omega) (by omega)) kX6_overlap_64 (by omega) ⟨_, _, _, rfl, rfl, rfl⟩ rfl rfl (Nat.le_of_ble_eq_true rfl) dX6_overlap_34 ?_
      refine r_if_eq 57 dX6_overlap_37 (by decide) (fun c37 => ?_) (fun c37 => ?_)
      ·
        replace c37 := bI_f c37
        have p02 := c37
        refine r_iconst 0 dX6_overlap_57 (by decide) ?_
        refine r_istore_n dX6_overlap_58 (by decide) rfl ?_
        refine r_iinc (3) dX6_overlap_59 rfl (by decide) (by decide) rfl ?_
        refine r_goto 17 dX6_overlap_62 (by decide) ?_
        refine r_iload dX6_overlap_17 rfl ?_
        refine r_iconst 3 dX6_overlap_19 (by decide) ?_
        refine r_icmp_ge 65 dX6_overlap_20 (by decide) (fun c20 => ?_) (fun c20 => absurd c20 (by decide))
        refine r_iinc (1) dX6_overlap_65 rfl (by decide) (by decide) rfl ?_
        refine r_goto 5 dX6_overlap_68 (by decide) ?_
        refine r_iload dX6_overlap_5 rfl ?_
        refine r_iconst 2 dX6_overlap_7 (by decide) ?_
        refine r_icmp_ge 71 dX6_overlap_8 (by decide) (fun c8 => absurd c8 (by decide)) (fun c8 => ?_)
        refine r_iload dX6_overlap_11 rfl ?_
        refine r_iconst 1 dX6_overlap_13 (by decide) ?_
        refine r_iadd dX6_overlap_14 ?_
        rw [show (1 : Int32) + 1 = 2 from by decide]
        refine r_istore dX6_overlap_15 (by decide) rfl ?_
        refine r_iload dX6_overlap_17 rfl ?_
        refine r_iconst 3 dX6_overlap_19 (by decide) ?_
        refine r_icmp_ge 65 dX6_overlap_20 (by decide) (fun c20 => absurd c20 (by decide)) (fun c20 => ?_)
        refine r_iload_n dX6_overlap_23 rfl ?_
        refine r_if_eq 57 dX6_overlap_24 (by decide) (fun c24 => ?_) (fun c24 => absurd c24 (by decide))
        refine r_iconst 0 dX6_overlap_57 (by decide) ?_
        refine r_istore_n dX6_overlap_58 (by decide) rfl ?_
        refine r_iinc (3) dX6_overlap_59 rfl (by decide) (by decide) rfl ?_
        refine r_goto 17 dX6_overlap_62 (by decide) ?_
        refine r_iload dX6_overlap_17 rfl ?_
        refine r_iconst 3 dX6_overlap_19 (by decide) ?_
        refine r_icmp_ge 65 dX6_overlap_20 (by decide) (fun c20 => ?_) (fun c20 => absurd c20 (by decide))
        refine r_iinc (2) dX6_overlap_65 rfl (by decide) (by decide) rfl ?_
        refine r_goto 5 dX6_overlap_68 (by decide) ?_
        refine r_iload dX6_overlap_5 rfl ?_
        refine r_iconst 2 dX6_overlap_7 (by decide) ?_
        refine r_icmp_ge 71 dX6_overlap_8 (by decide) (fun c8 => ?_) (fun c8 => absurd c8 (by decide))
        refine r_iload_n dX6_overlap_71 rfl ?_
        exact r_zret hQ rfl ((by decide)) dX6_overlap_72 (roI_of (by rw [ovB, md_rB, md_rB, md_rB, p01, q01, p02]; rfl))
      ·
        replace c37 := bI_t c37
        have p02 := c37
        refine r_aload_n dX6_overlap_40 rfl ?_
        refine r_iload_n dX6_overlap_41 rfl ?_
        refine r_iload_n dX6_overlap_42 rfl ?_
        refine r_iload dX6_overlap_43 rfl ?_
        refine r_iload dX6_overlap_45 rfl ?_
        refine r_callVI (369) hL (ctX6_reachesBelow l Ω _ v hz b a (by omega) (by omega) 0 2 (by omega) (by omega)) kX6_overlap_64 (by omega) ⟨_, _, _, rfl, rfl, rfl⟩ rfl rfl (Nat.le_of_ble_eq_true rfl) dX6_overlap_47 ?_
        refine r_if_eq 57 dX6_overlap_50 (by decide) (fun c50 => ?_) (fun c50 => ?_)
        ·
          replace c50 := bI_f c50
          have q02 := c50
          refine r_iconst 0 dX6_overlap_57 (by decide) ?_
          refine r_istore_n dX6_overlap_58 (by decide) rfl ?_
          refine r_iinc (3) dX6_overlap_59 rfl (by decide) (by decide) rfl ?_
          refine r_goto 17 dX6_overlap_62 (by decide) ?_
          refine r_iload dX6_overlap_17 rfl ?_
          refine r_iconst 3 dX6_overlap_19 (by decide) ?_
          refine r_icmp_ge 65 dX6_overlap_20 (by decide) (fun c20 => ?_) (fun c20 => absurd c20 (by decide))
          refine r_iinc (1) dX6_overlap_65 rfl (by decide) (by decide) rfl ?_
          refine r_goto 5 dX6_overlap_68 (by decide) ?_
          refine r_iload dX6_overlap_5 rfl ?_
          refine r_iconst 2 dX6_overlap_7 (by decide) ?_
          refine r_icmp_ge 71 dX6_overlap_8 (by decide) (fun c8 => absurd c8 (by decide)) (fun c8 => ?_)
          refine r_iload dX6_overlap_11 rfl ?_
          refine r_iconst 1 dX6_overlap_13 (by decide) ?_
          refine r_iadd dX6_overlap_14 ?_
          rw [show (1 : Int32) + 1 = 2 from by decide]
          refine r_istore dX6_overlap_15 (by decide) rfl ?_
          refine r_iload dX6_overlap_17 rfl ?_
          refine r_iconst 3 dX6_overlap_19 (by decide) ?_
          refine r_icmp_ge 65 dX6_overlap_20 (by decide) (fun c20 => absurd c20 (by decide)) (fun c20 => ?_)
          refine r_iload_n dX6_overlap_23 rfl ?_
          refine r_if_eq 57 dX6_overlap_24 (by decide) (fun c24 => ?_) (fun c24 => absurd c24 (by decide))
          refine r_iconst 0 dX6_overlap_57 (by decide) ?_
          refine r_istore_n dX6_overlap_58 (by decide) rfl ?_
          refine r_iinc (3) dX6_overlap_59 rfl (by decide) (by decide) rfl ?_
          refine r_goto 17 dX6_overlap_62 (by decide) ?_
          refine r_iload dX6_overlap_17 rfl ?_
          refine r_iconst 3 dX6_overlap_19 (by decide) ?_
          refine r_icmp_ge 65 dX6_overlap_20 (by decide) (fun c20 => ?_) (fun c20 => absurd c20 (by decide))
          refine r_iinc (2) dX6_overlap_65 rfl (by decide) (by decide) rfl ?_
          refine r_goto 5 dX6_overlap_68 (by decide) ?_
          refine r_iload dX6_overlap_5 rfl ?_
          refine r_iconst 2 dX6_overlap_7 (by decide) ?_
          refine r_icmp_ge 71 dX6_overlap_8 (by decide) (fun c8 => ?_) (fun c8 => absurd c8 (by decide))
          refine r_iload_n dX6_overlap_71 rfl ?_
          exact r_zret hQ rfl ((by decide)) dX6_overlap_72 (roI_of (by rw [ovB, md_rB, md_rB, md_rB, p01, q01, p02, q02]; rfl))
        ·
          replace c50 := bI_t c50
          have q02 := c50
          refine r_iconst 1 dX6_overlap_53 (by decide) ?_
          refine r_goto 58 dX6_overlap_54 (by decide) ?_
          refine r_istore_n dX6_overlap_58 (by decide) rfl ?_
          refine r_iinc (3) dX6_overlap_59 rfl (by decide) (by decide) rfl ?_
          refine r_goto 17 dX6_overlap_62 (by decide) ?_
          refine r_iload dX6_overlap_17 rfl ?_
          refine r_iconst 3 dX6_overlap_19 (by decide) ?_
          refine r_icmp_ge 65 dX6_overlap_20 (by decide) (fun c20 => ?_) (fun c20 => absurd c20 (by decide))
          refine r_iinc (1) dX6_overlap_65 rfl (by decide) (by decide) rfl ?_
          refine r_goto 5 dX6_overlap_68 (by decide) ?_
          refine r_iload dX6_overlap_5 rfl ?_
          refine r_iconst 2 dX6_overlap_7 (by decide) ?_
          refine r_icmp_ge 71 dX6_overlap_8 (by decide) (fun c8 => absurd c8 (by decide)) (fun c8 => ?_)
          refine r_iload dX6_overlap_11 rfl ?_
          refine r_iconst 1 dX6_overlap_13 (by decide) ?_
          refine r_iadd dX6_overlap_14 ?_
          rw [show (1 : Int32) + 1 = 2 from by decide]
          refine r_istore dX6_overlap_15 (by decide) rfl ?_
          refine r_iload dX6_overlap_17 rfl ?_
          refine r_iconst 3 dX6_overlap_19 (by decide) ?_
          refine r_icmp_ge 65 dX6_overlap_20 (by decide) (fun c20 => absurd c20 (by decide)) (fun c20 => ?_)
          refine r_iload_n dX6_overlap_23 rfl ?_
          refine r_if_eq 57 dX6_overlap_24 (by decide) (fun c24 => absurd c24 (by decide)) (fun c24 => ?_)
          refine r_aload_n dX6_overlap_27 rfl ?_
          refine r_iload_n dX6_overlap_28 rfl ?_
          refine r_iload_n dX6_overlap_29 rfl ?_
          refine r_iload dX6_overlap_30 rfl ?_
          refine r_iload dX6_overlap_32 rfl ?_
          refine r_callVI (369) hL (ctX6_reachesBelow l Ω _ v hz a b (by omega) (by omega) 1 2 (by omega) (by omega)) kX6_overlap_64 (by omega) ⟨_, _, _, rfl, rfl, rfl⟩ rfl rfl (Nat.le_of_ble_eq_true rfl) dX6_overlap_34 ?_
          refine r_if_eq 57 dX6_overlap_37 (by decide) (fun c37 => ?_) (fun c37 => ?_)
          ·
            replace c37 := bI_f c37
            have p12 := c37
            refine r_iconst 0 dX6_overlap_57 (by decide) ?_
            refine r_istore_n dX6_overlap_58 (by decide) rfl ?_
            refine r_iinc (3) dX6_overlap_59 rfl (by decide) (by decide) rfl ?_
            refine r_goto 17 dX6_overlap_62 (by decide) ?_
            refine r_iload dX6_overlap_17 rfl ?_
            refine r_iconst 3 dX6_overlap_19 (by decide) ?_
            refine r_icmp_ge 65 dX6_overlap_20 (by decide) (fun c20 => ?_) (fun c20 => absurd c20 (by decide))
            refine r_iinc (2) dX6_overlap_65 rfl (by decide) (by decide) rfl ?_
            refine r_goto 5 dX6_overlap_68 (by decide) ?_
            refine r_iload dX6_overlap_5 rfl ?_
            refine r_iconst 2 dX6_overlap_7 (by decide) ?_
            refine r_icmp_ge 71 dX6_overlap_8 (by decide) (fun c8 => ?_) (fun c8 => absurd c8 (by decide))
            refine r_iload_n dX6_overlap_71 rfl ?_
            exact r_zret hQ rfl ((by decide)) dX6_overlap_72 (roI_of (by rw [ovB, md_rB, md_rB, md_rB, p01, q01, p02, q02, p12]; rfl))
          ·
            replace c37 := bI_t c37
            have p12 := c37
            refine r_aload_n dX6_overlap_40 rfl ?_
            refine r_iload_n dX6_overlap_41 rfl ?_
            refine r_iload_n dX6_overlap_42 rfl ?_
            refine r_iload dX6_overlap_43 rfl ?_
            refine r_iload dX6_overlap_45 rfl ?_
            refine r_callVI (369) hL (ctX6_reachesBelow l Ω _ v hz b a (by omega) (by omega) 1 2 (by omega) (by omega)) kX6_overlap_64 (by omega) ⟨_, _, _, rfl, rfl, rfl⟩ rfl rfl (Nat.le_of_ble_eq_true rfl) dX6_overlap_47 ?_
            refine r_if_eq 57 dX6_overlap_50 (by decide) (fun c50 => ?_) (fun c50 => ?_)
            ·
              replace c50 := bI_f c50
              have q12 := c50
              refine r_iconst 0 dX6_overlap_57 (by decide) ?_
              refine r_istore_n dX6_overlap_58 (by decide) rfl ?_
              refine r_iinc (3) dX6_overlap_59 rfl (by decide) (by decide) rfl ?_
              refine r_goto 17 dX6_overlap_62 (by decide) ?_
              refine r_iload dX6_overlap_17 rfl ?_
              refine r_iconst 3 dX6_overlap_19 (by decide) ?_
              refine r_icmp_ge 65 dX6_overlap_20 (by decide) (fun c20 => ?_) (fun c20 => absurd c20 (by decide))
              refine r_iinc (2) dX6_overlap_65 rfl (by decide) (by decide) rfl ?_
              refine r_goto 5 dX6_overlap_68 (by decide) ?_
              refine r_iload dX6_overlap_5 rfl ?_
              refine r_iconst 2 dX6_overlap_7 (by decide) ?_
              refine r_icmp_ge 71 dX6_overlap_8 (by decide) (fun c8 => ?_) (fun c8 => absurd c8 (by decide))
              refine r_iload_n dX6_overlap_71 rfl ?_
              exact r_zret hQ rfl ((by decide)) dX6_overlap_72 (roI_of (by rw [ovB, md_rB, md_rB, md_rB, p01, q01, p02, q02, p12, q12]; rfl))
            ·
              replace c50 := bI_t c50
              have q12 := c50
              refine r_iconst 1 dX6_overlap_53 (by decide) ?_
              refine r_goto 58 dX6_overlap_54 (by decide) ?_
              refine r_istore_n dX6_overlap_58 (by decide) rfl ?_
              refine r_iinc (3) dX6_overlap_59 rfl (by decide) (by decide) rfl ?_
              refine r_goto 17 dX6_overlap_62 (by decide) ?_
              refine r_iload dX6_overlap_17 rfl ?_
              refine r_iconst 3 dX6_overlap_19 (by decide) ?_
              refine r_icmp_ge 65 dX6_overlap_20 (by decide) (fun c20 => ?_) (fun c20 => absurd c20 (by decide))
              refine r_iinc (2) dX6_overlap_65 rfl (by decide) (by decide) rfl ?_
              refine r_goto 5 dX6_overlap_68 (by decide) ?_
              refine r_iload dX6_overlap_5 rfl ?_
              refine r_iconst 2 dX6_overlap_7 (by decide) ?_
              refine r_icmp_ge 71 dX6_overlap_8 (by decide) (fun c8 => ?_) (fun c8 => absurd c8 (by decide))
              refine r_iload_n dX6_overlap_71 rfl ?_
              exact r_zret hQ rfl ((by decide)) dX6_overlap_72 (roI_of (by rw [ovB, md_rB, md_rB, md_rB, p01, q01, p02, q02, p12, q12]; rfl))
