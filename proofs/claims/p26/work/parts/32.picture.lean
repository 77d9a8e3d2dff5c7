set_option maxRecDepth 100000 in
set_option maxHeartbeats 4000000 in
theorem ctX2_bitsHiddenBy (l : Launch) (Ω : Om) (σ : Sg) (s n : Nat) (hs : s < 7) (hn : n ≤ 16) (hc : σ (iS s) 1 = nI n) (a : Nat) (ha : a < 16) : CtW l yX2_bitsHiddenBy wsX2_bitsHiddenBy (rmD 3) Ω [.ref (ad Ω (iS s)), .int (nI a)] σ (roI (hmS σ s n a) σ) := by
  refine ct_intro [some (.ref (ad Ω (iS s))), some (.int (nI a)), none, none] (by decide) rfl rfl (Nat.le_of_ble_eq_true rfl) (fun Γ hL hQ => ?_)
  show AtW mX2_bitsHiddenBy Γ Ω σ 0 [some (.ref (ad Ω (iS s))), some (.int (nI a)), none, none] []
  refine r_iconst 0 dX2_bitsHiddenBy_0 (by decide) ?_
  refine r_istore_n dX2_bitsHiddenBy_1 (by decide) rfl ?_
  refine r_iconst 0 dX2_bitsHiddenBy_2 (by decide) ?_
  refine r_istore_n dX2_bitsHiddenBy_3 (by decide) rfl ?_
  have L1 : ∀ (N : Nat) (k : Nat) (x : Int32), k ≤ n → x = orI (hdS σ s a) bitI k → n < k + N → AtW mX2_bitsHiddenBy Γ Ω σ 4 [some (.ref (ad Ω (iS s))), some (.int (nI a)), some (.int x), some (.int (nI k))] [] := by
    intro N
    induction N with
    | zero =>
      intro k x hk hx hN
      exact absurd hN (by omega)
    | succ N ih =>
      intro k x hk hx hN
      refine r_iload_n dX2_bitsHiddenBy_4 rfl ?_
      refine r_aload_n dX2_bitsHiddenBy_5 rfl ?_
      refine fX3_1 s hs jX2_bitsHiddenBy_X3 lX2_bitsHiddenBy_24 dX2_bitsHiddenBy_6 ?_
      rw [hc]
      refine r_icmp_ge 48 dX2_bitsHiddenBy_9 (by decide) (fun c9 => ?_) (fun c9 => ?_)
      ·
        replace c9 := Int32.not_lt.mpr c9
        have n9 := Nat.not_lt.mp (fun q => c9 ((nI_ltI (a := k) (b := n) (by omega) (by omega)).mpr q))
        refine r_iload_n dX2_bitsHiddenBy_48 rfl ?_
        have ek : n = k := by omega
        subst ek
        exact r_iret hQ rfl dX2_bitsHiddenBy_49 (roI_of hx)
      ·
        replace c9 := Int32.not_le.mp c9
        have n9 := (nI_ltI (a := k) (b := n) (by omega) (by omega)).mp c9
        refine r_iload_n dX2_bitsHiddenBy_12 rfl ?_
        refine r_iload_n dX2_bitsHiddenBy_13 rfl ?_
        refine r_icmp_eq 42 dX2_bitsHiddenBy_14 (by decide) (fun c14 => ?_) (fun c14 => ?_)
        ·
          have n14 := (nI_eq (a := k) (b := a) (by omega) (by omega)).mp c14
          refine r_iinc (nI (k + 1)) dX2_bitsHiddenBy_42 rfl (nI_1 k) (by decide) rfl ?_
          refine r_goto 4 dX2_bitsHiddenBy_45 (by decide) ?_
          exact ih (k + 1) _ (by omega) (by rw [orI, if_neg (by simp [hdS, n14]), hx]) (by omega)
        ·
          have n14 : ¬ k = a := fun q => c14 ((nI_eq (a := k) (b := a) (by omega) (by omega)).mpr q)
          refine r_aload_n dX2_bitsHiddenBy_17 rfl ?_
          refine fX3_0 s hs jX2_bitsHiddenBy_X3 lX2_bitsHiddenBy_42 dX2_bitsHiddenBy_18 ?_
          refine r_iload_n dX2_bitsHiddenBy_21 rfl ?_
          refine r_aaldB s hs a rfl (by omega) dX2_bitsHiddenBy_22 ?_
          refine r_aload_n dX2_bitsHiddenBy_23 rfl ?_
          refine fX3_0 s hs jX2_bitsHiddenBy_X3 lX2_bitsHiddenBy_42 dX2_bitsHiddenBy_24 ?_
          refine r_iload_n dX2_bitsHiddenBy_27 rfl ?_
          refine r_aaldB s hs k rfl (by omega) dX2_bitsHiddenBy_28 ?_
          refine r_callVI (iBo (bx s a)) hL (ctX0_directionOfHiding l Ω _ (bx s a) (bx s k) (bx_lt hs (by omega)) (bx_lt hs (by omega))) kX2_bitsHiddenBy_46 (iB_lt (bx_lt hs (by omega))) ⟨_, _, _, cel_box (bx_lt hs (by omega)), rfl, rfl⟩ rfl rfl (Nat.le_of_ble_eq_true rfl) dX2_bitsHiddenBy_29 ?_
          refine r_iconst (-1) dX2_bitsHiddenBy_32 (by decide) ?_
          refine r_icmp_eq 42 dX2_bitsHiddenBy_33 (by decide) (fun c33 => ?_) (fun c33 => ?_)
          ·
            refine r_iinc (nI (k + 1)) dX2_bitsHiddenBy_42 rfl (nI_1 k) (by decide) rfl ?_
            refine r_goto 4 dX2_bitsHiddenBy_45 (by decide) ?_
            exact ih (k + 1) _ (by omega) (by rw [orI, if_neg (by simp [hdS, c33]), hx]) (by omega)
          ·
            refine r_iload_n dX2_bitsHiddenBy_36 rfl ?_
            refine r_iconst 1 dX2_bitsHiddenBy_37 (by decide) ?_
            refine r_iload_n dX2_bitsHiddenBy_38 rfl ?_
            refine r_ishl dX2_bitsHiddenBy_39 ?_
            refine r_ior dX2_bitsHiddenBy_40 ?_
            refine r_istore_n dX2_bitsHiddenBy_41 (by decide) rfl ?_
            refine r_iinc (nI (k + 1)) dX2_bitsHiddenBy_42 rfl (nI_1 k) (by decide) rfl ?_
            refine r_goto 4 dX2_bitsHiddenBy_45 (by decide) ?_
            exact ih (k + 1) _ (by omega) (by rw [orI, if_pos (by simp [hdS, n14, c33]), hx]; rfl) (by omega)
  exact L1 (n + 1) 0 _ (by omega) rfl (by omega)

set_option maxRecDepth 100000 in
set_option maxHeartbeats 4000000 in
theorem ctX2_layerAbove (l : Launch) (Ω : Om) (σ : Sg) (p n : Nat) (hp : p < 2) (hn : n ≤ 16) (hpc : σ (iP p) 0 = nI n) (y : Int32) : CtW l yX2_layerAbove wsX2_layerAbove (rmD 1) Ω [.ref (ad Ω (iP p)), .int y] σ (roI (layA (σ (iP p + 4)) y n) σ) := by
  refine ct_intro [some (.ref (ad Ω (iP p))), some (.int y), none, none] (by decide) rfl rfl (Nat.le_of_ble_eq_true rfl) (fun Γ hL hQ => ?_)
  show AtW mX2_layerAbove Γ Ω σ 0 [some (.ref (ad Ω (iP p))), some (.int y), none, none] []
  refine r_iconst 0 dX2_layerAbove_0 (by decide) ?_
  refine r_istore_n dX2_layerAbove_1 (by decide) rfl ?_
  refine r_iconst 0 dX2_layerAbove_2 (by decide) ?_
  refine r_istore_n dX2_layerAbove_3 (by decide) rfl ?_
  have L1 : ∀ (N : Nat) (k : Nat) (x : Int32), k ≤ n → x = layA (σ (iP p + 4)) y k → n < k + N → AtW mX2_layerAbove Γ Ω σ 4 [some (.ref (ad Ω (iP p))), some (.int y), some (.int x), some (.int (nI k))] [] := by
    intro N
    induction N with
    | zero =>
      intro k x hk hx hN
      exact absurd hN (by omega)
    | succ N ih =>
      intro k x hk hx hN
      refine r_iload_n dX2_layerAbove_4 rfl ?_
      refine r_aload_n dX2_layerAbove_5 rfl ?_
      refine fX2_0 p hp jX2_layerAbove_X2 lX2_layerAbove_30 dX2_layerAbove_6 ?_
      rw [hpc]
      refine r_icmp_ge 39 dX2_layerAbove_9 (by decide) (fun c9 => ?_) (fun c9 => ?_)
      ·
        replace c9 := Int32.not_lt.mpr c9
        have n9 := Nat.not_lt.mp (fun q => c9 ((nI_ltI (a := k) (b := n) (by omega) (by omega)).mpr q))
        refine r_iload_n dX2_layerAbove_39 rfl ?_
        have ek : n = k := by omega
        subst ek
        exact r_iret hQ rfl dX2_layerAbove_40 (roI_of hx)
      ·
        replace c9 := Int32.not_le.mp c9
        have n9 := (nI_ltI (a := k) (b := n) (by omega) (by omega)).mp c9
        refine r_iload_n dX2_layerAbove_12 rfl ?_
        refine r_iload_n dX2_layerAbove_13 rfl ?_
        refine r_callSI hL (ctX2_hasBit l Ω _ _ k (by omega)) kX2_layerAbove_58 rfl rfl (Nat.le_of_ble_eq_true rfl) dX2_layerAbove_14 ?_
        refine r_if_eq 33 dX2_layerAbove_17 (by decide) (fun c17 => ?_) (fun c17 => ?_)
        ·
          replace c17 := bI_f c17
          refine r_iinc (nI (k + 1)) dX2_layerAbove_33 rfl (nI_1 k) (by decide) rfl ?_
          refine r_goto 4 dX2_layerAbove_36 (by decide) ?_
          exact ih (k + 1) _ (by omega) (by rw [layA, if_neg (by simp [c17]), hx]) (by omega)
        ·
          replace c17 := bI_t c17
          refine r_iload_n dX2_layerAbove_20 rfl ?_
          refine r_aload_n dX2_layerAbove_21 rfl ?_
          refine fX2_6 p hp jX2_layerAbove_X2 lX2_layerAbove_21 dX2_layerAbove_22 ?_
          refine r_iload_n dX2_layerAbove_25 rfl ?_
          refine ldP4 p hp k rfl (by omega) dX2_layerAbove_26 ?_
          refine r_iconst 1 dX2_layerAbove_27 (by decide) ?_
          refine r_iadd dX2_layerAbove_28 ?_
          refine r_mmax 85 (by decide +kernel) (by decide +kernel) (by decide +kernel) (by decide +kernel) (by decide) (Nat.le_of_ble_eq_true rfl) dX2_layerAbove_29 ?_
          refine r_istore_n dX2_layerAbove_32 (by decide) rfl ?_
          refine r_iinc (nI (k + 1)) dX2_layerAbove_33 rfl (nI_1 k) (by decide) rfl ?_
          refine r_goto 4 dX2_layerAbove_36 (by decide) ?_
          exact ih (k + 1) _ (by omega) (by rw [layA, if_pos c17, hx]) (by omega)
  exact L1 (n + 1) 0 _ (by omega) rfl (by omega)

set_option maxRecDepth 100000 in
set_option maxHeartbeats 4000000 in
theorem ctX2_hiddenBy (l : Launch) (Ω : Om) (σ : Sg) (p k : Nat) (hp : p < 2) (hk : k < 16) : CtW l yX2_hiddenBy wsX2_hiddenBy (rmD 1) Ω [.ref (ad Ω (iP p)), .int (nI k)] σ (roI (bcI (σ (iP p + 1) k)) σ) := by
  refine ct_intro [some (.ref (ad Ω (iP p))), some (.int (nI k))] (by decide) rfl rfl (Nat.le_of_ble_eq_true rfl) (fun Γ hL hQ => ?_)
  show AtW mX2_hiddenBy Γ Ω σ 0 [some (.ref (ad Ω (iP p))), some (.int (nI k))] []
  refine r_aload_n dX2_hiddenBy_0 rfl ?_
  refine fX2_1 p hp jX2_hiddenBy_X2 lX2_hiddenBy_9 dX2_hiddenBy_1 ?_
  refine r_iload_n dX2_hiddenBy_4 rfl ?_
  refine ldP1 p hp k rfl (by omega) dX2_hiddenBy_5 ?_
  refine r_callSI hL (ctJ6_bitCount_0f7a4 l Ω _ _) kX2_hiddenBy_91 rfl rfl (Nat.le_of_ble_eq_true rfl) dX2_hiddenBy_6 ?_
  exact r_iret hQ rfl dX2_hiddenBy_9 (roI_of rfl)

set_option maxRecDepth 100000 in
set_option maxHeartbeats 4000000 in
theorem ctX2_hidersOf (l : Launch) (Ω : Om) (σ : Sg) (p n : Nat) (hp : p < 2) (hn : n ≤ 16) (hpc : σ (iP p) 0 = nI n) (a : Nat) (ha : a < 16) : CtW l yX2_hidersOf wsX2_hidersOf (rmD 1) Ω [.ref (ad Ω (iP p)), .int (nI a)] σ (roI (cntI (fun k => hasB (σ (iP p + 1) k) a) n) σ) := by
  refine ct_intro [some (.ref (ad Ω (iP p))), some (.int (nI a)), none, none] (by decide) rfl rfl (Nat.le_of_ble_eq_true rfl) (fun Γ hL hQ => ?_)
  show AtW mX2_hidersOf Γ Ω σ 0 [some (.ref (ad Ω (iP p))), some (.int (nI a)), none, none] []
  refine r_iconst 0 dX2_hidersOf_0 (by decide) ?_
  refine r_istore_n dX2_hidersOf_1 (by decide) rfl ?_
  refine r_iconst 0 dX2_hidersOf_2 (by decide) ?_
  refine r_istore_n dX2_hidersOf_3 (by decide) rfl ?_
  have L1 : ∀ (N : Nat) (k : Nat) (x : Int32), k ≤ n → x = cntI (fun k => hasB (σ (iP p + 1) k) a) k → n < k + N → AtW mX2_hidersOf Γ Ω σ 4 [some (.ref (ad Ω (iP p))), some (.int (nI a)), some (.int x), some (.int (nI k))] [] := by
    intro N
    induction N with
    | zero =>
      intro k x hk hx hN
      exact absurd hN (by omega)
    | succ N ih =>
      intro k x hk hx hN
      refine r_iload_n dX2_hidersOf_4 rfl ?_
      refine r_aload_n dX2_hidersOf_5 rfl ?_
      refine fX2_0 p hp jX2_hidersOf_X2 lX2_hidersOf_30 dX2_hidersOf_6 ?_
      rw [hpc]
      refine r_icmp_ge 34 dX2_hidersOf_9 (by decide) (fun c9 => ?_) (fun c9 => ?_)
      ·
        replace c9 := Int32.not_lt.mpr c9
        have n9 := Nat.not_lt.mp (fun q => c9 ((nI_ltI (a := k) (b := n) (by omega) (by omega)).mpr q))
        refine r_iload_n dX2_hidersOf_34 rfl ?_
        have ek : n = k := by omega
        subst ek
        exact r_iret hQ rfl dX2_hidersOf_35 (roI_of hx)
      ·
        replace c9 := Int32.not_le.mp c9
        have n9 := (nI_ltI (a := k) (b := n) (by omega) (by omega)).mp c9
        refine r_aload_n dX2_hidersOf_12 rfl ?_
        refine fX2_1 p hp jX2_hidersOf_X2 lX2_hidersOf_9 dX2_hidersOf_13 ?_
        refine r_iload_n dX2_hidersOf_16 rfl ?_
        refine ldP1 p hp k rfl (by omega) dX2_hidersOf_17 ?_
        refine r_iload_n dX2_hidersOf_18 rfl ?_
        refine r_callSI hL (ctX2_hasBit l Ω _ _ a (by omega)) kX2_hidersOf_58 rfl rfl (Nat.le_of_ble_eq_true rfl) dX2_hidersOf_19 ?_
        refine r_if_eq 28 dX2_hidersOf_22 (by decide) (fun c22 => ?_) (fun c22 => ?_)
        ·
          replace c22 := bI_f c22
          refine r_iinc (nI (k + 1)) dX2_hidersOf_28 rfl (nI_1 k) (by decide) rfl ?_
          refine r_goto 4 dX2_hidersOf_31 (by decide) ?_
          exact ih (k + 1) _ (by omega) (by rw [cntI, if_neg (by simp [c22]), hx]) (by omega)
        ·
          replace c22 := bI_t c22
          refine r_iinc (_) dX2_hidersOf_25 rfl (rfl) (by decide) rfl ?_
          refine r_iinc (nI (k + 1)) dX2_hidersOf_28 rfl (nI_1 k) (by decide) rfl ?_
          refine r_goto 4 dX2_hidersOf_31 (by decide) ?_
          exact ih (k + 1) _ (by omega) (by rw [cntI, if_pos c22, hx]; rfl) (by omega)
  exact L1 (n + 1) 0 _ (by omega) rfl (by omega)

set_option maxRecDepth 100000 in
set_option maxHeartbeats 4000000 in
theorem ctX2_hidings (l : Launch) (Ω : Om) (σ : Sg) (p n : Nat) (hp : p < 2) (hn : n ≤ 16) (hpc : σ (iP p) 0 = nI n) : CtW l yX2_hidings wsX2_hidings (rmD 2) Ω [.ref (ad Ω (iP p))] σ (roI (sumI (fun k => bcI (σ (iP p + 1) k)) n) σ) := by
  refine ct_intro [some (.ref (ad Ω (iP p))), none, none] (by decide) rfl rfl (Nat.le_of_ble_eq_true rfl) (fun Γ hL hQ => ?_)
  show AtW mX2_hidings Γ Ω σ 0 [some (.ref (ad Ω (iP p))), none, none] []
  refine r_iconst 0 dX2_hidings_0 (by decide) ?_
  refine r_istore_n dX2_hidings_1 (by decide) rfl ?_
  refine r_iconst 0 dX2_hidings_2 (by decide) ?_
  refine r_istore_n dX2_hidings_3 (by decide) rfl ?_
  have L1 : ∀ (N : Nat) (k : Nat) (x : Int32), k ≤ n → x = sumI (fun k => bcI (σ (iP p + 1) k)) k → n < k + N → AtW mX2_hidings Γ Ω σ 4 [some (.ref (ad Ω (iP p))), some (.int x), some (.int (nI k))] [] := by
    intro N
    induction N with
    | zero =>
      intro k x hk hx hN
      exact absurd hN (by omega)
    | succ N ih =>
      intro k x hk hx hN
      refine r_iload_n dX2_hidings_4 rfl ?_
      refine r_aload_n dX2_hidings_5 rfl ?_
      refine fX2_0 p hp jX2_hidings_X2 lX2_hidings_30 dX2_hidings_6 ?_
      rw [hpc]
      refine r_icmp_ge 26 dX2_hidings_9 (by decide) (fun c9 => ?_) (fun c9 => ?_)
      ·
        replace c9 := Int32.not_lt.mpr c9
        have n9 := Nat.not_lt.mp (fun q => c9 ((nI_ltI (a := k) (b := n) (by omega) (by omega)).mpr q))
        refine r_iload_n dX2_hidings_26 rfl ?_
        have ek : n = k := by omega
        subst ek
        exact r_iret hQ rfl dX2_hidings_27 (roI_of hx)
      ·
        replace c9 := Int32.not_le.mp c9
        have n9 := (nI_ltI (a := k) (b := n) (by omega) (by omega)).mp c9
        refine r_iload_n dX2_hidings_12 rfl ?_
        refine r_aload_n dX2_hidings_13 rfl ?_
        refine r_iload_n dX2_hidings_14 rfl ?_
        refine r_callVI (iP p) hL (ctX2_hiddenBy l Ω _ p k hp (by omega)) kX2_hidings_96 (iP_lt hp) ⟨_, _, _, cel_pic hp, rfl, rfl⟩ rfl rfl (Nat.le_of_ble_eq_true rfl) dX2_hidings_15 ?_
        refine r_iadd dX2_hidings_18 ?_
        refine r_istore_n dX2_hidings_19 (by decide) rfl ?_
        refine r_iinc (nI (k + 1)) dX2_hidings_20 rfl (nI_1 k) (by decide) rfl ?_
        refine r_goto 4 dX2_hidings_23 (by decide) ?_
        exact ih (k + 1) _ (by omega) (by rw [hx]; rfl) (by omega)
  exact L1 (n + 1) 0 _ (by omega) rfl (by omega)

set_option maxRecDepth 100000 in
set_option maxHeartbeats 4000000 in
theorem ctX2_hidingsNotIn (l : Launch) (Ω : Om) (σ : Sg) (p n : Nat) (hp : p < 2) (hn : n ≤ 16) (hpc : σ (iP p) 0 = nI n) (q : Nat) (hq : q < 2) : CtW l yX2_hidingsNotIn wsX2_hidingsNotIn (rmD 1) Ω [.ref (ad Ω (iP p)), .ref (ad Ω (iP q))] σ (roI (sumI (fun k => bcI (σ (iP p + 1) k &&& (σ (iP q + 1) k ^^^ -1))) n) σ) := by
  refine ct_intro [some (.ref (ad Ω (iP p))), some (.ref (ad Ω (iP q))), none, none] (by decide) rfl rfl (Nat.le_of_ble_eq_true rfl) (fun Γ hL hQ => ?_)
  show AtW mX2_hidingsNotIn Γ Ω σ 0 [some (.ref (ad Ω (iP p))), some (.ref (ad Ω (iP q))), none, none] []
  refine r_iconst 0 dX2_hidingsNotIn_0 (by decide) ?_
  refine r_istore_n dX2_hidingsNotIn_1 (by decide) rfl ?_
  refine r_iconst 0 dX2_hidingsNotIn_2 (by decide) ?_
  refine r_istore_n dX2_hidingsNotIn_3 (by decide) rfl ?_
  have L1 : ∀ (N : Nat) (k : Nat) (x : Int32), k ≤ n → x = sumI (fun k => bcI (σ (iP p + 1) k &&& (σ (iP q + 1) k ^^^ -1))) k → n < k + N → AtW mX2_hidingsNotIn Γ Ω σ 4 [some (.ref (ad Ω (iP p))), some (.ref (ad Ω (iP q))), some (.int x), some (.int (nI k))] [] := by
    intro N
    induction N with
    | zero =>
      intro k x hk hx hN
      exact absurd hN (by omega)
    | succ N ih =>
      intro k x hk hx hN
      refine r_iload_n dX2_hidingsNotIn_4 rfl ?_
      refine r_aload_n dX2_hidingsNotIn_5 rfl ?_
      refine fX2_0 p hp jX2_hidingsNotIn_X2 lX2_hidingsNotIn_30 dX2_hidingsNotIn_6 ?_
      rw [hpc]
      refine r_icmp_ge 39 dX2_hidingsNotIn_9 (by decide) (fun c9 => ?_) (fun c9 => ?_)
      ·
        replace c9 := Int32.not_lt.mpr c9
        have n9 := Nat.not_lt.mp (fun q => c9 ((nI_ltI (a := k) (b := n) (by omega) (by omega)).mpr q))
        refine r_iload_n dX2_hidingsNotIn_39 rfl ?_
        have ek : n = k := by omega
        subst ek
        exact r_iret hQ rfl dX2_hidingsNotIn_40 (roI_of hx)
      ·
        replace c9 := Int32.not_le.mp c9
        have n9 := (nI_ltI (a := k) (b := n) (by omega) (by omega)).mp c9
        refine r_iload_n dX2_hidingsNotIn_12 rfl ?_
        refine r_aload_n dX2_hidingsNotIn_13 rfl ?_
        refine fX2_1 p hp jX2_hidingsNotIn_X2 lX2_hidingsNotIn_9 dX2_hidingsNotIn_14 ?_
        refine r_iload_n dX2_hidingsNotIn_17 rfl ?_
        refine ldP1 p hp k rfl (by omega) dX2_hidingsNotIn_18 ?_
        refine r_aload_n dX2_hidingsNotIn_19 rfl ?_
        refine fX2_1 q hq jX2_hidingsNotIn_X2 lX2_hidingsNotIn_9 dX2_hidingsNotIn_20 ?_
        refine r_iload_n dX2_hidingsNotIn_23 rfl ?_
        refine ldP1 q hq k rfl (by omega) dX2_hidingsNotIn_24 ?_
        refine r_iconst (-1) dX2_hidingsNotIn_25 (by decide) ?_
        refine r_ixor dX2_hidingsNotIn_26 ?_
        refine r_iand dX2_hidingsNotIn_27 ?_
        refine r_callSI hL (ctJ6_bitCount_0f7a4 l Ω _ _) kX2_hidingsNotIn_91 rfl rfl (Nat.le_of_ble_eq_true rfl) dX2_hidingsNotIn_28 ?_
        refine r_iadd dX2_hidingsNotIn_31 ?_
        refine r_istore_n dX2_hidingsNotIn_32 (by decide) rfl ?_
        refine r_iinc (nI (k + 1)) dX2_hidingsNotIn_33 rfl (nI_1 k) (by decide) rfl ?_
        refine r_goto 4 dX2_hidingsNotIn_36 (by decide) ?_
        exact ih (k + 1) _ (by omega) (by rw [hx]; rfl) (by omega)
  exact L1 (n + 1) 0 _ (by omega) rfl (by omega)

set_option maxRecDepth 100000 in
set_option maxHeartbeats 4000000 in
theorem ctX2_slotDrawn (l : Launch) (Ω : Om) (σ : Sg) (p m : Nat) (hp : p < 2) (hm : m ≤ 16) (hpd : σ (iP p) 5 = nI m) (x : Int32) : CtW l yX2_slotDrawn wsX2_slotDrawn (rmD 0) Ω [.ref (ad Ω (iP p)), .int x] σ (roI (if x < 0 ∨ nI m ≤ x then -1 else σ (iP p + 3) x.toNatClampNeg) σ) := by
  refine ct_intro [some (.ref (ad Ω (iP p))), some (.int x)] (by decide) rfl rfl (Nat.le_of_ble_eq_true rfl) (fun Γ hL hQ => ?_)
  show AtW mX2_slotDrawn Γ Ω σ 0 [some (.ref (ad Ω (iP p))), some (.int x)] []
  refine r_iload_n dX2_slotDrawn_0 rfl ?_
  refine r_if_lt 21 dX2_slotDrawn_1 (by decide) (fun c1 => ?_) (fun c1 => ?_)
  ·
    refine r_iconst (-1) dX2_slotDrawn_21 (by decide) ?_
    exact r_iret hQ rfl dX2_slotDrawn_22 (roI_of (by simp [c1]))
  ·
    refine r_iload_n dX2_slotDrawn_4 rfl ?_
    refine r_aload_n dX2_slotDrawn_5 rfl ?_
    refine fX2_5 p hp jX2_slotDrawn_X2 lX2_slotDrawn_71 dX2_slotDrawn_6 ?_
    rw [hpd]
    refine r_icmp_ge 21 dX2_slotDrawn_9 (by decide) (fun c9 => ?_) (fun c9 => ?_)
    ·
      replace c9 := Int32.not_lt.mpr c9
      refine r_iconst (-1) dX2_slotDrawn_21 (by decide) ?_
      exact r_iret hQ rfl dX2_slotDrawn_22 (roI_of (by rw [if_pos (Or.inr (Int32.not_lt.mp c9))]))
    ·
      replace c9 := Int32.not_le.mp c9
      obtain ⟨j, hj, rfl⟩ := slot_ix c1 c9 (by omega)
      refine r_aload_n dX2_slotDrawn_12 rfl ?_
      refine fX2_3 p hp jX2_slotDrawn_X2 lX2_slotDrawn_18 dX2_slotDrawn_13 ?_
      refine r_iload_n dX2_slotDrawn_16 rfl ?_
      refine ldP3 p hp j rfl (by omega) dX2_slotDrawn_17 ?_
      refine r_goto 22 dX2_slotDrawn_18 (by decide) ?_
      exact r_iret hQ rfl dX2_slotDrawn_22 (roI_of (by rw [if_neg (by rintro (q | q); exact c1 q; exact Int32.not_le.mpr c9 q), nI_clamp (by omega)]))

set_option maxRecDepth 100000 in
set_option maxHeartbeats 4000000 in
theorem ctX2_greatestLayer (l : Launch) (Ω : Om) (σ : Sg) (p n : Nat) (hp : p < 2) (hn : n ≤ 16) (hpc : σ (iP p) 0 = nI n) : CtW l yX2_greatestLayer wsX2_greatestLayer (rmD 1) Ω [.ref (ad Ω (iP p))] σ (roI (glI (σ (iP p + 4)) n) σ) := by
  refine ct_intro [some (.ref (ad Ω (iP p))), none, none] (by decide) rfl rfl (Nat.le_of_ble_eq_true rfl) (fun Γ hL hQ => ?_)
  show AtW mX2_greatestLayer Γ Ω σ 0 [some (.ref (ad Ω (iP p))), none, none] []
  refine r_bipush (-5) dX2_greatestLayer_0 (by decide) ?_
  refine r_istore_n dX2_greatestLayer_2 (by decide) rfl ?_
  refine r_iconst 0 dX2_greatestLayer_3 (by decide) ?_
  refine r_istore_n dX2_greatestLayer_4 (by decide) rfl ?_
  have L1 : ∀ (N : Nat) (k : Nat) (x : Int32), k ≤ n → x = glI (σ (iP p + 4)) k → n < k + N → AtW mX2_greatestLayer Γ Ω σ 5 [some (.ref (ad Ω (iP p))), some (.int x), some (.int (nI k))] [] := by
    intro N
    induction N with
    | zero =>
      intro k x hk hx hN
      exact absurd hN (by omega)
    | succ N ih =>
      intro k x hk hx hN
      refine r_iload_n dX2_greatestLayer_5 rfl ?_
      refine r_aload_n dX2_greatestLayer_6 rfl ?_
      refine fX2_0 p hp jX2_greatestLayer_X2 lX2_greatestLayer_30 dX2_greatestLayer_7 ?_
      rw [hpc]
      refine r_icmp_ge 30 dX2_greatestLayer_10 (by decide) (fun c10 => ?_) (fun c10 => ?_)
      ·
        replace c10 := Int32.not_lt.mpr c10
        have n10 := Nat.not_lt.mp (fun q => c10 ((nI_ltI (a := k) (b := n) (by omega) (by omega)).mpr q))
        refine r_iload_n dX2_greatestLayer_30 rfl ?_
        have ek : n = k := by omega
        subst ek
        exact r_iret hQ rfl dX2_greatestLayer_31 (roI_of hx)
      ·
        replace c10 := Int32.not_le.mp c10
        have n10 := (nI_ltI (a := k) (b := n) (by omega) (by omega)).mp c10
        refine r_iload_n dX2_greatestLayer_13 rfl ?_
        refine r_aload_n dX2_greatestLayer_14 rfl ?_
        refine fX2_6 p hp jX2_greatestLayer_X2 lX2_greatestLayer_21 dX2_greatestLayer_15 ?_
        refine r_iload_n dX2_greatestLayer_18 rfl ?_
        refine ldP4 p hp k rfl (by omega) dX2_greatestLayer_19 ?_
        refine r_mmax 85 (by decide +kernel) (by decide +kernel) (by decide +kernel) (by decide +kernel) (by decide) (Nat.le_of_ble_eq_true rfl) dX2_greatestLayer_20 ?_
        refine r_istore_n dX2_greatestLayer_23 (by decide) rfl ?_
        refine r_iinc (nI (k + 1)) dX2_greatestLayer_24 rfl (nI_1 k) (by decide) rfl ?_
        refine r_goto 5 dX2_greatestLayer_27 (by decide) ?_
        exact ih (k + 1) _ (by omega) (by rw [hx]; rfl) (by omega)
  exact L1 (n + 1) 0 _ (by omega) rfl (by omega)

set_option maxRecDepth 100000 in
set_option maxHeartbeats 4000000 in
theorem ctX2_firstNotDrawnUnder (l : Launch) (Ω : Om) (σ : Sg) (p n : Nat) (hp : p < 2) (hn : n ≤ 16) (hpc : σ (iP p) 0 = nI n) (a : Nat) (ha : a < 16) : CtW l yX2_firstNotDrawnUnder wsX2_firstNotDrawnUnder (rmD 1) Ω [.ref (ad Ω (iP p)), .int (nI a)] σ (roI (fI (fun j => hasB (σ (iP p + 1) a) j && !hasB (σ (iP p) 4) j) n) σ) := by
  refine ct_intro [some (.ref (ad Ω (iP p))), some (.int (nI a)), none] (by decide) rfl rfl (Nat.le_of_ble_eq_true rfl) (fun Γ hL hQ => ?_)
  show AtW mX2_firstNotDrawnUnder Γ Ω σ 0 [some (.ref (ad Ω (iP p))), some (.int (nI a)), none] []
  refine r_iconst 0 dX2_firstNotDrawnUnder_0 (by decide) ?_
  refine r_istore_n dX2_firstNotDrawnUnder_1 (by decide) rfl ?_
  have L1 : ∀ (N : Nat) (k : Nat), k ≤ n → (∀ j, j < k → (fun j => hasB (σ (iP p + 1) a) j && !hasB (σ (iP p) 4) j) j = false) → n < k + N → AtW mX2_firstNotDrawnUnder Γ Ω σ 2 [some (.ref (ad Ω (iP p))), some (.int (nI a)), some (.int (nI k))] [] := by
    intro N
    induction N with
    | zero =>
      intro k hk hq hN
      exact absurd hN (by omega)
    | succ N ih =>
      intro k hk hq hN
      refine r_iload_n dX2_firstNotDrawnUnder_2 rfl ?_
      refine r_aload_n dX2_firstNotDrawnUnder_3 rfl ?_
      refine fX2_0 p hp jX2_firstNotDrawnUnder_X2 lX2_firstNotDrawnUnder_30 dX2_firstNotDrawnUnder_4 ?_
      rw [hpc]
      refine r_icmp_ge 42 dX2_firstNotDrawnUnder_7 (by decide) (fun c7 => ?_) (fun c7 => ?_)
      ·
        replace c7 := Int32.not_lt.mpr c7
        have n7 := Nat.not_lt.mp (fun q => c7 ((nI_ltI (a := k) (b := n) (by omega) (by omega)).mpr q))
        refine r_iconst (-1) dX2_firstNotDrawnUnder_42 (by decide) ?_
        have ek : n = k := by omega
        subst ek
        exact r_iret hQ rfl dX2_firstNotDrawnUnder_43 (roI_of (by rw [fI_none hq]))
      ·
        replace c7 := Int32.not_le.mp c7
        have n7 := (nI_ltI (a := k) (b := n) (by omega) (by omega)).mp c7
        refine r_aload_n dX2_firstNotDrawnUnder_10 rfl ?_
        refine fX2_1 p hp jX2_firstNotDrawnUnder_X2 lX2_firstNotDrawnUnder_9 dX2_firstNotDrawnUnder_11 ?_
        refine r_iload_n dX2_firstNotDrawnUnder_14 rfl ?_
        refine ldP1 p hp a rfl (by omega) dX2_firstNotDrawnUnder_15 ?_
        refine r_iload_n dX2_firstNotDrawnUnder_16 rfl ?_
        refine r_callSI hL (ctX2_hasBit l Ω _ _ k (by omega)) kX2_firstNotDrawnUnder_58 rfl rfl (Nat.le_of_ble_eq_true rfl) dX2_firstNotDrawnUnder_17 ?_
        refine r_if_eq 36 dX2_firstNotDrawnUnder_20 (by decide) (fun c20 => ?_) (fun c20 => ?_)
        ·
          replace c20 := bI_f c20
          refine r_iinc (nI (k + 1)) dX2_firstNotDrawnUnder_36 rfl (nI_1 k) (by decide) rfl ?_
          refine r_goto 2 dX2_firstNotDrawnUnder_39 (by decide) ?_
          exact ih (k + 1) (by omega) (lt_s hq (by simp [c20])) (by omega)
        ·
          replace c20 := bI_t c20
          refine r_aload_n dX2_firstNotDrawnUnder_23 rfl ?_
          refine fX2_4 p hp jX2_firstNotDrawnUnder_X2 lX2_firstNotDrawnUnder_68 dX2_firstNotDrawnUnder_24 ?_
          refine r_iload_n dX2_firstNotDrawnUnder_27 rfl ?_
          refine r_callSI hL (ctX2_hasBit l Ω _ _ k (by omega)) kX2_firstNotDrawnUnder_58 rfl rfl (Nat.le_of_ble_eq_true rfl) dX2_firstNotDrawnUnder_28 ?_
          refine r_if_ne 36 dX2_firstNotDrawnUnder_31 (by decide) (fun c31 => ?_) (fun c31 => ?_)
          ·
            replace c31 := bI_t c31
            refine r_iinc (nI (k + 1)) dX2_firstNotDrawnUnder_36 rfl (nI_1 k) (by decide) rfl ?_
            refine r_goto 2 dX2_firstNotDrawnUnder_39 (by decide) ?_
            exact ih (k + 1) (by omega) (lt_s hq (by simp [c31])) (by omega)
          ·
            replace c31 := bI_f c31
            refine r_iload_n dX2_firstNotDrawnUnder_34 rfl ?_
            exact r_iret hQ rfl dX2_firstNotDrawnUnder_35 (roI_of (by rw [fI_hit hq (by simp [c20, c31]) n7]))
  exact L1 (n + 1) 0 (by omega) (fun j hj => absurd hj (by omega)) (by omega)

set_option maxRecDepth 100000 in
set_option maxHeartbeats 4000000 in
theorem ctX2_isInRing (l : Launch) (Ω : Om) (σ : Sg) (p k : Nat) (hp : p < 2) (hk : k < 16) : CtW l yX2_isInRing wsX2_isInRing (rmD 1) Ω [.ref (ad Ω (iP p)), .int (nI k)] σ (roI (bI (hasB (σ (iP p + 2) k) k)) σ) := by
  refine ct_intro [some (.ref (ad Ω (iP p))), some (.int (nI k))] (by decide) rfl rfl (Nat.le_of_ble_eq_true rfl) (fun Γ hL hQ => ?_)
  show AtW mX2_isInRing Γ Ω σ 0 [some (.ref (ad Ω (iP p))), some (.int (nI k))] []
  refine r_aload_n dX2_isInRing_0 rfl ?_
  refine fX2_2 p hp jX2_isInRing_X2 lX2_isInRing_15 dX2_isInRing_1 ?_
  refine r_iload_n dX2_isInRing_4 rfl ?_
  refine ldP2 p hp k rfl (by omega) dX2_isInRing_5 ?_
  refine r_iload_n dX2_isInRing_6 rfl ?_
  refine r_callSI hL (ctX2_hasBit l Ω _ _ k (by omega)) kX2_isInRing_58 rfl rfl (Nat.le_of_ble_eq_true rfl) dX2_isInRing_7 ?_
  exact r_zret hQ rfl (bI_01 _) dX2_isInRing_10 (roI_of rfl)

set_option maxRecDepth 100000 in
set_option maxHeartbeats 4000000 in
theorem ctX2_boxesInRings (l : Launch) (Ω : Om) (σ : Sg) (p n : Nat) (hp : p < 2) (hn : n ≤ 16) (hpc : σ (iP p) 0 = nI n) : CtW l yX2_boxesInRings wsX2_boxesInRings (rmD 2) Ω [.ref (ad Ω (iP p))] σ (roI (cntI (fun k => hasB (σ (iP p + 2) k) k) n) σ) := by
  refine ct_intro [some (.ref (ad Ω (iP p))), none, none] (by decide) rfl rfl (Nat.le_of_ble_eq_true rfl) (fun Γ hL hQ => ?_)
  show AtW mX2_boxesInRings Γ Ω σ 0 [some (.ref (ad Ω (iP p))), none, none] []
  refine r_iconst 0 dX2_boxesInRings_0 (by decide) ?_
  refine r_istore_n dX2_boxesInRings_1 (by decide) rfl ?_
  refine r_iconst 0 dX2_boxesInRings_2 (by decide) ?_
  refine r_istore_n dX2_boxesInRings_3 (by decide) rfl ?_
  have L1 : ∀ (N : Nat) (k : Nat) (x : Int32), k ≤ n → x = cntI (fun k => hasB (σ (iP p + 2) k) k) k → n < k + N → AtW mX2_boxesInRings Γ Ω σ 4 [some (.ref (ad Ω (iP p))), some (.int x), some (.int (nI k))] [] := by
    intro N
    induction N with
    | zero =>
      intro k x hk hx hN
      exact absurd hN (by omega)
    | succ N ih =>
      intro k x hk hx hN
      refine r_iload_n dX2_boxesInRings_4 rfl ?_
      refine r_aload_n dX2_boxesInRings_5 rfl ?_
      refine fX2_0 p hp jX2_boxesInRings_X2 lX2_boxesInRings_30 dX2_boxesInRings_6 ?_
      rw [hpc]
      refine r_icmp_ge 29 dX2_boxesInRings_9 (by decide) (fun c9 => ?_) (fun c9 => ?_)
      ·
        replace c9 := Int32.not_lt.mpr c9
        have n9 := Nat.not_lt.mp (fun q => c9 ((nI_ltI (a := k) (b := n) (by omega) (by omega)).mpr q))
        refine r_iload_n dX2_boxesInRings_29 rfl ?_
        have ek : n = k := by omega
        subst ek
        exact r_iret hQ rfl dX2_boxesInRings_30 (roI_of hx)
      ·
        replace c9 := Int32.not_le.mp c9
        have n9 := (nI_ltI (a := k) (b := n) (by omega) (by omega)).mp c9
        refine r_aload_n dX2_boxesInRings_12 rfl ?_
        refine r_iload_n dX2_boxesInRings_13 rfl ?_
        refine r_callVI (iP p) hL (ctX2_isInRing l Ω _ p k hp (by omega)) kX2_boxesInRings_99 (iP_lt hp) ⟨_, _, _, cel_pic hp, rfl, rfl⟩ rfl rfl (Nat.le_of_ble_eq_true rfl) dX2_boxesInRings_14 ?_
        refine r_if_eq 23 dX2_boxesInRings_17 (by decide) (fun c17 => ?_) (fun c17 => ?_)
        ·
          replace c17 := bI_f c17
          refine r_iinc (nI (k + 1)) dX2_boxesInRings_23 rfl (nI_1 k) (by decide) rfl ?_
          refine r_goto 4 dX2_boxesInRings_26 (by decide) ?_
          exact ih (k + 1) _ (by omega) (by rw [cntI, if_neg (by simp [c17]), hx]) (by omega)
        ·
          replace c17 := bI_t c17
          refine r_iinc (_) dX2_boxesInRings_20 rfl (rfl) (by decide) rfl ?_
          refine r_iinc (nI (k + 1)) dX2_boxesInRings_23 rfl (nI_1 k) (by decide) rfl ?_
          refine r_goto 4 dX2_boxesInRings_26 (by decide) ?_
          exact ih (k + 1) _ (by omega) (by rw [cntI, if_pos c17, hx]; rfl) (by omega)
  exact L1 (n + 1) 0 _ (by omega) rfl (by omega)

set_option maxRecDepth 100000 in
set_option maxHeartbeats 4000000 in
theorem ctX2_bitsHiddenByAll (l : Launch) (Ω : Om) (σ : Sg) (p n : Nat) (hp : p < 2) (hn : n ≤ 16) (hpc : σ (iP p) 0 = nI n) (y : Int32) : CtW l yX2_bitsHiddenByAll wsX2_bitsHiddenByAll (rmD 1) Ω [.ref (ad Ω (iP p)), .int y] σ (roI (orI (hasB y) (σ (iP p + 1)) n) σ) := by
  refine ct_intro [some (.ref (ad Ω (iP p))), some (.int y), none, none] (by decide) rfl rfl (Nat.le_of_ble_eq_true rfl) (fun Γ hL hQ => ?_)
  show AtW mX2_bitsHiddenByAll Γ Ω σ 0 [some (.ref (ad Ω (iP p))), some (.int y), none, none] []
  refine r_iconst 0 dX2_bitsHiddenByAll_0 (by decide) ?_
  refine r_istore_n dX2_bitsHiddenByAll_1 (by decide) rfl ?_
  refine r_iconst 0 dX2_bitsHiddenByAll_2 (by decide) ?_
  refine r_istore_n dX2_bitsHiddenByAll_3 (by decide) rfl ?_
  have L1 : ∀ (N : Nat) (k : Nat) (x : Int32), k ≤ n → x = orI (hasB y) (σ (iP p + 1)) k → n < k + N → AtW mX2_bitsHiddenByAll Γ Ω σ 4 [some (.ref (ad Ω (iP p))), some (.int y), some (.int x), some (.int (nI k))] [] := by
    intro N
    induction N with
    | zero =>
      intro k x hk hx hN
      exact absurd hN (by omega)
    | succ N ih =>
      intro k x hk hx hN
      refine r_iload_n dX2_bitsHiddenByAll_4 rfl ?_
      refine r_aload_n dX2_bitsHiddenByAll_5 rfl ?_
      refine fX2_0 p hp jX2_bitsHiddenByAll_X2 lX2_bitsHiddenByAll_30 dX2_bitsHiddenByAll_6 ?_
      rw [hpc]
      refine r_icmp_ge 35 dX2_bitsHiddenByAll_9 (by decide) (fun c9 => ?_) (fun c9 => ?_)
      ·
        replace c9 := Int32.not_lt.mpr c9
        have n9 := Nat.not_lt.mp (fun q => c9 ((nI_ltI (a := k) (b := n) (by omega) (by omega)).mpr q))
        refine r_iload_n dX2_bitsHiddenByAll_35 rfl ?_
        have ek : n = k := by omega
        subst ek
        exact r_iret hQ rfl dX2_bitsHiddenByAll_36 (roI_of hx)
      ·
        replace c9 := Int32.not_le.mp c9
        have n9 := (nI_ltI (a := k) (b := n) (by omega) (by omega)).mp c9
        refine r_iload_n dX2_bitsHiddenByAll_12 rfl ?_
        refine r_iload_n dX2_bitsHiddenByAll_13 rfl ?_
        refine r_callSI hL (ctX2_hasBit l Ω _ _ k (by omega)) kX2_bitsHiddenByAll_58 rfl rfl (Nat.le_of_ble_eq_true rfl) dX2_bitsHiddenByAll_14 ?_
        refine r_if_eq 29 dX2_bitsHiddenByAll_17 (by decide) (fun c17 => ?_) (fun c17 => ?_)
        ·
          replace c17 := bI_f c17
          refine r_iinc (nI (k + 1)) dX2_bitsHiddenByAll_29 rfl (nI_1 k) (by decide) rfl ?_
          refine r_goto 4 dX2_bitsHiddenByAll_32 (by decide) ?_
          exact ih (k + 1) _ (by omega) (by rw [orI, if_neg (by simp [c17]), hx]) (by omega)
        ·
          replace c17 := bI_t c17
          refine r_iload_n dX2_bitsHiddenByAll_20 rfl ?_
          refine r_aload_n dX2_bitsHiddenByAll_21 rfl ?_
          refine fX2_1 p hp jX2_bitsHiddenByAll_X2 lX2_bitsHiddenByAll_9 dX2_bitsHiddenByAll_22 ?_
          refine r_iload_n dX2_bitsHiddenByAll_25 rfl ?_
          refine ldP1 p hp k rfl (by omega) dX2_bitsHiddenByAll_26 ?_
          refine r_ior dX2_bitsHiddenByAll_27 ?_
          refine r_istore_n dX2_bitsHiddenByAll_28 (by decide) rfl ?_
          refine r_iinc (nI (k + 1)) dX2_bitsHiddenByAll_29 rfl (nI_1 k) (by decide) rfl ?_
          refine r_goto 4 dX2_bitsHiddenByAll_32 (by decide) ?_
          exact ih (k + 1) _ (by omega) (by rw [orI, if_pos c17, hx]) (by omega)
  exact L1 (n + 1) 0 _ (by omega) rfl (by omega)

set_option maxRecDepth 100000 in
set_option maxHeartbeats 4000000 in
theorem ctX2_shortestRingOf (l : Launch) (Ω : Om) (σ : Sg) (p n : Nat) (hp : p < 2) (hn : n ≤ 16) (hpc : σ (iP p) 0 = nI n) (a : Nat) (ha : a < 16) : CtW l yX2_shortestRingOf wsX2_shortestRingOf (rmD 2) Ω [.ref (ad Ω (iP p)), .int (nI a)] σ (roI (srO (σ (iP p + 1)) n a) σ) := by
  refine ct_intro [some (.ref (ad Ω (iP p))), some (.int (nI a)), none, none] (by decide) rfl rfl (Nat.le_of_ble_eq_true rfl) (fun Γ hL hQ => ?_)
  show AtW mX2_shortestRingOf Γ Ω σ 0 [some (.ref (ad Ω (iP p))), some (.int (nI a)), none, none] []
  refine r_aload_n dX2_shortestRingOf_0 rfl ?_
  refine fX2_1 p hp jX2_shortestRingOf_X2 lX2_shortestRingOf_9 dX2_shortestRingOf_1 ?_
  refine r_iload_n dX2_shortestRingOf_4 rfl ?_
  refine ldP1 p hp a rfl (by omega) dX2_shortestRingOf_5 ?_
  refine r_istore_n dX2_shortestRingOf_6 (by decide) rfl ?_
  refine r_iconst 1 dX2_shortestRingOf_7 (by decide) ?_
  refine r_istore_n dX2_shortestRingOf_8 (by decide) rfl ?_
  have L1 : ∀ (N : Nat) (k : Nat) (x : Int32), k ≤ n → x = rchI (σ (iP p + 1)) n a k → (∀ j, j < k → (fun j => hasB (rchI (σ (iP p + 1)) n a j) a) j = false) → n < k + N → AtW mX2_shortestRingOf Γ Ω σ 9 [some (.ref (ad Ω (iP p))), some (.int (nI a)), some (.int x), some (.int (nI (k + 1)))] [] := by
    intro N
    induction N with
    | zero =>
      intro k x hk hx hq hN
      exact absurd hN (by omega)
    | succ N ih =>
      intro k x hk hx hq hN
      refine r_iload_n dX2_shortestRingOf_9 rfl ?_
      refine r_aload_n dX2_shortestRingOf_10 rfl ?_
      refine fX2_0 p hp jX2_shortestRingOf_X2 lX2_shortestRingOf_30 dX2_shortestRingOf_11 ?_
      rw [hpc]
      refine r_icmp_gt 41 dX2_shortestRingOf_14 (by decide) (fun c14 => ?_) (fun c14 => ?_)
      ·
        have n14 := (nI_ltI (a := n) (b := k + 1) (by omega) (by omega)).mp c14
        refine r_bipush (-5) dX2_shortestRingOf_41 (by decide) ?_
        have ek : n = k := by omega
        subst ek
        exact r_iret hQ rfl dX2_shortestRingOf_43 (roI_of (by rw [srO, ff_none hq, if_neg (by omega)]))
      ·
        have n14 := Nat.not_lt.mp (fun q => c14 ((nI_ltI (a := n) (b := k + 1) (by omega) (by omega)).mpr q))
        refine r_iload_n dX2_shortestRingOf_17 rfl ?_
        refine r_iload_n dX2_shortestRingOf_18 rfl ?_
        refine r_callSI hL (ctX2_hasBit l Ω _ _ a (by omega)) kX2_shortestRingOf_58 rfl rfl (Nat.le_of_ble_eq_true rfl) dX2_shortestRingOf_19 ?_
        refine r_if_eq 27 dX2_shortestRingOf_22 (by decide) (fun c22 => ?_) (fun c22 => ?_)
        ·
          replace c22 := bI_f c22
          refine r_iload_n dX2_shortestRingOf_27 rfl ?_
          refine r_aload_n dX2_shortestRingOf_28 rfl ?_
          refine r_iload_n dX2_shortestRingOf_29 rfl ?_
          refine r_callVI (iP p) hL (ctX2_bitsHiddenByAll l Ω _ p n hp (by omega) hpc _) kX2_shortestRingOf_106 (iP_lt hp) ⟨_, _, _, cel_pic hp, rfl, rfl⟩ rfl rfl (Nat.le_of_ble_eq_true rfl) dX2_shortestRingOf_30 ?_
          refine r_ior dX2_shortestRingOf_33 ?_
          refine r_istore_n dX2_shortestRingOf_34 (by decide) rfl ?_
          refine r_iinc (nI (k + 1 + 1)) dX2_shortestRingOf_35 rfl (nI_1 (k + 1)) (by decide) rfl ?_
          refine r_goto 9 dX2_shortestRingOf_38 (by decide) ?_
          exact ih (k + 1) _ (by omega) (by rw [hx]; rfl) (lt_s hq (by rw [hx] at c22; exact c22)) (by omega)
        ·
          replace c22 := bI_t c22
          refine r_iload_n dX2_shortestRingOf_25 rfl ?_
          exact r_iret hQ rfl dX2_shortestRingOf_26 (roI_of (by rw [hx] at c22; rw [srO, ff_hit hq c22 (by omega), if_pos (by omega)]))
  exact L1 (n + 1) 0 _ (by omega) rfl (fun j hj => absurd hj (by omega)) (by omega)

set_option maxRecDepth 100000 in
set_option maxHeartbeats 4000000 in
theorem ctX2_shortestRing (l : Launch) (Ω : Om) (σ : Sg) (p n : Nat) (hp : p < 2) (hn : n ≤ 16) (hpc : σ (iP p) 0 = nI n) : CtW l yX2_shortestRing wsX2_shortestRing (rmD 3) Ω [.ref (ad Ω (iP p))] σ (roI (srI (σ (iP p + 1)) n n) σ) := by
  refine ct_intro [some (.ref (ad Ω (iP p))), none, none, none] (by decide) rfl rfl (Nat.le_of_ble_eq_true rfl) (fun Γ hL hQ => ?_)
  show AtW mX2_shortestRing Γ Ω σ 0 [some (.ref (ad Ω (iP p))), none, none, none] []
  refine r_bipush (-5) dX2_shortestRing_0 (by decide) ?_
  refine r_istore_n dX2_shortestRing_2 (by decide) rfl ?_
  refine r_iconst 0 dX2_shortestRing_3 (by decide) ?_
  refine r_istore_n dX2_shortestRing_4 (by decide) rfl ?_
  have L1 : ∀ (N : Nat) (k : Nat) (x : Int32) (v3 : Option Value), k ≤ n → x = srI (σ (iP p + 1)) n k → n < k + N → AtW mX2_shortestRing Γ Ω σ 5 [some (.ref (ad Ω (iP p))), some (.int x), some (.int (nI k)), v3] [] := by
    intro N
    induction N with
    | zero =>
      intro k x v3 hk hx hN
      exact absurd hN (by omega)
    | succ N ih =>
      intro k x v3 hk hx hN
      refine r_iload_n dX2_shortestRing_5 rfl ?_
      refine r_aload_n dX2_shortestRing_6 rfl ?_
      refine fX2_0 p hp jX2_shortestRing_X2 lX2_shortestRing_30 dX2_shortestRing_7 ?_
      rw [hpc]
      refine r_icmp_ge 44 dX2_shortestRing_10 (by decide) (fun c10 => ?_) (fun c10 => ?_)
      ·
        replace c10 := Int32.not_lt.mpr c10
        have n10 := Nat.not_lt.mp (fun q => c10 ((nI_ltI (a := k) (b := n) (by omega) (by omega)).mpr q))
        refine r_iload_n dX2_shortestRing_44 rfl ?_
        have ek : n = k := by omega
        subst ek
        exact r_iret hQ rfl dX2_shortestRing_45 (roI_of hx)
      ·
        replace c10 := Int32.not_le.mp c10
        have n10 := (nI_ltI (a := k) (b := n) (by omega) (by omega)).mp c10
        refine r_aload_n dX2_shortestRing_13 rfl ?_
        refine r_iload_n dX2_shortestRing_14 rfl ?_
        refine r_callVI (iP p) hL (ctX2_shortestRingOf l Ω _ p n hp (by omega) hpc k (by omega)) kX2_shortestRing_103 (iP_lt hp) ⟨_, _, _, cel_pic hp, rfl, rfl⟩ rfl rfl (Nat.le_of_ble_eq_true rfl) dX2_shortestRing_15 ?_
        refine r_istore_n dX2_shortestRing_18 (by decide) rfl ?_
        refine r_iload_n dX2_shortestRing_19 rfl ?_
        refine r_bipush (-5) dX2_shortestRing_20 (by decide) ?_
        refine r_icmp_eq 38 dX2_shortestRing_22 (by decide) (fun c22 => ?_) (fun c22 => ?_)
        ·
          refine r_iinc (nI (k + 1)) dX2_shortestRing_38 rfl (nI_1 k) (by decide) rfl ?_
          refine r_goto 5 dX2_shortestRing_41 (by decide) ?_
          exact ih (k + 1) _ _ (by omega) (by rw [srI, if_pos c22, hx]) (by omega)
        ·
          refine r_iload_n dX2_shortestRing_25 rfl ?_
          refine r_bipush (-5) dX2_shortestRing_26 (by decide) ?_
          refine r_icmp_eq 36 dX2_shortestRing_28 (by decide) (fun c28 => ?_) (fun c28 => ?_)
          ·
            refine r_iload_n dX2_shortestRing_36 rfl ?_
            refine r_istore_n dX2_shortestRing_37 (by decide) rfl ?_
            refine r_iinc (nI (k + 1)) dX2_shortestRing_38 rfl (nI_1 k) (by decide) rfl ?_
            refine r_goto 5 dX2_shortestRing_41 (by decide) ?_
            exact ih (k + 1) _ _ (by omega) (by rw [srI, if_neg c22, if_pos (hx ▸ c28)]) (by omega)
          ·
            refine r_iload_n dX2_shortestRing_31 rfl ?_
            refine r_iload_n dX2_shortestRing_32 rfl ?_
            refine r_icmp_ge 38 dX2_shortestRing_33 (by decide) (fun c33 => ?_) (fun c33 => ?_)
            ·
              replace c33 := Int32.not_lt.mpr c33
              refine r_iinc (nI (k + 1)) dX2_shortestRing_38 rfl (nI_1 k) (by decide) rfl ?_
              refine r_goto 5 dX2_shortestRing_41 (by decide) ?_
              exact ih (k + 1) _ _ (by omega) (by rw [srI, if_neg c22, if_neg (hx ▸ c28), if_neg (hx ▸ c33), hx]) (by omega)
            ·
              replace c33 := Int32.not_le.mp c33
              refine r_iload_n dX2_shortestRing_36 rfl ?_
              refine r_istore_n dX2_shortestRing_37 (by decide) rfl ?_
              refine r_iinc (nI (k + 1)) dX2_shortestRing_38 rfl (nI_1 k) (by decide) rfl ?_
              refine r_goto 5 dX2_shortestRing_41 (by decide) ?_
              exact ih (k + 1) _ _ (by omega) (by rw [srI, if_neg c22, if_neg (hx ▸ c28), if_pos (hx ▸ c33)]) (by omega)
  exact L1 (n + 1) 0 _ none (by omega) rfl (by omega)

set_option maxRecDepth 100000 in
set_option maxHeartbeats 4000000 in
theorem ctX2_greatestInRings (l : Launch) (Ω : Om) (σ : Sg) (p s n : Nat) (hp : p < 2) (hs : s < 7) (hn : n ≤ 16) (hpc : σ (iP p) 0 = nI n) : CtW l yX2_greatestInRings wsX2_greatestInRings (rmD 2) Ω [.ref (ad Ω (iP p)), .ref (ad Ω (iS s))] σ (roI (oI (grO σ s (σ (iP p + 2)) n)) σ) := by
  refine ct_intro [some (.ref (ad Ω (iP p))), some (.ref (ad Ω (iS s))), none, none] (by decide) rfl rfl (Nat.le_of_ble_eq_true rfl) (fun Γ hL hQ => ?_)
  show AtW mX2_greatestInRings Γ Ω σ 0 [some (.ref (ad Ω (iP p))), some (.ref (ad Ω (iS s))), none, none] []
  refine r_iconst (-1) dX2_greatestInRings_0 (by decide) ?_
  refine r_istore_n dX2_greatestInRings_1 (by decide) rfl ?_
  refine r_iconst 0 dX2_greatestInRings_2 (by decide) ?_
  refine r_istore_n dX2_greatestInRings_3 (by decide) rfl ?_
  have L1 : ∀ (N : Nat) (k : Nat) (x : Int32), k ≤ n → x = oI (grO σ s (σ (iP p + 2)) k) → n < k + N → AtW mX2_greatestInRings Γ Ω σ 4 [some (.ref (ad Ω (iP p))), some (.ref (ad Ω (iS s))), some (.int x), some (.int (nI k))] [] := by
    intro N
    induction N with
    | zero =>
      intro k x hk hx hN
      exact absurd hN (by omega)
    | succ N ih =>
      intro k x hk hx hN
      refine r_iload_n dX2_greatestInRings_4 rfl ?_
      refine r_aload_n dX2_greatestInRings_5 rfl ?_
      refine fX2_0 p hp jX2_greatestInRings_X2 lX2_greatestInRings_30 dX2_greatestInRings_6 ?_
      rw [hpc]
      refine r_icmp_ge 54 dX2_greatestInRings_9 (by decide) (fun c9 => ?_) (fun c9 => ?_)
      ·
        replace c9 := Int32.not_lt.mpr c9
        have n9 := Nat.not_lt.mp (fun q => c9 ((nI_ltI (a := k) (b := n) (by omega) (by omega)).mpr q))
        refine r_iload_n dX2_greatestInRings_54 rfl ?_
        have ek : n = k := by omega
        subst ek
        exact r_iret hQ rfl dX2_greatestInRings_55 (roI_of hx)
      ·
        replace c9 := Int32.not_le.mp c9
        have n9 := (nI_ltI (a := k) (b := n) (by omega) (by omega)).mp c9
        refine r_aload_n dX2_greatestInRings_12 rfl ?_
        refine r_iload_n dX2_greatestInRings_13 rfl ?_
        refine r_callVI (iP p) hL (ctX2_isInRing l Ω _ p k hp (by omega)) kX2_greatestInRings_99 (iP_lt hp) ⟨_, _, _, cel_pic hp, rfl, rfl⟩ rfl rfl (Nat.le_of_ble_eq_true rfl) dX2_greatestInRings_14 ?_
        refine r_if_eq 48 dX2_greatestInRings_17 (by decide) (fun c17 => ?_) (fun c17 => ?_)
        ·
          replace c17 := bI_f c17
          refine r_iinc (nI (k + 1)) dX2_greatestInRings_48 rfl (nI_1 k) (by decide) rfl ?_
          refine r_goto 4 dX2_greatestInRings_51 (by decide) ?_
          exact ih (k + 1) _ (by omega) (by rw [grO, bestO_no1 (p := fun k => hasB (σ (iP p + 2) k) k) c17]; exact hx) (by omega)
        ·
          replace c17 := bI_t c17
          refine r_iload_n dX2_greatestInRings_20 rfl ?_
          refine r_iconst (-1) dX2_greatestInRings_21 (by decide) ?_
          refine r_icmp_eq 46 dX2_greatestInRings_22 (by decide) (fun c22 => ?_) (fun c22 => ?_)
          ·
            refine r_iload_n dX2_greatestInRings_46 rfl ?_
            refine r_istore_n dX2_greatestInRings_47 (by decide) rfl ?_
            refine r_iinc (nI (k + 1)) dX2_greatestInRings_48 rfl (nI_1 k) (by decide) rfl ?_
            refine r_goto 4 dX2_greatestInRings_51 (by decide) ?_
            exact ih (k + 1) _ (by omega) (by rw [grO, bestO_yes (p := fun k => hasB (σ (iP p + 2) k) k) c17 (Or.inl (oI_none (by omega) hx c22))]; rfl) (by omega)
          ·
            obtain ⟨j, hj, ej, rfl⟩ := oI_some hx c22
            refine r_aload_n dX2_greatestInRings_25 rfl ?_
            refine fX3_0 s hs jX2_greatestInRings_X3 lX2_greatestInRings_42 dX2_greatestInRings_26 ?_
            refine r_iload_n dX2_greatestInRings_29 rfl ?_
            refine r_aaldB s hs k rfl (by omega) dX2_greatestInRings_30 ?_
            refine r_callVI (iBo (bx s k)) hL (ctX0_volume l Ω _ (bx s k) (bx_lt hs (by omega))) kX2_greatestInRings_109 (iB_lt (bx_lt hs (by omega))) ⟨_, _, _, cel_box (bx_lt hs (by omega)), rfl, rfl⟩ rfl rfl (Nat.le_of_ble_eq_true rfl) dX2_greatestInRings_31 ?_
            refine r_aload_n dX2_greatestInRings_34 rfl ?_
            refine fX3_0 s hs jX2_greatestInRings_X3 lX2_greatestInRings_42 dX2_greatestInRings_35 ?_
            refine r_iload_n dX2_greatestInRings_38 rfl ?_
            refine r_aaldB s hs j rfl (by omega) dX2_greatestInRings_39 ?_
            refine r_callVI (iBo (bx s j)) hL (ctX0_volume l Ω _ (bx s j) (bx_lt hs (by omega))) kX2_greatestInRings_109 (iB_lt (bx_lt hs (by omega))) ⟨_, _, _, cel_box (bx_lt hs (by omega)), rfl, rfl⟩ rfl rfl (Nat.le_of_ble_eq_true rfl) dX2_greatestInRings_40 ?_
            refine r_icmp_le 48 dX2_greatestInRings_43 (by decide) (fun c43 => ?_) (fun c43 => ?_)
            ·
              replace c43 := Int32.not_lt.mpr c43
              refine r_iinc (nI (k + 1)) dX2_greatestInRings_48 rfl (nI_1 k) (by decide) rfl ?_
              refine r_goto 4 dX2_greatestInRings_51 (by decide) ?_
              exact ih (k + 1) _ (by omega) (by rw [grO, bestO_no2 ej (by simp [c43])]; exact hx) (by omega)
            ·
              replace c43 := Int32.not_le.mp c43
              refine r_iload_n dX2_greatestInRings_46 rfl ?_
              refine r_istore_n dX2_greatestInRings_47 (by decide) rfl ?_
              refine r_iinc (nI (k + 1)) dX2_greatestInRings_48 rfl (nI_1 k) (by decide) rfl ?_
              refine r_goto 4 dX2_greatestInRings_51 (by decide) ?_
              exact ih (k + 1) _ (by omega) (by rw [grO, bestO_yes (p := fun k => hasB (σ (iP p + 2) k) k) c17 (Or.inr ⟨j, ej, by simp [c43]⟩)]; rfl) (by omega)
  exact L1 (n + 1) 0 _ (by omega) rfl (by omega)

set_option maxRecDepth 100000 in
set_option maxHeartbeats 4000000 in
theorem ctX2_nextToDraw (l : Launch) (Ω : Om) (σ : Sg) (p s n : Nat) (hp : p < 2) (hs : s < 7) (hn : n ≤ 16) (hpc : σ (iP p) 0 = nI n) : CtW l yX2_nextToDraw wsX2_nextToDraw (rmD 3) Ω [.ref (ad Ω (iP p)), .ref (ad Ω (iS s))] σ (roI (oI (nxO n (σ (iP p + 1)) (wtS σ s) (σ (iP p) 4))) σ) := by
  refine ct_intro [some (.ref (ad Ω (iP p))), some (.ref (ad Ω (iS s))), none, none, none] (by decide) rfl rfl (Nat.le_of_ble_eq_true rfl) (fun Γ hL hQ => ?_)
  show AtW mX2_nextToDraw Γ Ω σ 0 [some (.ref (ad Ω (iP p))), some (.ref (ad Ω (iS s))), none, none, none] []
  refine r_iconst (-1) dX2_nextToDraw_0 (by decide) ?_
  refine r_istore_n dX2_nextToDraw_1 (by decide) rfl ?_
  refine r_iconst 0 dX2_nextToDraw_2 (by decide) ?_
  refine r_istore_n dX2_nextToDraw_3 (by decide) rfl ?_
  have L1 : ∀ (N : Nat) (k : Nat) (x : Int32) (v4 : Option Value), k ≤ n → x = oI (bestO (canD (σ (iP p + 1)) (σ (iP p) 4)) (fun k b => decide (wtS σ s k < wtS σ s b)) k) → n < k + N → AtW mX2_nextToDraw Γ Ω σ 4 [some (.ref (ad Ω (iP p))), some (.ref (ad Ω (iS s))), some (.int x), some (.int (nI k)), v4] [] := by
    intro N
    induction N with
    | zero =>
      intro k x v4 hk hx hN
      exact absurd hN (by omega)
    | succ N ih =>
      intro k x v4 hk hx hN
      refine r_iload_n dX2_nextToDraw_4 rfl ?_
      refine r_aload_n dX2_nextToDraw_5 rfl ?_
      refine fX2_0 p hp jX2_nextToDraw_X2 lX2_nextToDraw_30 dX2_nextToDraw_6 ?_
      rw [hpc]
      refine r_icmp_ge 77 dX2_nextToDraw_9 (by decide) (fun c9 => ?_) (fun c9 => ?_)
      ·
        replace c9 := Int32.not_lt.mpr c9
        have n9 := Nat.not_lt.mp (fun q => c9 ((nI_ltI (a := k) (b := n) (by omega) (by omega)).mpr q))
        refine r_iload_n dX2_nextToDraw_77 rfl ?_
        have ek : n = k := by omega
        subst ek
        exact r_iret hQ rfl dX2_nextToDraw_78 (roI_of hx)
      ·
        replace c9 := Int32.not_le.mp c9
        have n9 := (nI_ltI (a := k) (b := n) (by omega) (by omega)).mp c9
        refine r_aload_n dX2_nextToDraw_12 rfl ?_
        refine fX2_4 p hp jX2_nextToDraw_X2 lX2_nextToDraw_68 dX2_nextToDraw_13 ?_
        refine r_iload_n dX2_nextToDraw_16 rfl ?_
        refine r_callSI hL (ctX2_hasBit l Ω _ _ k (by omega)) kX2_nextToDraw_58 rfl rfl (Nat.le_of_ble_eq_true rfl) dX2_nextToDraw_17 ?_
        refine r_if_ne 43 dX2_nextToDraw_20 (by decide) (fun c20 => ?_) (fun c20 => ?_)
        ·
          replace c20 := bI_t c20
          refine r_iconst 0 dX2_nextToDraw_43 (by decide) ?_
          refine r_istore dX2_nextToDraw_44 (by decide) rfl ?_
          refine r_iload dX2_nextToDraw_46 rfl ?_
          refine r_if_eq 71 dX2_nextToDraw_48 (by decide) (fun c48 => ?_) (fun c48 => absurd c48 (by decide))
          refine r_iinc (nI (k + 1)) dX2_nextToDraw_71 rfl (nI_1 k) (by decide) rfl ?_
          refine r_goto 4 dX2_nextToDraw_74 (by decide) ?_
          exact ih (k + 1) _ _ (by omega) (by rw [bestO_no1 (canD_f1 c20)]; exact hx) (by omega)
        ·
          replace c20 := bI_f c20
          refine r_aload_n dX2_nextToDraw_23 rfl ?_
          refine fX2_1 p hp jX2_nextToDraw_X2 lX2_nextToDraw_9 dX2_nextToDraw_24 ?_
          refine r_iload_n dX2_nextToDraw_27 rfl ?_
          refine ldP1 p hp k rfl (by omega) dX2_nextToDraw_28 ?_
          refine r_aload_n dX2_nextToDraw_29 rfl ?_
          refine fX2_4 p hp jX2_nextToDraw_X2 lX2_nextToDraw_68 dX2_nextToDraw_30 ?_
          refine r_iconst (-1) dX2_nextToDraw_33 (by decide) ?_
          refine r_ixor dX2_nextToDraw_34 ?_
          refine r_iand dX2_nextToDraw_35 ?_
          refine r_if_ne 43 dX2_nextToDraw_36 (by decide) (fun c36 => ?_) (fun c36 => ?_)
          ·
            refine r_iconst 0 dX2_nextToDraw_43 (by decide) ?_
            refine r_istore dX2_nextToDraw_44 (by decide) rfl ?_
            refine r_iload dX2_nextToDraw_46 rfl ?_
            refine r_if_eq 71 dX2_nextToDraw_48 (by decide) (fun c48 => ?_) (fun c48 => absurd c48 (by decide))
            refine r_iinc (nI (k + 1)) dX2_nextToDraw_71 rfl (nI_1 k) (by decide) rfl ?_
            refine r_goto 4 dX2_nextToDraw_74 (by decide) ?_
            exact ih (k + 1) _ _ (by omega) (by rw [bestO_no1 (canD_f2 c36)]; exact hx) (by omega)
          ·
            refine r_iconst 1 dX2_nextToDraw_39 (by decide) ?_
            refine r_goto 44 dX2_nextToDraw_40 (by decide) ?_
            refine r_istore dX2_nextToDraw_44 (by decide) rfl ?_
            refine r_iload dX2_nextToDraw_46 rfl ?_
            refine r_if_eq 71 dX2_nextToDraw_48 (by decide) (fun c48 => absurd c48 (by decide)) (fun c48 => ?_)
            refine r_iload_n dX2_nextToDraw_51 rfl ?_
            refine r_iconst (-1) dX2_nextToDraw_52 (by decide) ?_
            refine r_icmp_eq 69 dX2_nextToDraw_53 (by decide) (fun c53 => ?_) (fun c53 => ?_)
            ·
              refine r_iload_n dX2_nextToDraw_69 rfl ?_
              refine r_istore_n dX2_nextToDraw_70 (by decide) rfl ?_
              refine r_iinc (nI (k + 1)) dX2_nextToDraw_71 rfl (nI_1 k) (by decide) rfl ?_
              refine r_goto 4 dX2_nextToDraw_74 (by decide) ?_
              exact ih (k + 1) _ _ (by omega) (by rw [bestO_yes (canD_t c20 c36) (Or.inl (oI_none (by omega) hx c53))]; rfl) (by omega)
            ·
              obtain ⟨j, hj, ej, rfl⟩ := oI_some hx c53
              refine r_aload_n dX2_nextToDraw_56 rfl ?_
              refine r_iload_n dX2_nextToDraw_57 rfl ?_
              refine r_callVI (iS s) hL (ctX3_weightInDrawing l Ω _ s k hs (by omega)) kX2_nextToDraw_82 (iS_lt hs) ⟨_, _, _, cel_sp hs, rfl, rfl⟩ rfl rfl (Nat.le_of_ble_eq_true rfl) dX2_nextToDraw_58 ?_
              refine r_aload_n dX2_nextToDraw_61 rfl ?_
              refine r_iload_n dX2_nextToDraw_62 rfl ?_
              refine r_callVI (iS s) hL (ctX3_weightInDrawing l Ω _ s j hs (by omega)) kX2_nextToDraw_82 (iS_lt hs) ⟨_, _, _, cel_sp hs, rfl, rfl⟩ rfl rfl (Nat.le_of_ble_eq_true rfl) dX2_nextToDraw_63 ?_
              refine r_icmp_ge 71 dX2_nextToDraw_66 (by decide) (fun c66 => ?_) (fun c66 => ?_)
              ·
                replace c66 := Int32.not_lt.mpr c66
                refine r_iinc (nI (k + 1)) dX2_nextToDraw_71 rfl (nI_1 k) (by decide) rfl ?_
                refine r_goto 4 dX2_nextToDraw_74 (by decide) ?_
                exact ih (k + 1) _ _ (by omega) (by rw [bestO_no2 ej (by simp [c66])]; exact hx) (by omega)
              ·
                replace c66 := Int32.not_le.mp c66
                refine r_iload_n dX2_nextToDraw_69 rfl ?_
                refine r_istore_n dX2_nextToDraw_70 (by decide) rfl ?_
                refine r_iinc (nI (k + 1)) dX2_nextToDraw_71 rfl (nI_1 k) (by decide) rfl ?_
                refine r_goto 4 dX2_nextToDraw_74 (by decide) ?_
                exact ih (k + 1) _ _ (by omega) (by rw [bestO_yes (canD_t c20 c36) (Or.inr ⟨j, ej, by simp [c66]⟩)]; rfl) (by omega)
  exact L1 (n + 1) 0 _ none (by omega) rfl (by omega)

set_option maxRecDepth 100000 in
set_option maxHeartbeats 4000000 in
theorem ctX2_followChains (l : Launch) (Ω : Om) (σ : Sg) (p n : Nat) (hp : p < 2) (hn : n ≤ 16) (hpc : σ (iP p) 0 = nI n) : CtW l yX2_followChains wsX2_followChains (rmD 1) Ω [.ref (ad Ω (iP p))] σ (reV (fun σ1 => σ1 = setA σ (iP p + 2) (wsO (va_cpy (σ (iP p + 1)) (σ (iP p + 2)) 0 0 16) n n))) := by
  refine ct_intro [some (.ref (ad Ω (iP p))), none, none] (by decide) rfl rfl (Nat.le_of_ble_eq_true rfl) (fun Γ hL hQ => ?_)
  show AtW mX2_followChains Γ Ω σ 0 [some (.ref (ad Ω (iP p))), none, none] []
  refine r_aload_n dX2_followChains_0 rfl ?_
  refine fX2_1 p hp jX2_followChains_X2 lX2_followChains_9 dX2_followChains_1 ?_
  refine r_iconst 0 dX2_followChains_4 (by decide) ?_
  refine r_aload_n dX2_followChains_5 rfl ?_
  refine fX2_2 p hp jX2_followChains_X2 lX2_followChains_15 dX2_followChains_6 ?_
  refine r_iconst 0 dX2_followChains_9 (by decide) ?_
  refine r_bipush 16 dX2_followChains_10 (by decide) ?_
  refine r_copy 52 (by decide +kernel) (by decide +kernel) (by decide +kernel) (by decide +kernel) (iP p + 1) (iP p + 2) 16 16 16 (iPA_lt hp (by decide)) (iPA_lt hp (by decide)) (cel_picA hp (by decide) (by decide)) (fun _ => cel_picA hp (by decide) (by decide)) (by decide) (by decide) (by decide) (by decide) (by decide) rfl dX2_followChains_12 ?_
  refine r_iconst 0 dX2_followChains_15 (by decide) ?_
  refine r_istore_n dX2_followChains_16 (by decide) rfl ?_
  have L1 : ∀ (N : Nat) (w : Nat) (τ : Sg) (v2 : Option Value), w ≤ n → τ = setA σ (iP p + 2) (wsO (va_cpy (σ (iP p + 1)) (σ (iP p + 2)) 0 0 16) n w) → n < w + N → AtW mX2_followChains Γ Ω τ 17 [some (.ref (ad Ω (iP p))), some (.int (nI w)), v2] [] := by
    intro N
    induction N with
    | zero =>
      intro w τ v2 hw hτ hN
      exact absurd hN (by omega)
    | succ N ih =>
      intro w τ v2 hw hτ hN
      have hτc : τ (iP p) 0 = nI n := by rw [hτ, setA_ne (by omega)]; exact hpc
      refine r_iload_n dX2_followChains_17 rfl ?_
      refine r_aload_n dX2_followChains_18 rfl ?_
      refine fX2_0 p hp jX2_followChains_X2 lX2_followChains_30 dX2_followChains_19 ?_
      rw [hτc]
      refine r_icmp_ge 75 dX2_followChains_22 (by decide) (fun c22 => ?_) (fun c22 => ?_)
      ·
        replace c22 := Int32.not_lt.mpr c22
        have n22 := Nat.not_lt.mp (fun q => c22 ((nI_ltI (a := w) (b := n) (by omega) (by omega)).mpr q))
        have ek : n = w := by omega
        subst ek
        exact r_vret hQ rfl dX2_followChains_75 (reV_of hτ)
      ·
        replace c22 := Int32.not_le.mp c22
        have n22 := (nI_ltI (a := w) (b := n) (by omega) (by omega)).mp c22
        have ih0 := ih
        refine r_iconst 0 dX2_followChains_25 (by decide) ?_
        refine r_istore_n dX2_followChains_26 (by decide) rfl ?_
        have L2 : ∀ (N : Nat) (k : Nat) (υ : Sg), k ≤ n → υ = setA σ (iP p + 2) (wsR (wsO (va_cpy (σ (iP p + 1)) (σ (iP p + 2)) 0 0 16) n w) w k) → n < k + N → AtW mX2_followChains Γ Ω υ 27 [some (.ref (ad Ω (iP p))), some (.int (nI w)), some (.int (nI k))] [] := by
          intro N
          induction N with
          | zero =>
            intro k υ hk hυ hN
            exact absurd hN (by omega)
          | succ N ih =>
            intro k υ hk hυ hN
            have hυc : υ (iP p) 0 = nI n := by rw [hυ, setA_ne (by omega)]; exact hpc
            refine r_iload_n dX2_followChains_27 rfl ?_
            refine r_aload_n dX2_followChains_28 rfl ?_
            refine fX2_0 p hp jX2_followChains_X2 lX2_followChains_30 dX2_followChains_29 ?_
            rw [hυc]
            refine r_icmp_ge 69 dX2_followChains_32 (by decide) (fun c32 => ?_) (fun c32 => ?_)
            ·
              replace c32 := Int32.not_lt.mpr c32
              have n32 := Nat.not_lt.mp (fun q => c32 ((nI_ltI (a := k) (b := n) (by omega) (by omega)).mpr q))
              have ek : n = k := by omega
              subst ek
              refine r_iinc (nI (w + 1)) dX2_followChains_69 rfl (nI_1 w) (by decide) rfl ?_
              refine r_goto 17 dX2_followChains_72 (by decide) ?_
              exact ih0 (w + 1) υ _ (by omega) hυ (by omega)
            ·
              replace c32 := Int32.not_le.mp c32
              have n32 := (nI_ltI (a := k) (b := n) (by omega) (by omega)).mp c32
              refine r_aload_n dX2_followChains_35 rfl ?_
              refine fX2_2 p hp jX2_followChains_X2 lX2_followChains_15 dX2_followChains_36 ?_
              refine r_iload_n dX2_followChains_39 rfl ?_
              refine ldP2 p hp k rfl (by omega) dX2_followChains_40 ?_
              refine r_iload_n dX2_followChains_41 rfl ?_
              refine r_callSI hL (ctX2_hasBit l Ω _ _ w (by omega)) kX2_followChains_58 rfl rfl (Nat.le_of_ble_eq_true rfl) dX2_followChains_42 ?_
              refine r_if_eq 63 dX2_followChains_45 (by decide) (fun c45 => ?_) (fun c45 => ?_)
              ·
                replace c45 := bI_f c45
                refine r_iinc (nI (k + 1)) dX2_followChains_63 rfl (nI_1 k) (by decide) rfl ?_
                refine r_goto 27 dX2_followChains_66 (by decide) ?_
                exact ih (k + 1) υ (by omega) (chain_no hυ c45) (by omega)
              ·
                replace c45 := bI_t c45
                refine r_aload_n dX2_followChains_48 rfl ?_
                refine fX2_2 p hp jX2_followChains_X2 lX2_followChains_15 dX2_followChains_49 ?_
                refine r_iload_n dX2_followChains_52 rfl ?_
                refine r_dup2 dX2_followChains_53 rfl rfl ?_
                refine ldP2 p hp k rfl (by omega) dX2_followChains_54 ?_
                refine r_aload_n dX2_followChains_55 rfl ?_
                refine fX2_2 p hp jX2_followChains_X2 lX2_followChains_15 dX2_followChains_56 ?_
                refine r_iload_n dX2_followChains_59 rfl ?_
                refine ldP2 p hp w rfl (by omega) dX2_followChains_60 ?_
                refine r_ior dX2_followChains_61 ?_
                refine stP2 p hp k rfl (by omega) dX2_followChains_62 ?_
                refine r_iinc (nI (k + 1)) dX2_followChains_63 rfl (nI_1 k) (by decide) rfl ?_
                refine r_goto 27 dX2_followChains_66 (by decide) ?_
                exact ih (k + 1) _ (by omega) (chain_yes hυ c45) (by omega)
        exact L2 (n + 1) 0 τ (by omega) hτ (by omega)
  exact L1 (n + 1) 0 _ none (by omega) rfl (by omega)

set_option maxRecDepth 100000 in
set_option maxHeartbeats 4000000 in
theorem ctX2_draw (l : Launch) (Ω : Om) (σ : Sg) (p s n : Nat) (hp : p < 2) (hs : s < 7) (hn : n ≤ 16) (hpc : σ (iP p) 0 = nI n) : CtW l yX2_draw wsX2_draw (rmD 4) Ω [.ref (ad Ω (iP p)), .ref (ad Ω (iS s))] σ (reV (dwI σ s p n (σ (iP p + 1)) (wtS σ s) (σ (iP p + 3)) (fun i => if i < 16 then -5 else σ (iP p + 4) i))) := by
  refine ct_intro [some (.ref (ad Ω (iP p))), some (.ref (ad Ω (iS s))), none, none] (by decide) rfl rfl (Nat.le_of_ble_eq_true rfl) (fun Γ hL hQ => ?_)
  show AtW mX2_draw Γ Ω σ 0 [some (.ref (ad Ω (iP p))), some (.ref (ad Ω (iS s))), none, none] []
  refine r_aload_n dX2_draw_0 rfl ?_
  refine fX2_6 p hp jX2_draw_X2 lX2_draw_21 dX2_draw_1 ?_
  refine r_bipush (-5) dX2_draw_4 (by decide) ?_
  refine r_callSV hL (ctJ7_fill_53178 l Ω _ p _ hp) kX2_draw_62 rfl rfl (Nat.le_of_ble_eq_true rfl) dX2_draw_6 ?_
  intro σ1 hσ1
  subst hσ1
  refine r_aload_n dX2_draw_9 rfl ?_
  refine r_iconst 0 dX2_draw_10 (by decide) ?_
  refine pX2_4 p hp jX2_draw_X2 lX2_draw_68 dX2_draw_11 ?_
  refine r_aload_n dX2_draw_14 rfl ?_
  refine r_iconst 0 dX2_draw_15 (by decide) ?_
  refine pX2_5 p hp jX2_draw_X2 lX2_draw_71 dX2_draw_16 ?_
  refine r_iconst 0 dX2_draw_19 (by decide) ?_
  refine r_istore_n dX2_draw_20 (by decide) rfl ?_
  have L1 : ∀ (N : Nat) (j : Nat) (τ : Sg) (v3 : Option Value), j ≤ n → dwC n (σ (iP p + 1)) (wtS σ s) (σ (iP p + 3)) (fun i => if i < 16 then -5 else σ (iP p + 4) i) p σ τ j → n < j + N → AtW mX2_draw Γ Ω τ 21 [some (.ref (ad Ω (iP p))), some (.ref (ad Ω (iS s))), some (.int (nI j)), v3] [] := by
    intro N
    induction N with
    | zero =>
      intro j τ v3 hj hτ hN
      exact absurd hN (by omega)
    | succ N ih =>
      intro j τ v3 hj hτ hN
      have h1 : σ (iP p + 1) = τ (iP p + 1) := (hτ.2.2.2.2.2.1 _ (by omega) (by omega) (by omega)).symm
      have hnx : nxO n (τ (iP p + 1)) (wtS τ s) (τ (iP p) 4) = nxO n (σ (iP p + 1)) (wtS σ s) (τ (iP p) 4) := by rw [h1]; exact nxO_congr (fun _ _ => rfl) (fun k hk => wt_eq hs (fun q hq => hτ.2.2.2.2.2.1 q (by unfold iP; omega) (by unfold iP; omega) (by unfold iP; omega)) (by omega))
      refine r_iload_n dX2_draw_21 rfl ?_
      refine r_aload_n dX2_draw_22 rfl ?_
      refine fX2_0 p hp jX2_draw_X2 lX2_draw_30 dX2_draw_23 ?_
      rw [hτ.1]
      refine r_icmp_ge 92 dX2_draw_26 (by decide) (fun c26 => ?_) (fun c26 => ?_)
      ·
        replace c26 := Int32.not_lt.mpr c26
        have n26 := Nat.not_lt.mp (fun q => c26 ((nI_ltI (a := j) (b := n) (by omega) (by omega)).mpr q))
        have ek : n = j := by omega
        subst ek
        exact r_vret hQ rfl dX2_draw_92 (reV_of (dw_end hτ))
      ·
        replace c26 := Int32.not_le.mp c26
        have n26 := (nI_ltI (a := j) (b := n) (by omega) (by omega)).mp c26
        refine r_aload_n dX2_draw_29 rfl ?_
        refine r_aload_n dX2_draw_30 rfl ?_
        refine r_callVI (iP p) hL (ctX2_nextToDraw l Ω _ p s n hp hs (by omega) hτ.1) kX2_draw_74 (iP_lt hp) ⟨_, _, _, cel_pic hp, rfl, rfl⟩ rfl rfl (Nat.le_of_ble_eq_true rfl) dX2_draw_31 ?_
        rw [hnx]
        refine r_istore_n dX2_draw_34 (by decide) rfl ?_
        refine r_iload_n dX2_draw_35 rfl ?_
        refine r_iconst (-1) dX2_draw_36 (by decide) ?_
        refine r_icmp_ne 41 dX2_draw_37 (by decide) (fun c37 => ?_) (fun c37 => ?_)
        ·
          obtain ⟨b, hb, eb⟩ := nx_some c37
          rw [eb]
          refine r_aload_n dX2_draw_41 rfl ?_
          refine fX2_3 p hp jX2_draw_X2 lX2_draw_18 dX2_draw_42 ?_
          refine r_iload_n dX2_draw_45 rfl ?_
          refine r_iload_n dX2_draw_46 rfl ?_
          refine stP3 p hp j rfl (by omega) dX2_draw_47 ?_
          refine r_aload_n dX2_draw_48 rfl ?_
          refine fX2_6 p hp jX2_draw_X2 lX2_draw_21 dX2_draw_49 ?_
          refine r_iload_n dX2_draw_52 rfl ?_
          refine r_aload_n dX2_draw_53 rfl ?_
          refine r_aload_n dX2_draw_54 rfl ?_
          refine fX2_1 p hp jX2_draw_X2 lX2_draw_9 dX2_draw_55 ?_
          refine r_iload_n dX2_draw_58 rfl ?_
          refine ldP1 p hp b rfl (by omega) dX2_draw_59 ?_
          refine r_callVI (iP p) hL (ctX2_layerAbove l Ω _ p n hp hn (by rw [up_ne (by omega)]; exact hτ.1) _) kX2_draw_78 (iP_lt hp) ⟨_, _, _, cel_pic hp, rfl, rfl⟩ rfl rfl (Nat.le_of_ble_eq_true rfl) dX2_draw_60 ?_
          refine stP4 p hp b rfl (by omega) dX2_draw_63 ?_
          refine r_aload_n dX2_draw_64 rfl ?_
          refine r_dup dX2_draw_65 rfl ?_
          refine fX2_4 p hp jX2_draw_X2 lX2_draw_68 dX2_draw_66 ?_
          refine r_iconst 1 dX2_draw_69 (by decide) ?_
          refine r_iload_n dX2_draw_70 rfl ?_
          refine r_ishl dX2_draw_71 ?_
          refine r_ior dX2_draw_72 ?_
          refine pX2_4 p hp jX2_draw_X2 lX2_draw_68 dX2_draw_73 ?_
          refine r_aload_n dX2_draw_76 rfl ?_
          refine r_dup dX2_draw_77 rfl ?_
          refine fX2_5 p hp jX2_draw_X2 lX2_draw_71 dX2_draw_78 ?_
          refine r_iconst 1 dX2_draw_81 (by decide) ?_
          refine r_iadd dX2_draw_82 ?_
          refine pX2_5 p hp jX2_draw_X2 lX2_draw_71 dX2_draw_83 ?_
          refine r_iinc (nI (j + 1)) dX2_draw_86 rfl (nI_1 j) (by decide) rfl ?_
          refine r_goto 21 dX2_draw_89 (by decide) ?_
          exact ih (j + 1) _ _ (by omega) (dw_step h1 hτ eb) (by omega)
        ·
          exact r_vret hQ rfl dX2_draw_40 (reV_of (dw_stop n26 hτ (nx_none hn c37)))
  exact L1 (n + 1) 0 _ none (by omega) (dw_head hpc) (by omega)

set_option maxRecDepth 100000 in
set_option maxHeartbeats 4000000 in
theorem ctX2_look (l : Launch) (Ω : Om) (σ : Sg) (p s n : Nat) (hp : p < 2) (hs : s < 7) (hn : n ≤ 16) (hc : σ (iS s) 1 = nI n) : CtW l yX2_look wsX2_look (rmD 5) Ω [.ref (ad Ω (iP p)), .ref (ad Ω (iS s))] σ (reV (pcI σ s p n)) := by
  refine ct_intro [some (.ref (ad Ω (iP p))), some (.ref (ad Ω (iS s))), none] (by decide) rfl rfl (Nat.le_of_ble_eq_true rfl) (fun Γ hL hQ => ?_)
  show AtW mX2_look Γ Ω σ 0 [some (.ref (ad Ω (iP p))), some (.ref (ad Ω (iS s))), none] []
  refine r_aload_n dX2_look_0 rfl ?_
  refine r_aload_n dX2_look_1 rfl ?_
  refine fX3_1 s hs jX2_look_X3 lX2_look_24 dX2_look_2 ?_
  rw [hc]
  refine pX2_0 p hp jX2_look_X2 lX2_look_30 dX2_look_5 ?_
  refine r_iconst 0 dX2_look_8 (by decide) ?_
  refine r_istore_n dX2_look_9 (by decide) rfl ?_
  have L1 : ∀ (N : Nat) (k : Nat) (τ : Sg), k ≤ n → lkJ σ s p n k τ → n < k + N → AtW mX2_look Γ Ω τ 10 [some (.ref (ad Ω (iP p))), some (.ref (ad Ω (iS s))), some (.int (nI k))] [] := by
    intro N
    induction N with
    | zero =>
      intro k τ hk hτ hN
      exact absurd hN (by omega)
    | succ N ih =>
      intro k τ hk hτ hN
      have hτs : τ (iS s) 1 = nI n := by rw [hτ.2.2 _ (by unfold iS iP; omega) (by unfold iS iP; omega)]; exact hc
      have hme : ∀ a, a < 16 → hmS τ s n a = hmS σ s n a := fun a ha => hm_eq hs hn (fun q hq => hτ.2.2 q (by unfold iP; omega) (by unfold iP; omega)) ha
      refine r_iload_n dX2_look_10 rfl ?_
      refine r_aload_n dX2_look_11 rfl ?_
      refine fX2_0 p hp jX2_look_X2 lX2_look_30 dX2_look_12 ?_
      rw [hτ.1]
      refine r_icmp_ge 35 dX2_look_15 (by decide) (fun c15 => ?_) (fun c15 => ?_)
      ·
        replace c15 := Int32.not_lt.mpr c15
        have n15 := Nat.not_lt.mp (fun q => c15 ((nI_ltI (a := k) (b := n) (by omega) (by omega)).mpr q))
        have ek : n = k := by omega
        subst ek
        refine r_aload_n dX2_look_35 rfl ?_
        refine r_callVV (iP p) hL (ctX2_followChains l Ω _ p n hp (by omega) hτ.1) kX2_look_35 (iP_lt hp) ⟨_, _, _, cel_pic hp, rfl, rfl⟩ rfl rfl (Nat.le_of_ble_eq_true rfl) dX2_look_36 ?_
        intro σ1 hσ1
        refine r_aload_n dX2_look_39 rfl ?_
        refine r_aload_n dX2_look_40 rfl ?_
        refine r_callVV (iP p) hL (ctX2_draw l Ω σ1 p s n hp hs hn (by rw [hσ1, setA_ne (by omega)]; exact hτ.1)) kX2_look_38 (iP_lt hp) ⟨_, _, _, cel_pic hp, rfl, rfl⟩ rfl rfl (Nat.le_of_ble_eq_true rfl) dX2_look_41 ?_
        intro σ2 hσ2
        exact r_vret hQ rfl dX2_look_44 (reV_of (look_ok hs hn hτ hσ1 hσ2))
      ·
        replace c15 := Int32.not_le.mp c15
        have n15 := (nI_ltI (a := k) (b := n) (by omega) (by omega)).mp c15
        refine r_aload_n dX2_look_18 rfl ?_
        refine fX2_1 p hp jX2_look_X2 lX2_look_9 dX2_look_19 ?_
        refine r_iload_n dX2_look_22 rfl ?_
        refine r_aload_n dX2_look_23 rfl ?_
        refine r_iload_n dX2_look_24 rfl ?_
        refine r_callSI hL (ctX2_bitsHiddenBy l Ω _ s n hs (by omega) hτs k (by omega)) kX2_look_31 rfl rfl (Nat.le_of_ble_eq_true rfl) dX2_look_25 ?_
        rw [hme k (by omega)]
        refine stP1 p hp k rfl (by omega) dX2_look_28 ?_
        refine r_iinc (nI (k + 1)) dX2_look_29 rfl (nI_1 k) (by decide) rfl ?_
        refine r_goto 10 dX2_look_32 (by decide) ?_
        exact ih (k + 1) _ (by omega) (lkJ_step hτ) (by omega)
  exact L1 (n + 1) 0 _ (by omega) ⟨by simp [up_get], fun j hj => absurd hj (by omega), fun q a _ => up_ne a⟩ (by omega)
