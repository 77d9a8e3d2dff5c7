set_option maxRecDepth 100000 in
set_option maxHeartbeats 4000000 in
theorem ctJ6_bitCount_0f7a4 (l : Launch) (Ω : Om) (σ : Sg) (x : Int32) : CtW l yJ6_bitCount_0f7a4 wsJ6_bitCount_0f7a4 (rmD 0) Ω [.int x] σ (roI (bcI x) σ) := by
  refine ct_intro [some (.int x)] (by decide) rfl rfl (Nat.le_of_ble_eq_true rfl) (fun Γ hL hQ => ?_)
  show AtW mJ6_bitCount_0f7a4 Γ Ω σ 0 [some (.int x)] []
  refine r_iload_n dJ6_bitCount_0f7a4_0 rfl ?_
  refine r_iload_n dJ6_bitCount_0f7a4_1 rfl ?_
  refine r_iconst 1 dJ6_bitCount_0f7a4_2 (by decide) ?_
  refine r_iushr dJ6_bitCount_0f7a4_3 ?_
  refine r_ldcw 1431655765 dJ6_bitCount_0f7a4_4 (by decide +kernel) ?_
  refine r_iand dJ6_bitCount_0f7a4_7 ?_
  refine r_isub dJ6_bitCount_0f7a4_8 ?_
  refine r_istore_n dJ6_bitCount_0f7a4_9 (by decide) rfl ?_
  refine r_iload_n dJ6_bitCount_0f7a4_10 rfl ?_
  refine r_ldcw 858993459 dJ6_bitCount_0f7a4_11 (by decide +kernel) ?_
  refine r_iand dJ6_bitCount_0f7a4_14 ?_
  refine r_iload_n dJ6_bitCount_0f7a4_15 rfl ?_
  refine r_iconst 2 dJ6_bitCount_0f7a4_16 (by decide) ?_
  refine r_iushr dJ6_bitCount_0f7a4_17 ?_
  refine r_ldcw 858993459 dJ6_bitCount_0f7a4_18 (by decide +kernel) ?_
  refine r_iand dJ6_bitCount_0f7a4_21 ?_
  refine r_iadd dJ6_bitCount_0f7a4_22 ?_
  refine r_istore_n dJ6_bitCount_0f7a4_23 (by decide) rfl ?_
  refine r_iload_n dJ6_bitCount_0f7a4_24 rfl ?_
  refine r_iload_n dJ6_bitCount_0f7a4_25 rfl ?_
  refine r_iconst 4 dJ6_bitCount_0f7a4_26 (by decide) ?_
  refine r_iushr dJ6_bitCount_0f7a4_27 ?_
  refine r_iadd dJ6_bitCount_0f7a4_28 ?_
  refine r_ldcw 252645135 dJ6_bitCount_0f7a4_29 (by decide +kernel) ?_
  refine r_iand dJ6_bitCount_0f7a4_32 ?_
  refine r_istore_n dJ6_bitCount_0f7a4_33 (by decide) rfl ?_
  refine r_iload_n dJ6_bitCount_0f7a4_34 rfl ?_
  refine r_iload_n dJ6_bitCount_0f7a4_35 rfl ?_
  refine r_bipush 8 dJ6_bitCount_0f7a4_36 (by decide) ?_
  refine r_iushr dJ6_bitCount_0f7a4_38 ?_
  refine r_iadd dJ6_bitCount_0f7a4_39 ?_
  refine r_istore_n dJ6_bitCount_0f7a4_40 (by decide) rfl ?_
  refine r_iload_n dJ6_bitCount_0f7a4_41 rfl ?_
  refine r_iload_n dJ6_bitCount_0f7a4_42 rfl ?_
  refine r_bipush 16 dJ6_bitCount_0f7a4_43 (by decide) ?_
  refine r_iushr dJ6_bitCount_0f7a4_45 ?_
  refine r_iadd dJ6_bitCount_0f7a4_46 ?_
  refine r_istore_n dJ6_bitCount_0f7a4_47 (by decide) rfl ?_
  refine r_iload_n dJ6_bitCount_0f7a4_48 rfl ?_
  refine r_bipush 63 dJ6_bitCount_0f7a4_49 (by decide) ?_
  refine r_iand dJ6_bitCount_0f7a4_51 ?_
  exact r_iret hQ rfl dJ6_bitCount_0f7a4_52 (roI_of rfl)

set_option maxRecDepth 100000 in
set_option maxHeartbeats 4000000 in
theorem ctJ7_fill_53178 (l : Launch) (Ω : Om) (σ : Sg) (p : Nat) (x : Int32) (hp : p < 2) : CtW l yJ7_fill_53178 wsJ7_fill_53178 (rmD 0) Ω [.ref (ad Ω (iP p + 4)), .int x] σ (reV (fun σ1 => σ1 = setA σ (iP p + 4) (fun i => if i < 16 then x else σ (iP p + 4) i))) := by
  refine ct_intro [some (.ref (ad Ω (iP p + 4))), some (.int x), none, none] (by decide) rfl rfl (Nat.le_of_ble_eq_true rfl) (fun Γ hL hQ => ?_)
  show AtW mJ7_fill_53178 Γ Ω σ 0 [some (.ref (ad Ω (iP p + 4))), some (.int x), none, none] []
  refine r_iconst 0 dJ7_fill_53178_0 (by decide) ?_
  refine r_istore_n dJ7_fill_53178_1 (by decide) rfl ?_
  refine r_aload_n dJ7_fill_53178_2 rfl ?_
  refine r_alenI (iP p + 4) (by first | omega | (unfold iP; omega)) (cel_picA hp (by decide) (by decide)) dJ7_fill_53178_3 ?_
  refine r_istore_n dJ7_fill_53178_4 (by decide) rfl ?_
  have L1 : ∀ (N : Nat) (k : Nat), k ≤ 16 → 16 < k + N → AtW mJ7_fill_53178 Γ Ω ((setA σ (iP p + 4) (fun i => if i < k then x else σ (iP p + 4) i))) 5 [some (.ref (ad Ω (iP p + 4))), some (.int x), some (.int (nI k)), some (.int (nI 16))] [] := by
    intro N
    induction N with
    | zero =>
      intro k hk hN
      exact absurd hN (by omega)
    | succ N ih =>
      intro k hk hN
      refine r_iload_n dJ7_fill_53178_5 rfl ?_
      refine r_iload_n dJ7_fill_53178_6 rfl ?_
      refine r_icmp_ge 20 dJ7_fill_53178_7 (by decide) (fun c7 => ?_) (fun c7 => ?_)
      ·
        replace c7 := Int32.not_lt.mpr c7
        have n7 := Nat.not_lt.mp (fun q => c7 ((nI_ltI (a := k) (b := 16) (by omega) (by omega)).mpr q))
        have ek : k = 16 := by omega
        subst ek
        exact r_vret hQ rfl dJ7_fill_53178_20 (reV_of rfl)
      ·
        replace c7 := Int32.not_le.mp c7
        have n7 := (nI_ltI (a := k) (b := 16) (by omega) (by omega)).mp c7
        refine r_aload_n dJ7_fill_53178_10 rfl ?_
        refine r_iload_n dJ7_fill_53178_11 rfl ?_
        refine r_iload_n dJ7_fill_53178_12 rfl ?_
        refine stP4 p hp k rfl (by omega) dJ7_fill_53178_13 ?_
        refine r_iinc (nI (k + 1)) dJ7_fill_53178_14 rfl (nI_1 k) (by decide) rfl ?_
        refine r_goto 5 dJ7_fill_53178_17 (by decide) ?_
        exact (ih (k + 1) (by omega) (by omega)).eqs (fill_step σ (iP p + 4) k x) rfl rfl rfl
  exact (L1 17 0 (by omega) (by omega)).eqs (by funext q; simp [setA]; intro h; subst h; rfl) rfl rfl rfl

set_option maxRecDepth 100000 in
set_option maxHeartbeats 4000000 in
theorem ctX2_hasBit (l : Launch) (Ω : Om) (σ : Sg) (x : Int32) (k : Nat) (hk : k < 32) : CtW l yX2_hasBit wsX2_hasBit (rmD 0) Ω [.int x, .int (nI k)] σ (roI (bI (hasB x k)) σ) := by
  refine ct_intro [some (.int x), some (.int (nI k))] (by decide) rfl rfl (Nat.le_of_ble_eq_true rfl) (fun Γ hL hQ => ?_)
  show AtW mX2_hasBit Γ Ω σ 0 [some (.int x), some (.int (nI k))] []
  refine r_iload_n dX2_hasBit_0 rfl ?_
  refine r_iload_n dX2_hasBit_1 rfl ?_
  refine r_ishr dX2_hasBit_2 ?_
  refine r_iconst 1 dX2_hasBit_3 (by decide) ?_
  refine r_iand dX2_hasBit_4 ?_
  refine r_if_eq 12 dX2_hasBit_5 (by decide) (fun c5 => ?_) (fun c5 => ?_)
  ·
    refine r_iconst 0 dX2_hasBit_12 (by decide) ?_
    exact r_zret hQ rfl ((by decide)) dX2_hasBit_13 (roI_of (by simp [hasB, bI, *]))
  ·
    refine r_iconst 1 dX2_hasBit_8 (by decide) ?_
    refine r_goto 13 dX2_hasBit_9 (by decide) ?_
    exact r_zret hQ rfl ((by decide)) dX2_hasBit_13 (roI_of (by simp [hasB, bI, *]))

set_option maxRecDepth 100000 in
set_option maxHeartbeats 4000000 in
theorem ctX3_isFull (l : Launch) (Ω : Om) (σ : Sg) (s n : Nat) (hs : s < 7) (hn : n ≤ 16) (hc : σ (iS s) 1 = nI n) : CtW l yX3_isFull wsX3_isFull (rmD 0) Ω [.ref (ad Ω (iS s))] σ (roI (bI (decide (n = 16))) σ) := by
  refine ct_intro [some (.ref (ad Ω (iS s)))] (by decide) rfl rfl (Nat.le_of_ble_eq_true rfl) (fun Γ hL hQ => ?_)
  show AtW mX3_isFull Γ Ω σ 0 [some (.ref (ad Ω (iS s)))] []
  refine r_aload_n dX3_isFull_0 rfl ?_
  refine fX3_1 s hs jX3_isFull_X3 lX3_isFull_18 dX3_isFull_1 ?_
  rw [hc]
  refine r_bipush 16 dX3_isFull_4 (by decide) ?_
  refine r_icmp_lt 13 dX3_isFull_6 (by decide) (fun c6 => ?_) (fun c6 => ?_)
  ·
    have n6 := (nI_ltI (a := n) (b := 16) (by omega) (by omega)).mp c6
    refine r_iconst 0 dX3_isFull_13 (by decide) ?_
    exact r_zret hQ rfl ((by decide)) dX3_isFull_14 (roI_of (by simp [bI]; omega))
  ·
    have n6 := Nat.not_lt.mp (fun q => c6 ((nI_ltI (a := n) (b := 16) (by omega) (by omega)).mpr q))
    refine r_iconst 1 dX3_isFull_9 (by decide) ?_
    refine r_goto 14 dX3_isFull_10 (by decide) ?_
    exact r_zret hQ rfl ((by decide)) dX3_isFull_14 (roI_of (by simp [bI]; omega))

set_option maxRecDepth 100000 in
set_option maxHeartbeats 4000000 in
theorem ctX3_slotOf (l : Launch) (Ω : Om) (σ : Sg) (s n : Nat) (hs : s < 7) (hn : n ≤ 16) (hc : σ (iS s) 1 = nI n) (x : Int32) : CtW l yX3_slotOf wsX3_slotOf (rmD 0) Ω [.ref (ad Ω (iS s)), .int x] σ (roI (fI (fun k => decide (σ (iBo (bx s k)) 0 = x)) n) σ) := by
  refine ct_intro [some (.ref (ad Ω (iS s))), some (.int x), none] (by decide) rfl rfl (Nat.le_of_ble_eq_true rfl) (fun Γ hL hQ => ?_)
  show AtW mX3_slotOf Γ Ω σ 0 [some (.ref (ad Ω (iS s))), some (.int x), none] []
  refine r_iconst 0 dX3_slotOf_0 (by decide) ?_
  refine r_istore_n dX3_slotOf_1 (by decide) rfl ?_
  have L1 : ∀ (N : Nat) (k : Nat), k ≤ n → (∀ j, j < k → (decide (σ (iBo (bx s j)) 0 = x)) = false) → n < k + N → AtW mX3_slotOf Γ Ω σ 2 [some (.ref (ad Ω (iS s))), some (.int x), some (.int (nI k))] [] := by
    intro N
    induction N with
    | zero =>
      intro k hk hp hN
      exact absurd hN (by omega)
    | succ N ih =>
      intro k hk hp hN
      refine r_iload_n dX3_slotOf_2 rfl ?_
      refine r_aload_n dX3_slotOf_3 rfl ?_
      refine fX3_1 s hs jX3_slotOf_X3 lX3_slotOf_18 dX3_slotOf_4 ?_
      rw [hc]
      refine r_icmp_ge 31 dX3_slotOf_7 (by decide) (fun c7 => ?_) (fun c7 => ?_)
      ·
        replace c7 := Int32.not_lt.mpr c7
        have n7 := Nat.not_lt.mp (fun q => c7 ((nI_ltI (a := k) (b := n) (by omega) (by omega)).mpr q))
        refine r_iconst (-1) dX3_slotOf_31 (by decide) ?_
        have ek : n = k := by omega
        subst ek
        exact r_iret hQ rfl dX3_slotOf_32 (roI_of (by rw [fI_none hp]))
      ·
        replace c7 := Int32.not_le.mp c7
        have n7 := (nI_ltI (a := k) (b := n) (by omega) (by omega)).mp c7
        refine r_aload_n dX3_slotOf_10 rfl ?_
        refine fX3_0 s hs jX3_slotOf_X3 lX3_slotOf_11 dX3_slotOf_11 ?_
        refine r_iload_n dX3_slotOf_14 rfl ?_
        refine r_aaldB s hs k rfl (by omega) dX3_slotOf_15 ?_
        refine fX0_0 (bx s k) (bx_lt hs (by omega)) jX3_slotOf_X0 lX3_slotOf_35 dX3_slotOf_16 ?_
        refine r_iload_n dX3_slotOf_19 rfl ?_
        refine r_icmp_ne 25 dX3_slotOf_20 (by decide) (fun c20 => ?_) (fun c20 => ?_)
        ·
          refine r_iinc (nI (k + 1)) dX3_slotOf_25 rfl (nI_1 k) (by decide) rfl ?_
          refine r_goto 2 dX3_slotOf_28 (by decide) ?_
          exact ih (k + 1) (by omega) (lt_s hp (by simp [c20])) (by omega)
        ·
          refine r_iload_n dX3_slotOf_23 rfl ?_
          exact r_iret hQ rfl dX3_slotOf_24 (roI_of (by rw [fI_hit hp (by simp [c20]) n7]))
  exact L1 (n + 1) 0 (by omega) (fun j hj => absurd hj (by omega)) (by omega)

set_option maxRecDepth 100000 in
set_option maxHeartbeats 4000000 in
theorem ctX3_isCutBy (l : Launch) (Ω : Om) (σ : Sg) (s n : Nat) (hs : s < 7) (hn : n ≤ 16) (hc : σ (iS s) 1 = nI n) (o : Nat) (ho : o < 113) (w : Int32) : CtW l yX3_isCutBy wsX3_isCutBy (rmD 2) Ω [.ref (ad Ω (iS s)), .ref (ad Ω (iBo o)), .int w] σ (roI (bI (anyb (fun k => !decide (nI k = w) && ctBx (σ (iL (bx s k))) (σ (iH (bx s k))) (σ (iL o)) (σ (iH o))) n)) σ) := by
  refine ct_intro [some (.ref (ad Ω (iS s))), some (.ref (ad Ω (iBo o))), some (.int w), none] (by decide) rfl rfl (Nat.le_of_ble_eq_true rfl) (fun Γ hL hQ => ?_)
  show AtW mX3_isCutBy Γ Ω σ 0 [some (.ref (ad Ω (iS s))), some (.ref (ad Ω (iBo o))), some (.int w), none] []
  refine r_iconst 0 dX3_isCutBy_0 (by decide) ?_
  refine r_istore_n dX3_isCutBy_1 (by decide) rfl ?_
  have L1 : ∀ (N : Nat) (k : Nat), k ≤ n → (∀ j, j < k → (fun k => !decide (nI k = w) && ctBx (σ (iL (bx s k))) (σ (iH (bx s k))) (σ (iL o)) (σ (iH o))) j = false) → n < k + N → AtW mX3_isCutBy Γ Ω σ 2 [some (.ref (ad Ω (iS s))), some (.ref (ad Ω (iBo o))), some (.int w), some (.int (nI k))] [] := by
    intro N
    induction N with
    | zero =>
      intro k hk hp hN
      exact absurd hN (by omega)
    | succ N ih =>
      intro k hk hp hN
      refine r_iload_n dX3_isCutBy_2 rfl ?_
      refine r_aload_n dX3_isCutBy_3 rfl ?_
      refine fX3_1 s hs jX3_isCutBy_X3 lX3_isCutBy_18 dX3_isCutBy_4 ?_
      rw [hc]
      refine r_icmp_ge 36 dX3_isCutBy_7 (by decide) (fun c7 => ?_) (fun c7 => ?_)
      ·
        replace c7 := Int32.not_lt.mpr c7
        have n7 := Nat.not_lt.mp (fun q => c7 ((nI_ltI (a := k) (b := n) (by omega) (by omega)).mpr q))
        refine r_iconst 0 dX3_isCutBy_36 (by decide) ?_
        have ek : n = k := by omega
        subst ek
        exact r_zret hQ rfl ((by decide)) dX3_isCutBy_37 (roI_of (by rw [anyb_f hp]; rfl))
      ·
        replace c7 := Int32.not_le.mp c7
        have n7 := (nI_ltI (a := k) (b := n) (by omega) (by omega)).mp c7
        refine r_iload_n dX3_isCutBy_10 rfl ?_
        refine r_iload_n dX3_isCutBy_11 rfl ?_
        refine r_icmp_eq 30 dX3_isCutBy_12 (by decide) (fun c12 => ?_) (fun c12 => ?_)
        ·
          refine r_iinc (nI (k + 1)) dX3_isCutBy_30 rfl (nI_1 k) (by decide) rfl ?_
          refine r_goto 2 dX3_isCutBy_33 (by decide) ?_
          exact ih (k + 1) (by omega) (lt_s hp (by simp [c12])) (by omega)
        ·
          refine r_aload_n dX3_isCutBy_15 rfl ?_
          refine fX3_0 s hs jX3_isCutBy_X3 lX3_isCutBy_11 dX3_isCutBy_16 ?_
          refine r_iload_n dX3_isCutBy_19 rfl ?_
          refine r_aaldB s hs k rfl (by omega) dX3_isCutBy_20 ?_
          refine r_aload_n dX3_isCutBy_21 rfl ?_
          refine r_callVI (iBo (bx s k)) hL (ctX0_cuts l Ω _ (bx s k) o (bx_lt hs (by omega)) ho) kX3_isCutBy_38 (iB_lt (bx_lt hs (by omega))) ⟨_, _, _, cel_box (bx_lt hs (by omega)), rfl, rfl⟩ rfl rfl (Nat.le_of_ble_eq_true rfl) dX3_isCutBy_22 ?_
          refine r_if_eq 30 dX3_isCutBy_25 (by decide) (fun c25 => ?_) (fun c25 => ?_)
          ·
            replace c25 := bI_f c25
            refine r_iinc (nI (k + 1)) dX3_isCutBy_30 rfl (nI_1 k) (by decide) rfl ?_
            refine r_goto 2 dX3_isCutBy_33 (by decide) ?_
            exact ih (k + 1) (by omega) (lt_s hp (by simp [c25])) (by omega)
          ·
            replace c25 := bI_t c25
            refine r_iconst 1 dX3_isCutBy_28 (by decide) ?_
            exact r_zret hQ rfl ((by decide)) dX3_isCutBy_29 (roI_of (by rw [anyb_t (k := k) (by simp [c12, c25]) n7]; rfl))
  exact L1 (n + 1) 0 (by omega) (fun j hj => absurd hj (by omega)) (by omega)

set_option maxRecDepth 100000 in
set_option maxHeartbeats 4000000 in
theorem ctX3_weightInDrawing (l : Launch) (Ω : Om) (σ : Sg) (s k : Nat) (hs : s < 7) (hk : k < 16) : CtW l yX3_weightInDrawing wsX3_weightInDrawing (rmD 2) Ω [.ref (ad Ω (iS s)), .int (nI k)] σ (roI (wtS σ s k) σ) := by
  refine ct_intro [some (.ref (ad Ω (iS s))), some (.int (nI k))] (by decide) rfl rfl (Nat.le_of_ble_eq_true rfl) (fun Γ hL hQ => ?_)
  show AtW mX3_weightInDrawing Γ Ω σ 0 [some (.ref (ad Ω (iS s))), some (.int (nI k))] []
  refine r_aload_n dX3_weightInDrawing_0 rfl ?_
  refine fX3_4 s hs jX3_weightInDrawing_X3 lX3_weightInDrawing_28 dX3_weightInDrawing_1 ?_
  by_cases w1 : σ (iS s) 4 = 1
  ·
    rw [w1]
    refine r_lookup 28 32 dX3_weightInDrawing_4 (by decide) (by decide) (by decide) ?_
    refine r_aload_n dX3_weightInDrawing_32 rfl ?_
    refine fX3_0 s hs jX3_weightInDrawing_X3 lX3_weightInDrawing_11 dX3_weightInDrawing_33 ?_
    refine r_iload_n dX3_weightInDrawing_36 rfl ?_
    refine r_aaldB s hs k rfl (by omega) dX3_weightInDrawing_37 ?_
    refine r_callVI (iBo (bx s k)) hL (ctX0_sumOfCorner l Ω _ (bx s k) (bx_lt hs (by omega))) kX3_weightInDrawing_57 (iB_lt (bx_lt hs (by omega))) ⟨_, _, _, cel_box (bx_lt hs (by omega)), rfl, rfl⟩ rfl rfl (Nat.le_of_ble_eq_true rfl) dX3_weightInDrawing_38 ?_
    exact r_iret hQ rfl dX3_weightInDrawing_41 (roI_of (by simp [wtS, w1]))
  by_cases w2 : σ (iS s) 4 = 2
  ·
    rw [w2]
    refine r_lookup 38 42 dX3_weightInDrawing_4 (by decide) (by decide) (by decide) ?_
    refine r_aload_n dX3_weightInDrawing_42 rfl ?_
    refine fX3_0 s hs jX3_weightInDrawing_X3 lX3_weightInDrawing_11 dX3_weightInDrawing_43 ?_
    refine r_iload_n dX3_weightInDrawing_46 rfl ?_
    refine r_aaldB s hs k rfl (by omega) dX3_weightInDrawing_47 ?_
    refine r_callVI (iBo (bx s k)) hL (ctX0_volume l Ω _ (bx s k) (bx_lt hs (by omega))) kX3_weightInDrawing_61 (iB_lt (bx_lt hs (by omega))) ⟨_, _, _, cel_box (bx_lt hs (by omega)), rfl, rfl⟩ rfl rfl (Nat.le_of_ble_eq_true rfl) dX3_weightInDrawing_48 ?_
    exact r_iret hQ rfl dX3_weightInDrawing_51 (roI_of (by simp [wtS, w1, w2]))
  refine r_lookup 48 52 dX3_weightInDrawing_4 (by decide) ((lv_osw (k := 1) w1 (by decide)).trans ((lv_osw (k := 2) w2 (by decide)).trans rfl)) (by decide) ?_
  refine r_iconst 0 dX3_weightInDrawing_52 (by decide) ?_
  exact r_iret hQ rfl dX3_weightInDrawing_53 (roI_of (by simp [wtS, w1, w2]))

set_option maxRecDepth 100000 in
set_option maxHeartbeats 4000000 in
theorem ctX3_volume (l : Launch) (Ω : Om) (σ : Sg) (s n : Nat) (hs : s < 7) (hn : n ≤ 16) (hc : σ (iS s) 1 = nI n) : CtW l yX3_volume wsX3_volume (rmD 2) Ω [.ref (ad Ω (iS s))] σ (roI (sumI (fun k => voB σ (bx s k)) n) σ) := by
  refine ct_intro [some (.ref (ad Ω (iS s))), none, none] (by decide) rfl rfl (Nat.le_of_ble_eq_true rfl) (fun Γ hL hQ => ?_)
  show AtW mX3_volume Γ Ω σ 0 [some (.ref (ad Ω (iS s))), none, none] []
  refine r_iconst 0 dX3_volume_0 (by decide) ?_
  refine r_istore_n dX3_volume_1 (by decide) rfl ?_
  refine r_iconst 0 dX3_volume_2 (by decide) ?_
  refine r_istore_n dX3_volume_3 (by decide) rfl ?_
  have L1 : ∀ (N : Nat) (k : Nat) (x : Int32), k ≤ n → x = sumI (fun k => voB σ (bx s k)) k → n < k + N → AtW mX3_volume Γ Ω σ 4 [some (.ref (ad Ω (iS s))), some (.int x), some (.int (nI k))] [] := by
    intro N
    induction N with
    | zero =>
      intro k x hk hx hN
      exact absurd hN (by omega)
    | succ N ih =>
      intro k x hk hx hN
      refine r_iload_n dX3_volume_4 rfl ?_
      refine r_aload_n dX3_volume_5 rfl ?_
      refine fX3_1 s hs jX3_volume_X3 lX3_volume_18 dX3_volume_6 ?_
      rw [hc]
      refine r_icmp_ge 30 dX3_volume_9 (by decide) (fun c9 => ?_) (fun c9 => ?_)
      ·
        replace c9 := Int32.not_lt.mpr c9
        have n9 := Nat.not_lt.mp (fun q => c9 ((nI_ltI (a := k) (b := n) (by omega) (by omega)).mpr q))
        refine r_iload_n dX3_volume_30 rfl ?_
        have ek : n = k := by omega
        subst ek
        exact r_iret hQ rfl dX3_volume_31 (roI_of hx)
      ·
        replace c9 := Int32.not_le.mp c9
        have n9 := (nI_ltI (a := k) (b := n) (by omega) (by omega)).mp c9
        refine r_iload_n dX3_volume_12 rfl ?_
        refine r_aload_n dX3_volume_13 rfl ?_
        refine fX3_0 s hs jX3_volume_X3 lX3_volume_11 dX3_volume_14 ?_
        refine r_iload_n dX3_volume_17 rfl ?_
        refine r_aaldB s hs k rfl (by omega) dX3_volume_18 ?_
        refine r_callVI (iBo (bx s k)) hL (ctX0_volume l Ω _ (bx s k) (bx_lt hs (by omega))) kX3_volume_61 (iB_lt (bx_lt hs (by omega))) ⟨_, _, _, cel_box (bx_lt hs (by omega)), rfl, rfl⟩ rfl rfl (Nat.le_of_ble_eq_true rfl) dX3_volume_19 ?_
        refine r_iadd dX3_volume_22 ?_
        refine r_istore_n dX3_volume_23 (by decide) rfl ?_
        refine r_iinc (nI (k + 1)) dX3_volume_24 rfl (nI_1 k) (by decide) rfl ?_
        refine r_goto 4 dX3_volume_27 (by decide) ?_
        exact ih (k + 1) _ (by omega) (by rw [hx]; rfl) (by omega)
  exact L1 (n + 1) 0 0 (by omega) rfl (by omega)

set_option maxRecDepth 100000 in
set_option maxHeartbeats 4000000 in
theorem ctX3_groundUnder (l : Launch) (Ω : Om) (σ : Sg) (s n : Nat) (hs : s < 7) (hn : n ≤ 16) (hc : σ (iS s) 1 = nI n) (u : Nat) (hu : u < 16) : CtW l yX3_groundUnder wsX3_groundUnder (rmD 2) Ω [.ref (ad Ω (iS s)), .int (nI u)] σ (roI (grS σ s u n) σ) := by
  refine ct_intro [some (.ref (ad Ω (iS s))), some (.int (nI u)), none, none] (by decide) rfl rfl (Nat.le_of_ble_eq_true rfl) (fun Γ hL hQ => ?_)
  show AtW mX3_groundUnder Γ Ω σ 0 [some (.ref (ad Ω (iS s))), some (.int (nI u)), none, none] []
  refine r_iconst 0 dX3_groundUnder_0 (by decide) ?_
  refine r_istore_n dX3_groundUnder_1 (by decide) rfl ?_
  refine r_iconst 0 dX3_groundUnder_2 (by decide) ?_
  refine r_istore_n dX3_groundUnder_3 (by decide) rfl ?_
  have L1 : ∀ (N : Nat) (k : Nat) (x : Int32), k ≤ n → x = grS σ s u k → n < k + N → AtW mX3_groundUnder Γ Ω σ 4 [some (.ref (ad Ω (iS s))), some (.int (nI u)), some (.int x), some (.int (nI k))] [] := by
    intro N
    induction N with
    | zero =>
      intro k x hk hx hN
      exact absurd hN (by omega)
    | succ N ih =>
      intro k x hk hx hN
      refine r_iload_n dX3_groundUnder_4 rfl ?_
      refine r_aload_n dX3_groundUnder_5 rfl ?_
      refine fX3_1 s hs jX3_groundUnder_X3 lX3_groundUnder_18 dX3_groundUnder_6 ?_
      rw [hc]
      refine r_icmp_ge 52 dX3_groundUnder_9 (by decide) (fun c9 => ?_) (fun c9 => ?_)
      ·
        replace c9 := Int32.not_lt.mpr c9
        have n9 := Nat.not_lt.mp (fun q => c9 ((nI_ltI (a := k) (b := n) (by omega) (by omega)).mpr q))
        refine r_iload_n dX3_groundUnder_52 rfl ?_
        have ek : n = k := by omega
        subst ek
        exact r_iret hQ rfl dX3_groundUnder_53 (roI_of hx)
      ·
        replace c9 := Int32.not_le.mp c9
        have n9 := (nI_ltI (a := k) (b := n) (by omega) (by omega)).mp c9
        refine r_aload_n dX3_groundUnder_12 rfl ?_
        refine fX3_0 s hs jX3_groundUnder_X3 lX3_groundUnder_11 dX3_groundUnder_13 ?_
        refine r_iload_n dX3_groundUnder_16 rfl ?_
        refine r_aaldB s hs k rfl (by omega) dX3_groundUnder_17 ?_
        refine r_aload_n dX3_groundUnder_18 rfl ?_
        refine fX3_0 s hs jX3_groundUnder_X3 lX3_groundUnder_11 dX3_groundUnder_19 ?_
        refine r_iload_n dX3_groundUnder_22 rfl ?_
        refine r_aaldB s hs u rfl (by omega) dX3_groundUnder_23 ?_
        refine r_callVI (iBo (bx s k)) hL (ctX0_isBelow l Ω _ (bx s k) (bx s u) (bx_lt hs (by omega)) (bx_lt hs (by omega))) kX3_groundUnder_64 (iB_lt (bx_lt hs (by omega))) ⟨_, _, _, cel_box (bx_lt hs (by omega)), rfl, rfl⟩ rfl rfl (Nat.le_of_ble_eq_true rfl) dX3_groundUnder_24 ?_
        refine r_if_eq 46 dX3_groundUnder_27 (by decide) (fun c27 => ?_) (fun c27 => ?_)
        ·
          replace c27 := bI_f c27
          refine r_iinc (nI (k + 1)) dX3_groundUnder_46 rfl (nI_1 k) (by decide) rfl ?_
          refine r_goto 4 dX3_groundUnder_49 (by decide) ?_
          exact ih (k + 1) _ (by omega) (by rw [grS, c27, hx]; rfl) (by omega)
        ·
          replace c27 := bI_t c27
          refine r_iload_n dX3_groundUnder_30 rfl ?_
          refine r_aload_n dX3_groundUnder_31 rfl ?_
          refine fX3_0 s hs jX3_groundUnder_X3 lX3_groundUnder_11 dX3_groundUnder_32 ?_
          refine r_iload_n dX3_groundUnder_35 rfl ?_
          refine r_aaldB s hs k rfl (by omega) dX3_groundUnder_36 ?_
          refine fX0_2 (bx s k) (bx_lt hs (by omega)) jX3_groundUnder_X0 lX3_groundUnder_54 dX3_groundUnder_37 ?_
          refine r_iconst 2 dX3_groundUnder_40 (by decide) ?_
          refine ldH (bx s k) (bx_lt hs (by omega)) 2 rfl (by omega) dX3_groundUnder_41 ?_
          refine r_mmax 67 (by decide +kernel) (by decide +kernel) (by decide +kernel) (by decide +kernel) (by decide) (Nat.le_of_ble_eq_true rfl) dX3_groundUnder_42 ?_
          refine r_istore_n dX3_groundUnder_45 (by decide) rfl ?_
          refine r_iinc (nI (k + 1)) dX3_groundUnder_46 rfl (nI_1 k) (by decide) rfl ?_
          refine r_goto 4 dX3_groundUnder_49 (by decide) ?_
          exact ih (k + 1) _ (by omega) (by rw [grS, c27, hx]; rfl) (by omega)
  exact L1 (n + 1) 0 0 (by omega) rfl (by omega)

set_option maxRecDepth 100000 in
set_option maxHeartbeats 4000000 in
theorem ctX3_boxesBelow (l : Launch) (Ω : Om) (σ : Sg) (s n : Nat) (hs : s < 7) (hn : n ≤ 16) (hc : σ (iS s) 1 = nI n) (u : Nat) (hu : u < 16) : CtW l yX3_boxesBelow wsX3_boxesBelow (rmD 2) Ω [.ref (ad Ω (iS s)), .int (nI u)] σ (roI (cntI (fun k => beB (σ (iL (bx s k))) (σ (iH (bx s k))) (σ (iL (bx s u))) (σ (iH (bx s u)))) n) σ) := by
  refine ct_intro [some (.ref (ad Ω (iS s))), some (.int (nI u)), none, none] (by decide) rfl rfl (Nat.le_of_ble_eq_true rfl) (fun Γ hL hQ => ?_)
  show AtW mX3_boxesBelow Γ Ω σ 0 [some (.ref (ad Ω (iS s))), some (.int (nI u)), none, none] []
  refine r_iconst 0 dX3_boxesBelow_0 (by decide) ?_
  refine r_istore_n dX3_boxesBelow_1 (by decide) rfl ?_
  refine r_iconst 0 dX3_boxesBelow_2 (by decide) ?_
  refine r_istore_n dX3_boxesBelow_3 (by decide) rfl ?_
  have L1 : ∀ (N : Nat) (k : Nat) (x : Int32), k ≤ n → x = cntI (fun k => beB (σ (iL (bx s k))) (σ (iH (bx s k))) (σ (iL (bx s u))) (σ (iH (bx s u)))) k → n < k + N → AtW mX3_boxesBelow Γ Ω σ 4 [some (.ref (ad Ω (iS s))), some (.int (nI u)), some (.int x), some (.int (nI k))] [] := by
    intro N
    induction N with
    | zero =>
      intro k x hk hx hN
      exact absurd hN (by omega)
    | succ N ih =>
      intro k x hk hx hN
      refine r_iload_n dX3_boxesBelow_4 rfl ?_
      refine r_aload_n dX3_boxesBelow_5 rfl ?_
      refine fX3_1 s hs jX3_boxesBelow_X3 lX3_boxesBelow_18 dX3_boxesBelow_6 ?_
      rw [hc]
      refine r_icmp_ge 39 dX3_boxesBelow_9 (by decide) (fun c9 => ?_) (fun c9 => ?_)
      ·
        replace c9 := Int32.not_lt.mpr c9
        have n9 := Nat.not_lt.mp (fun q => c9 ((nI_ltI (a := k) (b := n) (by omega) (by omega)).mpr q))
        refine r_iload_n dX3_boxesBelow_39 rfl ?_
        have ek : n = k := by omega
        subst ek
        exact r_iret hQ rfl dX3_boxesBelow_40 (roI_of hx)
      ·
        replace c9 := Int32.not_le.mp c9
        have n9 := (nI_ltI (a := k) (b := n) (by omega) (by omega)).mp c9
        refine r_aload_n dX3_boxesBelow_12 rfl ?_
        refine fX3_0 s hs jX3_boxesBelow_X3 lX3_boxesBelow_11 dX3_boxesBelow_13 ?_
        refine r_iload_n dX3_boxesBelow_16 rfl ?_
        refine r_aaldB s hs k rfl (by omega) dX3_boxesBelow_17 ?_
        refine r_aload_n dX3_boxesBelow_18 rfl ?_
        refine fX3_0 s hs jX3_boxesBelow_X3 lX3_boxesBelow_11 dX3_boxesBelow_19 ?_
        refine r_iload_n dX3_boxesBelow_22 rfl ?_
        refine r_aaldB s hs u rfl (by omega) dX3_boxesBelow_23 ?_
        refine r_callVI (iBo (bx s k)) hL (ctX0_isBelow l Ω _ (bx s k) (bx s u) (bx_lt hs (by omega)) (bx_lt hs (by omega))) kX3_boxesBelow_64 (iB_lt (bx_lt hs (by omega))) ⟨_, _, _, cel_box (bx_lt hs (by omega)), rfl, rfl⟩ rfl rfl (Nat.le_of_ble_eq_true rfl) dX3_boxesBelow_24 ?_
        refine r_if_eq 33 dX3_boxesBelow_27 (by decide) (fun c27 => ?_) (fun c27 => ?_)
        ·
          replace c27 := bI_f c27
          refine r_iinc (nI (k + 1)) dX3_boxesBelow_33 rfl (nI_1 k) (by decide) rfl ?_
          refine r_goto 4 dX3_boxesBelow_36 (by decide) ?_
          exact ih (k + 1) _ (by omega) (by rw [cntI, if_neg (by simp [c27]), hx]) (by omega)
        ·
          replace c27 := bI_t c27
          refine r_iinc (_) dX3_boxesBelow_30 rfl (rfl) (by decide) rfl ?_
          refine r_iinc (nI (k + 1)) dX3_boxesBelow_33 rfl (nI_1 k) (by decide) rfl ?_
          refine r_goto 4 dX3_boxesBelow_36 (by decide) ?_
          exact ih (k + 1) _ (by omega) (by rw [cntI, if_pos (by simp [c27]), hx]; rfl) (by omega)
  exact L1 (n + 1) 0 0 (by omega) rfl (by omega)

set_option maxRecDepth 100000 in
set_option maxHeartbeats 4000000 in
theorem ctX3_supportsOf (l : Launch) (Ω : Om) (σ : Sg) (s n : Nat) (hs : s < 7) (hn : n ≤ 16) (hc : σ (iS s) 1 = nI n) (u : Nat) (hu : u < 16) : CtW l yX3_supportsOf wsX3_supportsOf (rmD 2) Ω [.ref (ad Ω (iS s)), .int (nI u)] σ (roI (cntI (fun k => beB (σ (iL (bx s k))) (σ (iH (bx s k))) (σ (iL (bx s u))) (σ (iH (bx s u))) && decide (σ (iH (bx s k)) 2 = σ (iL (bx s u)) 2)) n) σ) := by
  refine ct_intro [some (.ref (ad Ω (iS s))), some (.int (nI u)), none, none, none] (by decide) rfl rfl (Nat.le_of_ble_eq_true rfl) (fun Γ hL hQ => ?_)
  show AtW mX3_supportsOf Γ Ω σ 0 [some (.ref (ad Ω (iS s))), some (.int (nI u)), none, none, none] []
  refine r_aload_n dX3_supportsOf_0 rfl ?_
  refine fX3_0 s hs jX3_supportsOf_X3 lX3_supportsOf_11 dX3_supportsOf_1 ?_
  refine r_iload_n dX3_supportsOf_4 rfl ?_
  refine r_aaldB s hs u rfl (by omega) dX3_supportsOf_5 ?_
  refine r_astore_n dX3_supportsOf_6 (by decide) rfl ?_
  refine r_iconst 0 dX3_supportsOf_7 (by decide) ?_
  refine r_istore_n dX3_supportsOf_8 (by decide) rfl ?_
  refine r_iconst 0 dX3_supportsOf_9 (by decide) ?_
  refine r_istore dX3_supportsOf_10 (by decide) rfl ?_
  have L1 : ∀ (N : Nat) (k : Nat) (x : Int32), k ≤ n → x = cntI (fun k => beB (σ (iL (bx s k))) (σ (iH (bx s k))) (σ (iL (bx s u))) (σ (iH (bx s u))) && decide (σ (iH (bx s k)) 2 = σ (iL (bx s u)) 2)) k → n < k + N → AtW mX3_supportsOf Γ Ω σ 12 [some (.ref (ad Ω (iS s))), some (.int (nI u)), some (.ref (ad Ω (iBo (bx s u)))), some (.int x), some (.int (nI k))] [] := by
    intro N
    induction N with
    | zero =>
      intro k x hk hx hN
      exact absurd hN (by omega)
    | succ N ih =>
      intro k x hk hx hN
      refine r_iload dX3_supportsOf_12 rfl ?_
      refine r_aload_n dX3_supportsOf_14 rfl ?_
      refine fX3_1 s hs jX3_supportsOf_X3 lX3_supportsOf_18 dX3_supportsOf_15 ?_
      rw [hc]
      refine r_icmp_ge 65 dX3_supportsOf_18 (by decide) (fun c18 => ?_) (fun c18 => ?_)
      ·
        replace c18 := Int32.not_lt.mpr c18
        have n18 := Nat.not_lt.mp (fun q => c18 ((nI_ltI (a := k) (b := n) (by omega) (by omega)).mpr q))
        refine r_iload_n dX3_supportsOf_65 rfl ?_
        have ek : n = k := by omega
        subst ek
        exact r_iret hQ rfl dX3_supportsOf_66 (roI_of hx)
      ·
        replace c18 := Int32.not_le.mp c18
        have n18 := (nI_ltI (a := k) (b := n) (by omega) (by omega)).mp c18
        refine r_aload_n dX3_supportsOf_21 rfl ?_
        refine fX3_0 s hs jX3_supportsOf_X3 lX3_supportsOf_11 dX3_supportsOf_22 ?_
        refine r_iload dX3_supportsOf_25 rfl ?_
        refine r_aaldB s hs k rfl (by omega) dX3_supportsOf_27 ?_
        refine r_aload_n dX3_supportsOf_28 rfl ?_
        refine r_callVI (iBo (bx s k)) hL (ctX0_isBelow l Ω _ (bx s k) (bx s u) (bx_lt hs (by omega)) (bx_lt hs (by omega))) kX3_supportsOf_64 (iB_lt (bx_lt hs (by omega))) ⟨_, _, _, cel_box (bx_lt hs (by omega)), rfl, rfl⟩ rfl rfl (Nat.le_of_ble_eq_true rfl) dX3_supportsOf_29 ?_
        refine r_if_eq 59 dX3_supportsOf_32 (by decide) (fun c32 => ?_) (fun c32 => ?_)
        ·
          replace c32 := bI_f c32
          refine r_iinc (nI (k + 1)) dX3_supportsOf_59 rfl (nI_1 k) (by decide) rfl ?_
          refine r_goto 12 dX3_supportsOf_62 (by decide) ?_
          exact ih (k + 1) _ (by omega) (by rw [cntI, if_neg (by simp [c32]), hx]) (by omega)
        ·
          replace c32 := bI_t c32
          refine r_aload_n dX3_supportsOf_35 rfl ?_
          refine fX3_0 s hs jX3_supportsOf_X3 lX3_supportsOf_11 dX3_supportsOf_36 ?_
          refine r_iload dX3_supportsOf_39 rfl ?_
          refine r_aaldB s hs k rfl (by omega) dX3_supportsOf_41 ?_
          refine fX0_2 (bx s k) (bx_lt hs (by omega)) jX3_supportsOf_X0 lX3_supportsOf_54 dX3_supportsOf_42 ?_
          refine r_iconst 2 dX3_supportsOf_45 (by decide) ?_
          refine ldH (bx s k) (bx_lt hs (by omega)) 2 rfl (by omega) dX3_supportsOf_46 ?_
          refine r_aload_n dX3_supportsOf_47 rfl ?_
          refine fX0_1 (bx s u) (bx_lt hs (by omega)) jX3_supportsOf_X0 lX3_supportsOf_50 dX3_supportsOf_48 ?_
          refine r_iconst 2 dX3_supportsOf_51 (by decide) ?_
          refine ldL (bx s u) (bx_lt hs (by omega)) 2 rfl (by omega) dX3_supportsOf_52 ?_
          refine r_icmp_ne 59 dX3_supportsOf_53 (by decide) (fun c53 => ?_) (fun c53 => ?_)
          ·
            refine r_iinc (nI (k + 1)) dX3_supportsOf_59 rfl (nI_1 k) (by decide) rfl ?_
            refine r_goto 12 dX3_supportsOf_62 (by decide) ?_
            exact ih (k + 1) _ (by omega) (by rw [cntI, if_neg (by simp [c53]), hx]) (by omega)
          ·
            refine r_iinc (_) dX3_supportsOf_56 rfl (rfl) (by decide) rfl ?_
            refine r_iinc (nI (k + 1)) dX3_supportsOf_59 rfl (nI_1 k) (by decide) rfl ?_
            refine r_goto 12 dX3_supportsOf_62 (by decide) ?_
            exact ih (k + 1) _ (by omega) (by rw [cntI, if_pos (by simp [c32, c53]), hx]; rfl) (by omega)
  exact L1 (n + 1) 0 0 (by omega) rfl (by omega)

set_option maxRecDepth 100000 in
set_option maxHeartbeats 4000000 in
theorem ctX3_shadowOn (l : Launch) (Ω : Om) (σ : Sg) (s n : Nat) (hs : s < 7) (hn : n ≤ 16) (hc : σ (iS s) 1 = nI n) (u : Nat) (hu : u < 16) (a m : Nat) (ham : a + m ≤ 64) (hla : σ (iL (bx s u)) 1 = nI a) (hha : σ (iH (bx s u)) 1 = nI (a + m)) : CtW l yX3_shadowOn wsX3_shadowOn (rmD 2) Ω [.ref (ad Ω (iS s)), .int (nI u)] σ (roI (sumI (fun k => bcI (shR σ s u n (a + k) &&& rwB σ (bx s u))) m) σ) := by
  refine ct_intro [some (.ref (ad Ω (iS s))), some (.int (nI u)), none, none, none, none, none] (by decide) rfl rfl (Nat.le_of_ble_eq_true rfl) (fun Γ hL hQ => ?_)
  show AtW mX3_shadowOn Γ Ω σ 0 [some (.ref (ad Ω (iS s))), some (.int (nI u)), none, none, none, none, none] []
  refine r_aload_n dX3_shadowOn_0 rfl ?_
  refine fX3_0 s hs jX3_shadowOn_X3 lX3_shadowOn_11 dX3_shadowOn_1 ?_
  refine r_iload_n dX3_shadowOn_4 rfl ?_
  refine r_aaldB s hs u rfl (by omega) dX3_shadowOn_5 ?_
  refine r_astore_n dX3_shadowOn_6 (by decide) rfl ?_
  refine r_iconst 0 dX3_shadowOn_7 (by decide) ?_
  refine r_istore_n dX3_shadowOn_8 (by decide) rfl ?_
  refine r_aload_n dX3_shadowOn_9 rfl ?_
  refine fX0_1 (bx s u) (bx_lt hs (by omega)) jX3_shadowOn_X0 lX3_shadowOn_50 dX3_shadowOn_10 ?_
  refine r_iconst 1 dX3_shadowOn_13 (by decide) ?_
  refine ldL (bx s u) (bx_lt hs (by omega)) 1 rfl (by omega) dX3_shadowOn_14 ?_
  rw [hla]
  refine r_istore dX3_shadowOn_15 (by decide) rfl ?_
  have L1 : ∀ (N : Nat) (k : Nat) (x : Int32) (v5 v6 : Option Value), k ≤ m → x = sumI (fun k => bcI (shR σ s u n (a + k) &&& rwB σ (bx s u))) k → m < k + N → AtW mX3_shadowOn Γ Ω σ 17 [some (.ref (ad Ω (iS s))), some (.int (nI u)), some (.ref (ad Ω (iBo (bx s u)))), some (.int x), some (.int (nI (a + k))), v5, v6] [] := by
    intro N
    induction N with
    | zero =>
      intro k x v5 v6 hk hx hN
      exact absurd hN (by omega)
    | succ N ih =>
      intro k x v5 v6 hk hx hN
      refine r_iload dX3_shadowOn_17 rfl ?_
      refine r_aload_n dX3_shadowOn_19 rfl ?_
      refine fX0_2 (bx s u) (bx_lt hs (by omega)) jX3_shadowOn_X0 lX3_shadowOn_54 dX3_shadowOn_20 ?_
      refine r_iconst 1 dX3_shadowOn_23 (by decide) ?_
      refine ldH (bx s u) (bx_lt hs (by omega)) 1 rfl (by omega) dX3_shadowOn_24 ?_
      rw [hha]
      refine r_icmp_ge 112 dX3_shadowOn_25 (by decide) (fun c25 => ?_) (fun c25 => ?_)
      ·
        replace c25 := Int32.not_lt.mpr c25
        have n25 := Nat.not_lt.mp (fun q => c25 ((nI_ltI (a := a + k) (b := a + m) (by omega) (by omega)).mpr q))
        refine r_iload_n dX3_shadowOn_112 rfl ?_
        have ek : m = k := by omega
        subst ek
        exact r_iret hQ rfl dX3_shadowOn_113 (roI_of hx)
      ·
        replace c25 := Int32.not_le.mp c25
        have n25 := (nI_ltI (a := a + k) (b := a + m) (by omega) (by omega)).mp c25
        have ih0 := ih
        refine r_iconst 0 dX3_shadowOn_28 (by decide) ?_
        refine r_istore dX3_shadowOn_29 (by decide) rfl ?_
        refine r_iconst 0 dX3_shadowOn_31 (by decide) ?_
        refine r_istore dX3_shadowOn_32 (by decide) rfl ?_
        have L2 : ∀ (N : Nat) (j : Nat) (z : Int32), j ≤ n → z = orI (shPd σ s u (a + k)) (fun j => rwB σ (bx s j)) j → n < j + N → AtW mX3_shadowOn Γ Ω σ 34 [some (.ref (ad Ω (iS s))), some (.int (nI u)), some (.ref (ad Ω (iBo (bx s u)))), some (.int x), some (.int (nI (a + k))), some (.int z), some (.int (nI j))] [] := by
          intro N
          induction N with
          | zero =>
            intro j z hj hz hN
            exact absurd hN (by omega)
          | succ N ih =>
            intro j z hj hz hN
            refine r_iload dX3_shadowOn_34 rfl ?_
            refine r_aload_n dX3_shadowOn_36 rfl ?_
            refine fX3_1 s hs jX3_shadowOn_X3 lX3_shadowOn_18 dX3_shadowOn_37 ?_
            rw [hc]
            refine r_icmp_ge 93 dX3_shadowOn_40 (by decide) (fun c40 => ?_) (fun c40 => ?_)
            ·
              replace c40 := Int32.not_lt.mpr c40
              have n40 := Nat.not_lt.mp (fun q => c40 ((nI_ltI (a := j) (b := n) (by omega) (by omega)).mpr q))
              have ej : n = j := by omega
              subst ej
              refine r_iload_n dX3_shadowOn_93 rfl ?_
              refine r_iload dX3_shadowOn_94 rfl ?_
              refine r_aload_n dX3_shadowOn_96 rfl ?_
              refine r_callVI (iBo (bx s u)) hL (ctX0_rowOfCells l Ω _ (bx s u) (bx_lt hs (by omega))) kX3_shadowOn_77 (iB_lt (bx_lt hs (by omega))) ⟨_, _, _, cel_box (bx_lt hs (by omega)), rfl, rfl⟩ rfl rfl (Nat.le_of_ble_eq_true rfl) dX3_shadowOn_97 ?_
              refine r_iand dX3_shadowOn_100 ?_
              refine r_callSI hL (ctJ6_bitCount_0f7a4 l Ω _ _) kX3_shadowOn_80 rfl rfl (Nat.le_of_ble_eq_true rfl) dX3_shadowOn_101 ?_
              refine r_iadd dX3_shadowOn_104 ?_
              refine r_istore_n dX3_shadowOn_105 (by decide) rfl ?_
              refine r_iinc (nI (a + k + 1)) dX3_shadowOn_106 rfl (nI_1 (a + k)) (by decide) rfl ?_
              refine r_goto 17 dX3_shadowOn_109 (by decide) ?_
              exact ih0 (k + 1) _ _ _ (by omega) (by rw [hx, hz]; rfl) (by omega)
            ·
              replace c40 := Int32.not_le.mp c40
              have n40 := (nI_ltI (a := j) (b := n) (by omega) (by omega)).mp c40
              refine r_aload_n dX3_shadowOn_43 rfl ?_
              refine r_aload_n dX3_shadowOn_44 rfl ?_
              refine fX3_0 s hs jX3_shadowOn_X3 lX3_shadowOn_11 dX3_shadowOn_45 ?_
              refine r_iload dX3_shadowOn_48 rfl ?_
              refine r_aaldB s hs j rfl (by omega) dX3_shadowOn_50 ?_
              refine r_callVI (iBo (bx s u)) hL (ctX0_isBelow l Ω _ (bx s u) (bx s j) (bx_lt hs (by omega)) (bx_lt hs (by omega))) kX3_shadowOn_64 (iB_lt (bx_lt hs (by omega))) ⟨_, _, _, cel_box (bx_lt hs (by omega)), rfl, rfl⟩ rfl rfl (Nat.le_of_ble_eq_true rfl) dX3_shadowOn_51 ?_
              refine r_if_eq 87 dX3_shadowOn_54 (by decide) (fun c54 => ?_) (fun c54 => ?_)
              ·
                replace c54 := bI_f c54
                refine r_iinc (nI (j + 1)) dX3_shadowOn_87 rfl (nI_1 j) (by decide) rfl ?_
                refine r_goto 34 dX3_shadowOn_90 (by decide) ?_
                exact ih (j + 1) _ (by omega) (by rw [orI, if_neg (by simp [shPd, c54]), hz]) (by omega)
              ·
                replace c54 := bI_t c54
                refine r_aload_n dX3_shadowOn_57 rfl ?_
                refine fX3_0 s hs jX3_shadowOn_X3 lX3_shadowOn_11 dX3_shadowOn_58 ?_
                refine r_iload dX3_shadowOn_61 rfl ?_
                refine r_aaldB s hs j rfl (by omega) dX3_shadowOn_63 ?_
                refine r_iload dX3_shadowOn_64 rfl ?_
                refine r_callVI (iBo (bx s j)) hL (ctX0_coversRow l Ω _ (bx s j) _ (bx_lt hs (by omega))) kX3_shadowOn_73 (iB_lt (bx_lt hs (by omega))) ⟨_, _, _, cel_box (bx_lt hs (by omega)), rfl, rfl⟩ rfl rfl (Nat.le_of_ble_eq_true rfl) dX3_shadowOn_66 ?_
                refine r_if_eq 87 dX3_shadowOn_69 (by decide) (fun c69 => ?_) (fun c69 => ?_)
                ·
                  replace c69 := bI_f c69
                  refine r_iinc (nI (j + 1)) dX3_shadowOn_87 rfl (nI_1 j) (by decide) rfl ?_
                  refine r_goto 34 dX3_shadowOn_90 (by decide) ?_
                  exact ih (j + 1) _ (by omega) (by rw [orI, if_neg (by simp [shPd, c69]), hz]) (by omega)
                ·
                  replace c69 := bI_t c69
                  refine r_iload dX3_shadowOn_72 rfl ?_
                  refine r_aload_n dX3_shadowOn_74 rfl ?_
                  refine fX3_0 s hs jX3_shadowOn_X3 lX3_shadowOn_11 dX3_shadowOn_75 ?_
                  refine r_iload dX3_shadowOn_78 rfl ?_
                  refine r_aaldB s hs j rfl (by omega) dX3_shadowOn_80 ?_
                  refine r_callVI (iBo (bx s j)) hL (ctX0_rowOfCells l Ω _ (bx s j) (bx_lt hs (by omega))) kX3_shadowOn_77 (iB_lt (bx_lt hs (by omega))) ⟨_, _, _, cel_box (bx_lt hs (by omega)), rfl, rfl⟩ rfl rfl (Nat.le_of_ble_eq_true rfl) dX3_shadowOn_81 ?_
                  refine r_ior dX3_shadowOn_84 ?_
                  refine r_istore dX3_shadowOn_85 (by decide) rfl ?_
                  refine r_iinc (nI (j + 1)) dX3_shadowOn_87 rfl (nI_1 j) (by decide) rfl ?_
                  refine r_goto 34 dX3_shadowOn_90 (by decide) ?_
                  exact ih (j + 1) _ (by omega) (by rw [orI, if_pos (by simp [shPd, c54, c69]), hz]) (by omega)
        exact L2 (n + 1) 0 0 (by omega) rfl (by omega)
  exact L1 (m + 1) 0 0 none none (by omega) rfl (by omega)

set_option maxRecDepth 100000 in
set_option maxHeartbeats 4000000 in
theorem ctX3_shadow (l : Launch) (Ω : Om) (σ : Sg) (s n : Nat) (hs : s < 7) (hn : n ≤ 16) (hc : σ (iS s) 1 = nI n) (fa fm : Nat → Nat) (hf : ∀ u, u < n → fa u + fm u ≤ 64 ∧ σ (iL (bx s u)) 1 = nI (fa u) ∧ σ (iH (bx s u)) 1 = nI (fa u + fm u)) : CtW l yX3_shadow wsX3_shadow (rmD 3) Ω [.ref (ad Ω (iS s))] σ (roI (sumI (fun u => sumI (fun k => bcI (shR σ s u n (fa u + k) &&& rwB σ (bx s u))) (fm u)) n) σ) := by
  refine ct_intro [some (.ref (ad Ω (iS s))), none, none] (by decide) rfl rfl (Nat.le_of_ble_eq_true rfl) (fun Γ hL hQ => ?_)
  show AtW mX3_shadow Γ Ω σ 0 [some (.ref (ad Ω (iS s))), none, none] []
  refine r_iconst 0 dX3_shadow_0 (by decide) ?_
  refine r_istore_n dX3_shadow_1 (by decide) rfl ?_
  refine r_iconst 0 dX3_shadow_2 (by decide) ?_
  refine r_istore_n dX3_shadow_3 (by decide) rfl ?_
  have L1 : ∀ (N : Nat) (k : Nat) (x : Int32), k ≤ n → x = sumI (fun u => sumI (fun k => bcI (shR σ s u n (fa u + k) &&& rwB σ (bx s u))) (fm u)) k → n < k + N → AtW mX3_shadow Γ Ω σ 4 [some (.ref (ad Ω (iS s))), some (.int x), some (.int (nI k))] [] := by
    intro N
    induction N with
    | zero =>
      intro k x hk hx hN
      exact absurd hN (by omega)
    | succ N ih =>
      intro k x hk hx hN
      refine r_iload_n dX3_shadow_4 rfl ?_
      refine r_aload_n dX3_shadow_5 rfl ?_
      refine fX3_1 s hs jX3_shadow_X3 lX3_shadow_18 dX3_shadow_6 ?_
      rw [hc]
      refine r_icmp_ge 26 dX3_shadow_9 (by decide) (fun c9 => ?_) (fun c9 => ?_)
      ·
        replace c9 := Int32.not_lt.mpr c9
        have n9 := Nat.not_lt.mp (fun q => c9 ((nI_ltI (a := k) (b := n) (by omega) (by omega)).mpr q))
        refine r_iload_n dX3_shadow_26 rfl ?_
        have ek : n = k := by omega
        subst ek
        exact r_iret hQ rfl dX3_shadow_27 (roI_of hx)
      ·
        replace c9 := Int32.not_le.mp c9
        have n9 := (nI_ltI (a := k) (b := n) (by omega) (by omega)).mp c9
        refine r_iload_n dX3_shadow_12 rfl ?_
        refine r_aload_n dX3_shadow_13 rfl ?_
        refine r_iload_n dX3_shadow_14 rfl ?_
        have hfk := hf k n9
        refine r_callVI (iS s) hL (ctX3_shadowOn l Ω _ s n hs (by omega) hc k (by omega) (fa k) (fm k) hfk.1 hfk.2.1 hfk.2.2) kX3_shadow_86 (iS_lt hs) ⟨_, _, _, cel_sp hs, rfl, rfl⟩ rfl rfl (Nat.le_of_ble_eq_true rfl) dX3_shadow_15 ?_
        refine r_iadd dX3_shadow_18 ?_
        refine r_istore_n dX3_shadow_19 (by decide) rfl ?_
        refine r_iinc (nI (k + 1)) dX3_shadow_20 rfl (nI_1 k) (by decide) rfl ?_
        refine r_goto 4 dX3_shadow_23 (by decide) ?_
        exact ih (k + 1) _ (by omega) (by rw [hx]; rfl) (by omega)
  exact L1 (n + 1) 0 0 (by omega) rfl (by omega)

set_option maxRecDepth 100000 in
set_option maxHeartbeats 4000000 in
theorem ctX3_copyFrom (l : Launch) (Ω : Om) (σ : Sg) (s t n : Nat) (hs : s < 7) (ht : t < 7) (hst : s ≠ t) (hn : n ≤ 16) (hc : σ (iS t) 1 = nI n) : CtW l yX3_copyFrom wsX3_copyFrom (rmD 2) Ω [.ref (ad Ω (iS s)), .ref (ad Ω (iS t))] σ (reV (fun σ1 => spC σ1 s σ t n ∧ frS s σ σ1)) := by
  refine ct_intro [some (.ref (ad Ω (iS s))), some (.ref (ad Ω (iS t))), none] (by decide) rfl rfl (Nat.le_of_ble_eq_true rfl) (fun Γ hL hQ => ?_)
  show AtW mX3_copyFrom Γ Ω σ 0 [some (.ref (ad Ω (iS s))), some (.ref (ad Ω (iS t))), none] []
  refine r_aload_n dX3_copyFrom_0 rfl ?_
  refine r_aload_n dX3_copyFrom_1 rfl ?_
  refine fX3_1 t ht jX3_copyFrom_X3 lX3_copyFrom_18 dX3_copyFrom_2 ?_
  refine pX3_1 s hs jX3_copyFrom_X3 lX3_copyFrom_18 dX3_copyFrom_5 ?_
  refine r_aload_n dX3_copyFrom_8 rfl ?_
  refine r_aload_n dX3_copyFrom_9 rfl ?_
  refine fX3_2 t ht jX3_copyFrom_X3 lX3_copyFrom_22 dX3_copyFrom_10 ?_
  refine pX3_2 s hs jX3_copyFrom_X3 lX3_copyFrom_22 dX3_copyFrom_13 ?_
  refine r_aload_n dX3_copyFrom_16 rfl ?_
  refine r_aload_n dX3_copyFrom_17 rfl ?_
  refine fX3_3 t ht jX3_copyFrom_X3 lX3_copyFrom_25 dX3_copyFrom_18 ?_
  refine pX3_3 s hs jX3_copyFrom_X3 lX3_copyFrom_25 dX3_copyFrom_21 ?_
  refine r_aload_n dX3_copyFrom_24 rfl ?_
  refine r_aload_n dX3_copyFrom_25 rfl ?_
  refine fX3_4 t ht jX3_copyFrom_X3 lX3_copyFrom_28 dX3_copyFrom_26 ?_
  refine pX3_4 s hs jX3_copyFrom_X3 lX3_copyFrom_28 dX3_copyFrom_29 ?_
  refine r_iconst 0 dX3_copyFrom_32 (by decide) ?_
  refine r_istore_n dX3_copyFrom_33 (by decide) rfl ?_
  have L1 : ∀ (N : Nat) (k : Nat) (τ : Sg), k ≤ n → spC τ s σ t k ∧ frS s σ τ → n < k + N → AtW mX3_copyFrom Γ Ω τ 34 [some (.ref (ad Ω (iS s))), some (.ref (ad Ω (iS t))), some (.int (nI k))] [] := by
    intro N
    induction N with
    | zero =>
      intro k τ hk hτ hN
      exact absurd hN (by omega)
    | succ N ih =>
      intro k τ hk hτ hN
      have hτc : τ (iS s) 1 = nI n := (hτ.1.1 1 (by omega) (by omega)).trans hc
      refine r_iload_n dX3_copyFrom_34 rfl ?_
      refine r_aload_n dX3_copyFrom_35 rfl ?_
      refine fX3_1 s hs jX3_copyFrom_X3 lX3_copyFrom_18 dX3_copyFrom_36 ?_
      rw [hτc]
      refine r_icmp_ge 63 dX3_copyFrom_39 (by decide) (fun c39 => ?_) (fun c39 => ?_)
      ·
        replace c39 := Int32.not_lt.mpr c39
        have n39 := Nat.not_lt.mp (fun q => c39 ((nI_ltI (a := k) (b := n) (by omega) (by omega)).mpr q))
        have ek : n = k := by omega
        subst ek
        exact r_vret hQ rfl dX3_copyFrom_63 (reV_of hτ)
      ·
        replace c39 := Int32.not_le.mp c39
        have n39 := (nI_ltI (a := k) (b := n) (by omega) (by omega)).mp c39
        refine r_aload_n dX3_copyFrom_42 rfl ?_
        refine fX3_0 s hs jX3_copyFrom_X3 lX3_copyFrom_11 dX3_copyFrom_43 ?_
        refine r_iload_n dX3_copyFrom_46 rfl ?_
        refine r_aaldB s hs k rfl (by omega) dX3_copyFrom_47 ?_
        refine r_aload_n dX3_copyFrom_48 rfl ?_
        refine fX3_0 t ht jX3_copyFrom_X3 lX3_copyFrom_11 dX3_copyFrom_49 ?_
        refine r_iload_n dX3_copyFrom_52 rfl ?_
        refine r_aaldB t ht k rfl (by omega) dX3_copyFrom_53 ?_
        refine r_callVV (iBo (bx s k)) hL (ctX0_copyFrom l Ω _ (bx s k) (bx t k) (bx_lt hs (by omega)) (bx_lt ht (by omega))) kX3_copyFrom_31 (iB_lt (bx_lt hs (by omega))) ⟨_, _, _, cel_box (bx_lt hs (by omega)), rfl, rfl⟩ rfl rfl (Nat.le_of_ble_eq_true rfl) dX3_copyFrom_54 ?_
        intro σ1 hσ1
        refine r_iinc (nI (k + 1)) dX3_copyFrom_57 rfl (nI_1 k) (by decide) rfl ?_
        refine r_goto 34 dX3_copyFrom_60 (by decide) ?_
        exact ih (k + 1) σ1 (by omega) (spC_step hs ht hst (by omega) hτ.1 hτ.2 hσ1.1 hσ1.2) (by omega)
  exact L1 (n + 1) 0 _ (by omega) (copy_head σ hst) (by omega)

set_option maxRecDepth 100000 in
set_option maxHeartbeats 4000000 in
theorem ctX3_append (l : Launch) (Ω : Om) (σ : Sg) (s n : Nat) (hs : s < 7) (hn : n ≤ 16) (hc : σ (iS s) 1 = nI n) (o : Nat) (ho : o < 113) : CtW l yX3_append wsX3_append (rmD 2) Ω [.ref (ad Ω (iS s)), .ref (ad Ω (iBo o))] σ (reJ (apS σ s o n)) := by
  refine ct_intro [some (.ref (ad Ω (iS s))), some (.ref (ad Ω (iBo o))), none] (by decide) rfl rfl (Nat.le_of_ble_eq_true rfl) (fun Γ hL hQ => ?_)
  show AtW mX3_append Γ Ω σ 0 [some (.ref (ad Ω (iS s))), some (.ref (ad Ω (iBo o))), none] []
  refine r_aload_n dX3_append_0 rfl ?_
  refine r_callVI (iS s) hL (ctX3_isFull l Ω _ s n hs (by omega) hc) kX3_append_42 (iS_lt hs) ⟨_, _, _, cel_sp hs, rfl, rfl⟩ rfl rfl (Nat.le_of_ble_eq_true rfl) dX3_append_1 ?_
  refine r_if_eq 10 dX3_append_4 (by decide) (fun c4 => ?_) (fun c4 => ?_)
  ·
    replace c4 := bI_f c4
    have hlt : n < 16 := by
      have h := of_decide_eq_false c4
      omega
    refine r_aload_n dX3_append_10 rfl ?_
    refine fX3_0 s hs jX3_append_X3 lX3_append_11 dX3_append_11 ?_
    refine r_aload_n dX3_append_14 rfl ?_
    refine fX3_1 s hs jX3_append_X3 lX3_append_18 dX3_append_15 ?_
    rw [hc]
    refine r_aaldB s hs n rfl (by omega) dX3_append_18 ?_
    refine r_astore_n dX3_append_19 (by decide) rfl ?_
    refine r_aload_n dX3_append_20 rfl ?_
    refine r_aload_n dX3_append_21 rfl ?_
    refine r_callVV (iBo (bx s n)) hL (ctX0_copyFrom l Ω _ (bx s n) o (bx_lt hs (by omega)) ho) kX3_append_31 (iB_lt (bx_lt hs (by omega))) ⟨_, _, _, cel_box (bx_lt hs (by omega)), rfl, rfl⟩ rfl rfl (Nat.le_of_ble_eq_true rfl) dX3_append_22 ?_
    intro σ1 hσ1
    refine r_aload_n dX3_append_25 rfl ?_
    refine r_aload_n dX3_append_26 rfl ?_
    refine fX3_2 s hs jX3_append_X3 lX3_append_22 dX3_append_27 ?_
    refine pX0_0 (bx s n) (bx_lt hs (by omega)) jX3_append_X0 lX3_append_35 dX3_append_30 ?_
    refine r_aload_n dX3_append_33 rfl ?_
    refine r_dup dX3_append_34 rfl ?_
    refine fX3_1 s hs jX3_append_X3 lX3_append_18 dX3_append_35 ?_
    refine r_iconst 1 dX3_append_38 (by decide) ?_
    refine r_iadd dX3_append_39 ?_
    refine pX3_1 s hs jX3_append_X3 lX3_append_18 dX3_append_40 ?_
    refine r_aload_n dX3_append_43 rfl ?_
    refine r_dup dX3_append_44 rfl ?_
    refine fX3_2 s hs jX3_append_X3 lX3_append_22 dX3_append_45 ?_
    refine r_iconst 1 dX3_append_48 (by decide) ?_
    refine r_iadd dX3_append_49 ?_
    refine pX3_2 s hs jX3_append_X3 lX3_append_22 dX3_append_50 ?_
    refine r_aload_n dX3_append_53 rfl ?_
    refine fX0_0 (bx s n) (bx_lt hs (by omega)) jX3_append_X0 lX3_append_35 dX3_append_54 ?_
    exact r_iret hQ rfl dX3_append_57 (reJ_of (apS_ok hs hlt hc hσ1.1 hσ1.2))
  ·
    replace c4 := bI_t c4
    refine r_bipush (-3) dX3_append_7 (by decide) ?_
    exact r_iret hQ rfl dX3_append_9 (reJ_of ⟨fun _ => ⟨rfl, rfl⟩, fun h => absurd (of_decide_eq_true c4) (by omega)⟩)

set_option maxRecDepth 100000 in
set_option maxHeartbeats 4000000 in
theorem ctX3_takeOut (l : Launch) (Ω : Om) (σ : Sg) (s n : Nat) (hs : s < 7) (hn : n ≤ 16) (hc : σ (iS s) 1 = nI n) (g : Nat) (hg : g < n) : CtW l yX3_takeOut wsX3_takeOut (rmD 2) Ω [.ref (ad Ω (iS s)), .int (nI g)] σ (reV (tkS σ s g n)) := by
  refine ct_intro [some (.ref (ad Ω (iS s))), some (.int (nI g)), none] (by decide) rfl rfl (Nat.le_of_ble_eq_true rfl) (fun Γ hL hQ => ?_)
  show AtW mX3_takeOut Γ Ω σ 0 [some (.ref (ad Ω (iS s))), some (.int (nI g)), none] []
  refine r_iload_n dX3_takeOut_0 rfl ?_
  refine r_istore_n dX3_takeOut_1 (by decide) rfl ?_
  have L1 : ∀ (N : Nat) (k : Nat) (τ : Sg), g ≤ k → k < n → tkI σ s g k τ → n < k + 1 + N → AtW mX3_takeOut Γ Ω τ 2 [some (.ref (ad Ω (iS s))), some (.int (nI g)), some (.int (nI k))] [] := by
    intro N
    induction N with
    | zero =>
      intro k τ hgk hk hτ hN
      exact absurd hN (by omega)
    | succ N ih =>
      intro k τ hgk hk hτ hN
      have hτc : τ (iS s) 1 = nI n := by rw [hτ.2 _ (outB_S s s hs)]; exact hc
      refine r_iload_n dX3_takeOut_2 rfl ?_
      refine r_iconst 1 dX3_takeOut_3 (by decide) ?_
      refine r_iadd dX3_takeOut_4 ?_
      rw [nI_1]
      refine r_aload_n dX3_takeOut_5 rfl ?_
      refine fX3_1 s hs jX3_takeOut_X3 lX3_takeOut_18 dX3_takeOut_6 ?_
      rw [hτc]
      refine r_icmp_ge 35 dX3_takeOut_9 (by decide) (fun c9 => ?_) (fun c9 => ?_)
      ·
        replace c9 := Int32.not_lt.mpr c9
        have n9 := Nat.not_lt.mp (fun q => c9 ((nI_ltI (a := k + 1) (b := n) (by omega) (by omega)).mpr q))
        refine r_aload_n dX3_takeOut_35 rfl ?_
        refine r_dup dX3_takeOut_36 rfl ?_
        refine fX3_1 s hs jX3_takeOut_X3 lX3_takeOut_18 dX3_takeOut_37 ?_
        refine r_iconst 1 dX3_takeOut_40 (by decide) ?_
        refine r_isub dX3_takeOut_41 ?_
        refine pX3_1 s hs jX3_takeOut_X3 lX3_takeOut_18 dX3_takeOut_42 ?_
        have ek : k = n - 1 := by omega
        subst ek
        exact r_vret hQ rfl dX3_takeOut_45 (reV_of (tkS_ok hs (by omega) hc hτ))
      ·
        replace c9 := Int32.not_le.mp c9
        have n9 := (nI_ltI (a := k + 1) (b := n) (by omega) (by omega)).mp c9
        refine r_aload_n dX3_takeOut_12 rfl ?_
        refine fX3_0 s hs jX3_takeOut_X3 lX3_takeOut_11 dX3_takeOut_13 ?_
        refine r_iload_n dX3_takeOut_16 rfl ?_
        refine r_aaldB s hs k rfl (by omega) dX3_takeOut_17 ?_
        refine r_aload_n dX3_takeOut_18 rfl ?_
        refine fX3_0 s hs jX3_takeOut_X3 lX3_takeOut_11 dX3_takeOut_19 ?_
        refine r_iload_n dX3_takeOut_22 rfl ?_
        refine r_iconst 1 dX3_takeOut_23 (by decide) ?_
        refine r_iadd dX3_takeOut_24 ?_
        rw [nI_1]
        refine r_aaldB s hs (k + 1) rfl (by omega) dX3_takeOut_25 ?_
        refine r_callVV (iBo (bx s k)) hL (ctX0_copyFrom l Ω _ (bx s k) (bx s (k + 1)) (bx_lt hs (by omega)) (bx_lt hs (by omega))) kX3_takeOut_31 (iB_lt (bx_lt hs (by omega))) ⟨_, _, _, cel_box (bx_lt hs (by omega)), rfl, rfl⟩ rfl rfl (Nat.le_of_ble_eq_true rfl) dX3_takeOut_26 ?_
        intro σ1 hσ1
        refine r_iinc (nI (k + 1)) dX3_takeOut_29 rfl (nI_1 k) (by decide) rfl ?_
        refine r_goto 2 dX3_takeOut_32 (by decide) ?_
        exact ih (k + 1) σ1 (by omega) (by omega) (tkI_step (by omega) hgk hτ hσ1.1 hσ1.2) (by omega)
  exact L1 n g σ (Nat.le_refl _) hg (tkI_0 σ s g) (by omega)

set_option maxRecDepth 100000 in
set_option maxHeartbeats 4000000 in
theorem ctX3_cutInTwo (l : Launch) (Ω : Om) (σ : Sg) (s n : Nat) (hs : s < 7) (hn : n ≤ 16) (hc : σ (iS s) 1 = nI n) (k d : Nat) (x : Int32) (hk : k < n) (hd : d < 3) (hnx : ¬ σ (iS s) 2 < 0) : CtW l yX3_cutInTwo wsX3_cutInTwo (rmD 3) Ω [.ref (ad Ω (iS s)), .int (nI k), .int (nI d), .int x] σ (reJ (cuS σ s k d x n)) := by
  refine ct_intro [some (.ref (ad Ω (iS s))), some (.int (nI k)), some (.int (nI d)), some (.int x), none] (by decide) rfl rfl (Nat.le_of_ble_eq_true rfl) (fun Γ hL hQ => ?_)
  show AtW mX3_cutInTwo Γ Ω σ 0 [some (.ref (ad Ω (iS s))), some (.int (nI k)), some (.int (nI d)), some (.int x), none] []
  refine r_aload_n dX3_cutInTwo_0 rfl ?_
  refine r_aload_n dX3_cutInTwo_1 rfl ?_
  refine fX3_0 s hs jX3_cutInTwo_X3 lX3_cutInTwo_11 dX3_cutInTwo_2 ?_
  refine r_iload_n dX3_cutInTwo_5 rfl ?_
  refine r_aaldB s hs k rfl (by omega) dX3_cutInTwo_6 ?_
  refine r_callVJ (iS s) hL (ctX3_append l Ω _ s n hs (by omega) hc (bx s k) (bx_lt hs (by omega))) kX3_cutInTwo_46 (iS_lt hs) ⟨_, _, _, cel_sp hs, rfl, rfl⟩ rfl rfl (Nat.le_of_ble_eq_true rfl) dX3_cutInTwo_7 ?_
  intro y σ1 hσ1
  refine r_istore dX3_cutInTwo_10 (by decide) rfl ?_
  refine r_iload dX3_cutInTwo_12 rfl ?_
  refine r_if_ge 20 dX3_cutInTwo_14 (by decide) (fun c14 => ?_) (fun c14 => ?_)
  ·
    replace c14 := Int32.not_lt.mpr c14
    have hlt : n < 16 := by
      rcases Nat.lt_or_ge n 16 with q | q
      · exact q
      · exact absurd (hσ1.1 (by omega)).1 (fun e => absurd (e ▸ c14) (by decide))
    obtain ⟨rfl, g1, g2, g3, g4, g5, g6⟩ := hσ1.2 hlt
    refine r_aload_n dX3_cutInTwo_20 rfl ?_
    refine fX3_0 s hs jX3_cutInTwo_X3 lX3_cutInTwo_11 dX3_cutInTwo_21 ?_
    refine r_aload_n dX3_cutInTwo_24 rfl ?_
    refine fX3_1 s hs jX3_cutInTwo_X3 lX3_cutInTwo_18 dX3_cutInTwo_25 ?_
    rw [g1]
    refine r_iconst 1 dX3_cutInTwo_28 (by decide) ?_
    refine r_isub dX3_cutInTwo_29 ?_
    rw [nI_pred]
    refine r_aaldB s hs n rfl (by omega) dX3_cutInTwo_30 ?_
    refine fX0_1 (bx s n) (bx_lt hs (by omega)) jX3_cutInTwo_X0 lX3_cutInTwo_50 dX3_cutInTwo_31 ?_
    refine r_iload_n dX3_cutInTwo_34 rfl ?_
    refine r_iload_n dX3_cutInTwo_35 rfl ?_
    refine stL (bx s n) (bx_lt hs (by omega)) d rfl (by omega) dX3_cutInTwo_36 ?_
    refine r_aload_n dX3_cutInTwo_37 rfl ?_
    refine fX3_0 s hs jX3_cutInTwo_X3 lX3_cutInTwo_11 dX3_cutInTwo_38 ?_
    refine r_iload_n dX3_cutInTwo_41 rfl ?_
    refine r_aaldB s hs k rfl (by omega) dX3_cutInTwo_42 ?_
    refine fX0_2 (bx s k) (bx_lt hs (by omega)) jX3_cutInTwo_X0 lX3_cutInTwo_54 dX3_cutInTwo_43 ?_
    refine r_iload_n dX3_cutInTwo_46 rfl ?_
    refine r_iload_n dX3_cutInTwo_47 rfl ?_
    refine stH (bx s k) (bx_lt hs (by omega)) d rfl (by omega) dX3_cutInTwo_48 ?_
    refine r_aload_n dX3_cutInTwo_49 rfl ?_
    refine r_dup dX3_cutInTwo_50 rfl ?_
    refine fX3_3 s hs jX3_cutInTwo_X3 lX3_cutInTwo_25 dX3_cutInTwo_51 ?_
    refine r_iconst 1 dX3_cutInTwo_54 (by decide) ?_
    refine r_iadd dX3_cutInTwo_55 ?_
    refine pX3_3 s hs jX3_cutInTwo_X3 lX3_cutInTwo_25 dX3_cutInTwo_56 ?_
    refine r_iload dX3_cutInTwo_59 rfl ?_
    exact r_iret hQ rfl dX3_cutInTwo_61 (reJ_of (cuS_ok hs hlt hk hd hc ⟨rfl, g1, g2, g3, g4, g5, g6⟩))
  ·
    replace c14 := Int32.not_le.mp c14
    have h16 : n = 16 := by
      rcases Nat.lt_or_ge n 16 with q | q
      · exact absurd (((hσ1.2 q).1) ▸ c14) hnx
      · omega
    obtain ⟨rfl, rfl⟩ := hσ1.1 h16
    refine r_iload dX3_cutInTwo_17 rfl ?_
    exact r_iret hQ rfl dX3_cutInTwo_19 (reJ_of ⟨fun _ => ⟨rfl, rfl⟩, fun h => absurd h (by omega)⟩)

set_option maxRecDepth 100000 in
set_option maxHeartbeats 4000000 in
theorem ctX3_quarterTurn (l : Launch) (Ω : Om) (σ : Sg) (s n : Nat) (hs : s < 7) (hn : n ≤ 16) (hc : σ (iS s) 1 = nI n) : CtW l yX3_quarterTurn wsX3_quarterTurn (rmD 0) Ω [.ref (ad Ω (iS s))] σ (reV (fun σ1 => qtI σ s n σ1)) := by
  refine ct_intro [some (.ref (ad Ω (iS s))), none, none, none, none] (by decide) rfl rfl (Nat.le_of_ble_eq_true rfl) (fun Γ hL hQ => ?_)
  show AtW mX3_quarterTurn Γ Ω σ 0 [some (.ref (ad Ω (iS s))), none, none, none, none] []
  refine r_iconst 0 dX3_quarterTurn_0 (by decide) ?_
  refine r_istore_n dX3_quarterTurn_1 (by decide) rfl ?_
  have L1 : ∀ (N : Nat) (k : Nat) (τ : Sg) (v2 v3 v4 : Option Value), k ≤ n → qtI σ s k τ → n < k + N → AtW mX3_quarterTurn Γ Ω τ 2 [some (.ref (ad Ω (iS s))), some (.int (nI k)), v2, v3, v4] [] := by
    intro N
    induction N with
    | zero =>
      intro k τ v2 v3 v4 hk hτ hN
      exact absurd hN (by omega)
    | succ N ih =>
      intro k τ v2 v3 v4 hk hτ hN
      have hτc : τ (iS s) 1 = nI n := by rw [hτ.2.2 _ (outB_S s s hs)]; exact hc
      refine r_iload_n dX3_quarterTurn_2 rfl ?_
      refine r_aload_n dX3_quarterTurn_3 rfl ?_
      refine fX3_1 s hs jX3_quarterTurn_X3 lX3_quarterTurn_18 dX3_quarterTurn_4 ?_
      rw [hτc]
      refine r_icmp_ge 83 dX3_quarterTurn_7 (by decide) (fun c7 => ?_) (fun c7 => ?_)
      ·
        replace c7 := Int32.not_lt.mpr c7
        have n7 := Nat.not_lt.mp (fun q => c7 ((nI_ltI (a := k) (b := n) (by omega) (by omega)).mpr q))
        have ek : n = k := by omega
        subst ek
        exact r_vret hQ rfl dX3_quarterTurn_83 (reV_of hτ)
      ·
        replace c7 := Int32.not_le.mp c7
        have n7 := (nI_ltI (a := k) (b := n) (by omega) (by omega)).mp c7
        refine r_aload_n dX3_quarterTurn_10 rfl ?_
        refine fX3_0 s hs jX3_quarterTurn_X3 lX3_quarterTurn_11 dX3_quarterTurn_11 ?_
        refine r_iload_n dX3_quarterTurn_14 rfl ?_
        refine r_aaldB s hs k rfl (by omega) dX3_quarterTurn_15 ?_
        refine r_astore_n dX3_quarterTurn_16 (by decide) rfl ?_
        refine r_aload_n dX3_quarterTurn_17 rfl ?_
        refine fX0_1 (bx s k) (bx_lt hs (by omega)) jX3_quarterTurn_X0 lX3_quarterTurn_50 dX3_quarterTurn_18 ?_
        refine r_iconst 0 dX3_quarterTurn_21 (by decide) ?_
        refine ldL (bx s k) (bx_lt hs (by omega)) 0 rfl (by omega) dX3_quarterTurn_22 ?_
        refine r_istore_n dX3_quarterTurn_23 (by decide) rfl ?_
        refine r_aload_n dX3_quarterTurn_24 rfl ?_
        refine fX0_2 (bx s k) (bx_lt hs (by omega)) jX3_quarterTurn_X0 lX3_quarterTurn_54 dX3_quarterTurn_25 ?_
        refine r_iconst 0 dX3_quarterTurn_28 (by decide) ?_
        refine ldH (bx s k) (bx_lt hs (by omega)) 0 rfl (by omega) dX3_quarterTurn_29 ?_
        refine r_istore dX3_quarterTurn_30 (by decide) rfl ?_
        refine r_aload_n dX3_quarterTurn_32 rfl ?_
        refine fX0_1 (bx s k) (bx_lt hs (by omega)) jX3_quarterTurn_X0 lX3_quarterTurn_50 dX3_quarterTurn_33 ?_
        refine r_iconst 0 dX3_quarterTurn_36 (by decide) ?_
        refine r_bipush 32 dX3_quarterTurn_37 (by decide) ?_
        refine r_aload_n dX3_quarterTurn_39 rfl ?_
        refine fX0_2 (bx s k) (bx_lt hs (by omega)) jX3_quarterTurn_X0 lX3_quarterTurn_54 dX3_quarterTurn_40 ?_
        refine r_iconst 1 dX3_quarterTurn_43 (by decide) ?_
        refine ldH (bx s k) (bx_lt hs (by omega)) 1 rfl (by omega) dX3_quarterTurn_44 ?_
        refine r_isub dX3_quarterTurn_45 ?_
        refine stL (bx s k) (bx_lt hs (by omega)) 0 rfl (by omega) dX3_quarterTurn_46 ?_
        refine r_aload_n dX3_quarterTurn_47 rfl ?_
        refine fX0_2 (bx s k) (bx_lt hs (by omega)) jX3_quarterTurn_X0 lX3_quarterTurn_54 dX3_quarterTurn_48 ?_
        refine r_iconst 0 dX3_quarterTurn_51 (by decide) ?_
        refine r_bipush 32 dX3_quarterTurn_52 (by decide) ?_
        refine r_aload_n dX3_quarterTurn_54 rfl ?_
        refine fX0_1 (bx s k) (bx_lt hs (by omega)) jX3_quarterTurn_X0 lX3_quarterTurn_50 dX3_quarterTurn_55 ?_
        refine r_iconst 1 dX3_quarterTurn_58 (by decide) ?_
        refine ldL (bx s k) (bx_lt hs (by omega)) 1 rfl (by omega) dX3_quarterTurn_59 ?_
        refine r_isub dX3_quarterTurn_60 ?_
        refine stH (bx s k) (bx_lt hs (by omega)) 0 rfl (by omega) dX3_quarterTurn_61 ?_
        refine r_aload_n dX3_quarterTurn_62 rfl ?_
        refine fX0_1 (bx s k) (bx_lt hs (by omega)) jX3_quarterTurn_X0 lX3_quarterTurn_50 dX3_quarterTurn_63 ?_
        refine r_iconst 1 dX3_quarterTurn_66 (by decide) ?_
        refine r_iload_n dX3_quarterTurn_67 rfl ?_
        refine stL (bx s k) (bx_lt hs (by omega)) 1 rfl (by omega) dX3_quarterTurn_68 ?_
        refine r_aload_n dX3_quarterTurn_69 rfl ?_
        refine fX0_2 (bx s k) (bx_lt hs (by omega)) jX3_quarterTurn_X0 lX3_quarterTurn_54 dX3_quarterTurn_70 ?_
        refine r_iconst 1 dX3_quarterTurn_73 (by decide) ?_
        refine r_iload dX3_quarterTurn_74 rfl ?_
        refine stH (bx s k) (bx_lt hs (by omega)) 1 rfl (by omega) dX3_quarterTurn_76 ?_
        refine r_iinc (nI (k + 1)) dX3_quarterTurn_77 rfl (nI_1 k) (by decide) rfl ?_
        refine r_goto 2 dX3_quarterTurn_80 (by decide) ?_
        exact ih (k + 1) _ _ _ _ (by omega) (qtI_step (by omega) hτ) (by omega)
  exact L1 (n + 1) 0 σ none none none (by omega) (qtI_0 σ s) (by omega)
