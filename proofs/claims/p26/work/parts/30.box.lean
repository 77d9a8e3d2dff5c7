set_option maxRecDepth 100000 in
set_option maxHeartbeats 4000000 in
theorem ctX0_size (l : Launch) (Ω : Om) (σ : Sg) (b d : Nat) (hb : b < 113) (hd : d < 3) : CtW l yX0_size wsX0_size (rmD 0) Ω [.ref (ad Ω (iBo b)), .int (nI d)] σ (roI (szB σ b d) σ) := by
  refine ct_intro [some (.ref (ad Ω (iBo b))), some (.int (nI d))] (by decide) rfl rfl (Nat.le_of_ble_eq_true rfl) (fun Γ hL hQ => ?_)
  show AtW mX0_size Γ Ω σ 0 [some (.ref (ad Ω (iBo b))), some (.int (nI d))] []
  refine r_aload_n dX0_size_0 rfl ?_
  refine fX0_2 b hb jX0_size_X0 lX0_size_15 dX0_size_1 ?_
  refine r_iload_n dX0_size_4 rfl ?_
  refine ldH b hb d rfl (by omega) dX0_size_5 ?_
  refine r_aload_n dX0_size_6 rfl ?_
  refine fX0_1 b hb jX0_size_X0 lX0_size_9 dX0_size_7 ?_
  refine r_iload_n dX0_size_10 rfl ?_
  refine ldL b hb d rfl (by omega) dX0_size_11 ?_
  refine r_isub dX0_size_12 ?_
  exact r_iret hQ rfl dX0_size_13 (roI_of rfl)

set_option maxRecDepth 100000 in
set_option maxHeartbeats 4000000 in
theorem ctX0_volume (l : Launch) (Ω : Om) (σ : Sg) (b : Nat) (hb : b < 113) : CtW l yX0_volume wsX0_volume (rmD 1) Ω [.ref (ad Ω (iBo b))] σ (roI (voB σ b) σ) := by
  refine ct_intro [some (.ref (ad Ω (iBo b)))] (by decide) rfl rfl (Nat.le_of_ble_eq_true rfl) (fun Γ hL hQ => ?_)
  show AtW mX0_volume Γ Ω σ 0 [some (.ref (ad Ω (iBo b)))] []
  refine r_aload_n dX0_volume_0 rfl ?_
  refine r_iconst 0 dX0_volume_1 (by decide) ?_
  refine r_callVI (iBo b) hL (ctX0_size l Ω _ b 0 hb (by omega)) kX0_volume_28 (iB_lt hb) ⟨_, _, _, cel_box hb, rfl, rfl⟩ rfl rfl (Nat.le_of_ble_eq_true rfl) dX0_volume_2 ?_
  refine r_aload_n dX0_volume_5 rfl ?_
  refine r_iconst 1 dX0_volume_6 (by decide) ?_
  refine r_callVI (iBo b) hL (ctX0_size l Ω _ b 1 hb (by omega)) kX0_volume_28 (iB_lt hb) ⟨_, _, _, cel_box hb, rfl, rfl⟩ rfl rfl (Nat.le_of_ble_eq_true rfl) dX0_volume_7 ?_
  refine r_imul dX0_volume_10 ?_
  refine r_aload_n dX0_volume_11 rfl ?_
  refine r_iconst 2 dX0_volume_12 (by decide) ?_
  refine r_callVI (iBo b) hL (ctX0_size l Ω _ b 2 hb (by omega)) kX0_volume_28 (iB_lt hb) ⟨_, _, _, cel_box hb, rfl, rfl⟩ rfl rfl (Nat.le_of_ble_eq_true rfl) dX0_volume_13 ?_
  refine r_imul dX0_volume_16 ?_
  exact r_iret hQ rfl dX0_volume_17 (roI_of rfl)

set_option maxRecDepth 100000 in
set_option maxHeartbeats 4000000 in
theorem ctX0_sumOfCorner (l : Launch) (Ω : Om) (σ : Sg) (b : Nat) (hb : b < 113) : CtW l yX0_sumOfCorner wsX0_sumOfCorner (rmD 0) Ω [.ref (ad Ω (iBo b))] σ (roI (σ (iL b) 0 + σ (iL b) 1 + σ (iL b) 2) σ) := by
  refine ct_intro [some (.ref (ad Ω (iBo b)))] (by decide) rfl rfl (Nat.le_of_ble_eq_true rfl) (fun Γ hL hQ => ?_)
  show AtW mX0_sumOfCorner Γ Ω σ 0 [some (.ref (ad Ω (iBo b)))] []
  refine r_aload_n dX0_sumOfCorner_0 rfl ?_
  refine fX0_1 b hb jX0_sumOfCorner_X0 lX0_sumOfCorner_9 dX0_sumOfCorner_1 ?_
  refine r_iconst 0 dX0_sumOfCorner_4 (by decide) ?_
  refine ldL b hb 0 rfl (by omega) dX0_sumOfCorner_5 ?_
  refine r_aload_n dX0_sumOfCorner_6 rfl ?_
  refine fX0_1 b hb jX0_sumOfCorner_X0 lX0_sumOfCorner_9 dX0_sumOfCorner_7 ?_
  refine r_iconst 1 dX0_sumOfCorner_10 (by decide) ?_
  refine ldL b hb 1 rfl (by omega) dX0_sumOfCorner_11 ?_
  refine r_iadd dX0_sumOfCorner_12 ?_
  refine r_aload_n dX0_sumOfCorner_13 rfl ?_
  refine fX0_1 b hb jX0_sumOfCorner_X0 lX0_sumOfCorner_9 dX0_sumOfCorner_14 ?_
  refine r_iconst 2 dX0_sumOfCorner_17 (by decide) ?_
  refine ldL b hb 2 rfl (by omega) dX0_sumOfCorner_18 ?_
  refine r_iadd dX0_sumOfCorner_19 ?_
  exact r_iret hQ rfl dX0_sumOfCorner_20 (roI_of rfl)

set_option maxRecDepth 100000 in
set_option maxHeartbeats 4000000 in
theorem ctX0_rowOfCells (l : Launch) (Ω : Om) (σ : Sg) (b : Nat) (hb : b < 113) : CtW l yX0_rowOfCells wsX0_rowOfCells (rmD 1) Ω [.ref (ad Ω (iBo b))] σ (roI (rwB σ b) σ) := by
  refine ct_intro [some (.ref (ad Ω (iBo b)))] (by decide) rfl rfl (Nat.le_of_ble_eq_true rfl) (fun Γ hL hQ => ?_)
  show AtW mX0_rowOfCells Γ Ω σ 0 [some (.ref (ad Ω (iBo b)))] []
  refine r_iconst 1 dX0_rowOfCells_0 (by decide) ?_
  refine r_aload_n dX0_rowOfCells_1 rfl ?_
  refine r_iconst 0 dX0_rowOfCells_2 (by decide) ?_
  refine r_callVI (iBo b) hL (ctX0_size l Ω _ b 0 hb (by omega)) kX0_rowOfCells_28 (iB_lt hb) ⟨_, _, _, cel_box hb, rfl, rfl⟩ rfl rfl (Nat.le_of_ble_eq_true rfl) dX0_rowOfCells_3 ?_
  refine r_ishl dX0_rowOfCells_6 ?_
  refine r_iconst 1 dX0_rowOfCells_7 (by decide) ?_
  refine r_isub dX0_rowOfCells_8 ?_
  refine r_aload_n dX0_rowOfCells_9 rfl ?_
  refine fX0_1 b hb jX0_rowOfCells_X0 lX0_rowOfCells_9 dX0_rowOfCells_10 ?_
  refine r_iconst 0 dX0_rowOfCells_13 (by decide) ?_
  refine ldL b hb 0 rfl (by omega) dX0_rowOfCells_14 ?_
  refine r_ishl dX0_rowOfCells_15 ?_
  exact r_iret hQ rfl dX0_rowOfCells_16 (roI_of rfl)

set_option maxRecDepth 100000 in
set_option maxHeartbeats 4000000 in
theorem ctX0_meets (l : Launch) (Ω : Om) (σ : Sg) (b o d : Nat) (hb : b < 113) (ho : o < 113) (hd : d < 3) : CtW l yX0_meets wsX0_meets (rmD 0) Ω [.ref (ad Ω (iBo b)), .ref (ad Ω (iBo o)), .int (nI d)] σ (roI (bI (mtB (σ (iL b)) (σ (iH b)) (σ (iL o)) (σ (iH o)) d)) σ) := by
  refine ct_intro [some (.ref (ad Ω (iBo b))), some (.ref (ad Ω (iBo o))), some (.int (nI d))] (by decide) rfl rfl (Nat.le_of_ble_eq_true rfl) (fun Γ hL hQ => ?_)
  show AtW mX0_meets Γ Ω σ 0 [some (.ref (ad Ω (iBo b))), some (.ref (ad Ω (iBo o))), some (.int (nI d))] []
  refine r_aload_n dX0_meets_0 rfl ?_
  refine fX0_1 b hb jX0_meets_X0 lX0_meets_9 dX0_meets_1 ?_
  refine r_iload_n dX0_meets_4 rfl ?_
  refine ldL b hb d rfl (by omega) dX0_meets_5 ?_
  refine r_aload_n dX0_meets_6 rfl ?_
  refine fX0_2 o ho jX0_meets_X0 lX0_meets_15 dX0_meets_7 ?_
  refine r_iload_n dX0_meets_10 rfl ?_
  refine ldH o ho d rfl (by omega) dX0_meets_11 ?_
  refine r_icmp_ge 34 dX0_meets_12 (by decide) (fun c12 => ?_) (fun c12 => ?_)
  ·
    replace c12 := Int32.not_lt.mpr c12
    refine r_iconst 0 dX0_meets_34 (by decide) ?_
    exact r_zret hQ rfl ((by decide)) dX0_meets_35 (roI_of (by simp [mtB, bI, *]))
  ·
    replace c12 := Int32.not_le.mp c12
    refine r_aload_n dX0_meets_15 rfl ?_
    refine fX0_1 o ho jX0_meets_X0 lX0_meets_9 dX0_meets_16 ?_
    refine r_iload_n dX0_meets_19 rfl ?_
    refine ldL o ho d rfl (by omega) dX0_meets_20 ?_
    refine r_aload_n dX0_meets_21 rfl ?_
    refine fX0_2 b hb jX0_meets_X0 lX0_meets_15 dX0_meets_22 ?_
    refine r_iload_n dX0_meets_25 rfl ?_
    refine ldH b hb d rfl (by omega) dX0_meets_26 ?_
    refine r_icmp_ge 34 dX0_meets_27 (by decide) (fun c27 => ?_) (fun c27 => ?_)
    ·
      replace c27 := Int32.not_lt.mpr c27
      refine r_iconst 0 dX0_meets_34 (by decide) ?_
      exact r_zret hQ rfl ((by decide)) dX0_meets_35 (roI_of (by simp [mtB, bI, *]))
    ·
      replace c27 := Int32.not_le.mp c27
      refine r_iconst 1 dX0_meets_30 (by decide) ?_
      refine r_goto 35 dX0_meets_31 (by decide) ?_
      exact r_zret hQ rfl ((by decide)) dX0_meets_35 (roI_of (by simp [mtB, bI, *]))

set_option maxRecDepth 100000 in
set_option maxHeartbeats 4000000 in
theorem ctX0_cuts (l : Launch) (Ω : Om) (σ : Sg) (b o : Nat) (hb : b < 113) (ho : o < 113) : CtW l yX0_cuts wsX0_cuts (rmD 1) Ω [.ref (ad Ω (iBo b)), .ref (ad Ω (iBo o))] σ (roI (bI (ctBx (σ (iL b)) (σ (iH b)) (σ (iL o)) (σ (iH o)))) σ) := by
  refine ct_intro [some (.ref (ad Ω (iBo b))), some (.ref (ad Ω (iBo o)))] (by decide) rfl rfl (Nat.le_of_ble_eq_true rfl) (fun Γ hL hQ => ?_)
  show AtW mX0_cuts Γ Ω σ 0 [some (.ref (ad Ω (iBo b))), some (.ref (ad Ω (iBo o)))] []
  refine r_aload_n dX0_cuts_0 rfl ?_
  refine r_aload_n dX0_cuts_1 rfl ?_
  refine r_iconst 0 dX0_cuts_2 (by decide) ?_
  refine r_callVI (iBo b) hL (ctX0_meets l Ω _ b o 0 hb ho (by omega)) kX0_cuts_32 (iB_lt hb) ⟨_, _, _, cel_box hb, rfl, rfl⟩ rfl rfl (Nat.le_of_ble_eq_true rfl) dX0_cuts_3 ?_
  refine r_if_eq 31 dX0_cuts_6 (by decide) (fun c6 => ?_) (fun c6 => ?_)
  ·
    replace c6 := bI_f c6
    refine r_iconst 0 dX0_cuts_31 (by decide) ?_
    exact r_zret hQ rfl ((by decide)) dX0_cuts_32 (roI_of (by simp [ctBx, bI, *]))
  ·
    replace c6 := bI_t c6
    refine r_aload_n dX0_cuts_9 rfl ?_
    refine r_aload_n dX0_cuts_10 rfl ?_
    refine r_iconst 1 dX0_cuts_11 (by decide) ?_
    refine r_callVI (iBo b) hL (ctX0_meets l Ω _ b o 1 hb ho (by omega)) kX0_cuts_32 (iB_lt hb) ⟨_, _, _, cel_box hb, rfl, rfl⟩ rfl rfl (Nat.le_of_ble_eq_true rfl) dX0_cuts_12 ?_
    refine r_if_eq 31 dX0_cuts_15 (by decide) (fun c15 => ?_) (fun c15 => ?_)
    ·
      replace c15 := bI_f c15
      refine r_iconst 0 dX0_cuts_31 (by decide) ?_
      exact r_zret hQ rfl ((by decide)) dX0_cuts_32 (roI_of (by simp [ctBx, bI, *]))
    ·
      replace c15 := bI_t c15
      refine r_aload_n dX0_cuts_18 rfl ?_
      refine r_aload_n dX0_cuts_19 rfl ?_
      refine r_iconst 2 dX0_cuts_20 (by decide) ?_
      refine r_callVI (iBo b) hL (ctX0_meets l Ω _ b o 2 hb ho (by omega)) kX0_cuts_32 (iB_lt hb) ⟨_, _, _, cel_box hb, rfl, rfl⟩ rfl rfl (Nat.le_of_ble_eq_true rfl) dX0_cuts_21 ?_
      refine r_if_eq 31 dX0_cuts_24 (by decide) (fun c24 => ?_) (fun c24 => ?_)
      ·
        replace c24 := bI_f c24
        refine r_iconst 0 dX0_cuts_31 (by decide) ?_
        exact r_zret hQ rfl ((by decide)) dX0_cuts_32 (roI_of (by simp [ctBx, bI, *]))
      ·
        replace c24 := bI_t c24
        refine r_iconst 1 dX0_cuts_27 (by decide) ?_
        refine r_goto 32 dX0_cuts_28 (by decide) ?_
        exact r_zret hQ rfl ((by decide)) dX0_cuts_32 (roI_of (by simp [ctBx, bI, *]))

set_option maxRecDepth 100000 in
set_option maxHeartbeats 4000000 in
theorem ctX0_meetsInDifference (l : Launch) (Ω : Om) (σ : Sg) (b o d e : Nat) (hb : b < 113) (ho : o < 113) (hd : d < 3) (he : e < 3) : CtW l yX0_meetsInDifference wsX0_meetsInDifference (rmD 0) Ω [.ref (ad Ω (iBo b)), .ref (ad Ω (iBo o)), .int (nI d), .int (nI e)] σ (roI (bI (md (σ (iL b)) (σ (iH b)) (σ (iL o)) (σ (iH o)) d e)) σ) := by
  refine ct_intro [some (.ref (ad Ω (iBo b))), some (.ref (ad Ω (iBo o))), some (.int (nI d)), some (.int (nI e))] (by decide) rfl rfl (Nat.le_of_ble_eq_true rfl) (fun Γ hL hQ => ?_)
  show AtW mX0_meetsInDifference Γ Ω σ 0 [some (.ref (ad Ω (iBo b))), some (.ref (ad Ω (iBo o))), some (.int (nI d)), some (.int (nI e))] []
  refine r_aload_n dX0_meetsInDifference_0 rfl ?_
  refine fX0_1 b hb jX0_meetsInDifference_X0 lX0_meetsInDifference_9 dX0_meetsInDifference_1 ?_
  refine r_iload_n dX0_meetsInDifference_4 rfl ?_
  refine ldL b hb d rfl (by omega) dX0_meetsInDifference_5 ?_
  refine r_aload_n dX0_meetsInDifference_6 rfl ?_
  refine fX0_2 b hb jX0_meetsInDifference_X0 lX0_meetsInDifference_15 dX0_meetsInDifference_7 ?_
  refine r_iload_n dX0_meetsInDifference_10 rfl ?_
  refine ldH b hb e rfl (by omega) dX0_meetsInDifference_11 ?_
  refine r_isub dX0_meetsInDifference_12 ?_
  refine r_aload_n dX0_meetsInDifference_13 rfl ?_
  refine fX0_2 o ho jX0_meetsInDifference_X0 lX0_meetsInDifference_15 dX0_meetsInDifference_14 ?_
  refine r_iload_n dX0_meetsInDifference_17 rfl ?_
  refine ldH o ho d rfl (by omega) dX0_meetsInDifference_18 ?_
  refine r_aload_n dX0_meetsInDifference_19 rfl ?_
  refine fX0_1 o ho jX0_meetsInDifference_X0 lX0_meetsInDifference_9 dX0_meetsInDifference_20 ?_
  refine r_iload_n dX0_meetsInDifference_23 rfl ?_
  refine ldL o ho e rfl (by omega) dX0_meetsInDifference_24 ?_
  refine r_isub dX0_meetsInDifference_25 ?_
  refine r_icmp_ge 62 dX0_meetsInDifference_26 (by decide) (fun c26 => ?_) (fun c26 => ?_)
  ·
    replace c26 := Int32.not_lt.mpr c26
    refine r_iconst 0 dX0_meetsInDifference_62 (by decide) ?_
    exact r_zret hQ rfl ((by decide)) dX0_meetsInDifference_63 (roI_of (by simp [md, bI, *]))
  ·
    replace c26 := Int32.not_le.mp c26
    refine r_aload_n dX0_meetsInDifference_29 rfl ?_
    refine fX0_1 o ho jX0_meetsInDifference_X0 lX0_meetsInDifference_9 dX0_meetsInDifference_30 ?_
    refine r_iload_n dX0_meetsInDifference_33 rfl ?_
    refine ldL o ho d rfl (by omega) dX0_meetsInDifference_34 ?_
    refine r_aload_n dX0_meetsInDifference_35 rfl ?_
    refine fX0_2 o ho jX0_meetsInDifference_X0 lX0_meetsInDifference_15 dX0_meetsInDifference_36 ?_
    refine r_iload_n dX0_meetsInDifference_39 rfl ?_
    refine ldH o ho e rfl (by omega) dX0_meetsInDifference_40 ?_
    refine r_isub dX0_meetsInDifference_41 ?_
    refine r_aload_n dX0_meetsInDifference_42 rfl ?_
    refine fX0_2 b hb jX0_meetsInDifference_X0 lX0_meetsInDifference_15 dX0_meetsInDifference_43 ?_
    refine r_iload_n dX0_meetsInDifference_46 rfl ?_
    refine ldH b hb d rfl (by omega) dX0_meetsInDifference_47 ?_
    refine r_aload_n dX0_meetsInDifference_48 rfl ?_
    refine fX0_1 b hb jX0_meetsInDifference_X0 lX0_meetsInDifference_9 dX0_meetsInDifference_49 ?_
    refine r_iload_n dX0_meetsInDifference_52 rfl ?_
    refine ldL b hb e rfl (by omega) dX0_meetsInDifference_53 ?_
    refine r_isub dX0_meetsInDifference_54 ?_
    refine r_icmp_ge 62 dX0_meetsInDifference_55 (by decide) (fun c55 => ?_) (fun c55 => ?_)
    ·
      replace c55 := Int32.not_lt.mpr c55
      refine r_iconst 0 dX0_meetsInDifference_62 (by decide) ?_
      exact r_zret hQ rfl ((by decide)) dX0_meetsInDifference_63 (roI_of (by simp [md, bI, *]))
    ·
      replace c55 := Int32.not_le.mp c55
      refine r_iconst 1 dX0_meetsInDifference_58 (by decide) ?_
      refine r_goto 63 dX0_meetsInDifference_59 (by decide) ?_
      exact r_zret hQ rfl ((by decide)) dX0_meetsInDifference_63 (roI_of (by simp [md, bI, *]))

set_option maxRecDepth 100000 in
set_option maxHeartbeats 4000000 in
theorem ctX0_overlapsOutlineOf (l : Launch) (Ω : Om) (σ : Sg) (b o : Nat) (hb : b < 113) (ho : o < 113) : CtW l yX0_overlapsOutlineOf wsX0_overlapsOutlineOf (rmD 1) Ω [.ref (ad Ω (iBo b)), .ref (ad Ω (iBo o))] σ (roI (bI (ovB (σ (iL b)) (σ (iH b)) (σ (iL o)) (σ (iH o)))) σ) := by
  refine ct_intro [some (.ref (ad Ω (iBo b))), some (.ref (ad Ω (iBo o)))] (by decide) rfl rfl (Nat.le_of_ble_eq_true rfl) (fun Γ hL hQ => ?_)
  show AtW mX0_overlapsOutlineOf Γ Ω σ 0 [some (.ref (ad Ω (iBo b))), some (.ref (ad Ω (iBo o)))] []
  refine r_aload_n dX0_overlapsOutlineOf_0 rfl ?_
  refine r_aload_n dX0_overlapsOutlineOf_1 rfl ?_
  refine r_iconst 0 dX0_overlapsOutlineOf_2 (by decide) ?_
  refine r_iconst 1 dX0_overlapsOutlineOf_3 (by decide) ?_
  refine r_callVI (iBo b) hL (ctX0_meetsInDifference l Ω _ b o 0 1 hb ho (by omega) (by omega)) kX0_overlapsOutlineOf_36 (iB_lt hb) ⟨_, _, _, cel_box hb, rfl, rfl⟩ rfl rfl (Nat.le_of_ble_eq_true rfl) dX0_overlapsOutlineOf_4 ?_
  refine r_if_eq 34 dX0_overlapsOutlineOf_7 (by decide) (fun c7 => ?_) (fun c7 => ?_)
  ·
    replace c7 := bI_f c7
    refine r_iconst 0 dX0_overlapsOutlineOf_34 (by decide) ?_
    exact r_zret hQ rfl ((by decide)) dX0_overlapsOutlineOf_35 (roI_of (by simp [ovB, bI, *]))
  ·
    replace c7 := bI_t c7
    refine r_aload_n dX0_overlapsOutlineOf_10 rfl ?_
    refine r_aload_n dX0_overlapsOutlineOf_11 rfl ?_
    refine r_iconst 0 dX0_overlapsOutlineOf_12 (by decide) ?_
    refine r_iconst 2 dX0_overlapsOutlineOf_13 (by decide) ?_
    refine r_callVI (iBo b) hL (ctX0_meetsInDifference l Ω _ b o 0 2 hb ho (by omega) (by omega)) kX0_overlapsOutlineOf_36 (iB_lt hb) ⟨_, _, _, cel_box hb, rfl, rfl⟩ rfl rfl (Nat.le_of_ble_eq_true rfl) dX0_overlapsOutlineOf_14 ?_
    refine r_if_eq 34 dX0_overlapsOutlineOf_17 (by decide) (fun c17 => ?_) (fun c17 => ?_)
    ·
      replace c17 := bI_f c17
      refine r_iconst 0 dX0_overlapsOutlineOf_34 (by decide) ?_
      exact r_zret hQ rfl ((by decide)) dX0_overlapsOutlineOf_35 (roI_of (by simp [ovB, bI, *]))
    ·
      replace c17 := bI_t c17
      refine r_aload_n dX0_overlapsOutlineOf_20 rfl ?_
      refine r_aload_n dX0_overlapsOutlineOf_21 rfl ?_
      refine r_iconst 1 dX0_overlapsOutlineOf_22 (by decide) ?_
      refine r_iconst 2 dX0_overlapsOutlineOf_23 (by decide) ?_
      refine r_callVI (iBo b) hL (ctX0_meetsInDifference l Ω _ b o 1 2 hb ho (by omega) (by omega)) kX0_overlapsOutlineOf_36 (iB_lt hb) ⟨_, _, _, cel_box hb, rfl, rfl⟩ rfl rfl (Nat.le_of_ble_eq_true rfl) dX0_overlapsOutlineOf_24 ?_
      refine r_if_eq 34 dX0_overlapsOutlineOf_27 (by decide) (fun c27 => ?_) (fun c27 => ?_)
      ·
        replace c27 := bI_f c27
        refine r_iconst 0 dX0_overlapsOutlineOf_34 (by decide) ?_
        exact r_zret hQ rfl ((by decide)) dX0_overlapsOutlineOf_35 (roI_of (by simp [ovB, bI, *]))
      ·
        replace c27 := bI_t c27
        refine r_iconst 1 dX0_overlapsOutlineOf_30 (by decide) ?_
        refine r_goto 35 dX0_overlapsOutlineOf_31 (by decide) ?_
        exact r_zret hQ rfl ((by decide)) dX0_overlapsOutlineOf_35 (roI_of (by simp [ovB, bI, *]))

set_option maxRecDepth 100000 in
set_option maxHeartbeats 4000000 in
theorem ctX0_isBelow (l : Launch) (Ω : Om) (σ : Sg) (b o : Nat) (hb : b < 113) (ho : o < 113) : CtW l yX0_isBelow wsX0_isBelow (rmD 1) Ω [.ref (ad Ω (iBo b)), .ref (ad Ω (iBo o))] σ (roI (bI (beB (σ (iL b)) (σ (iH b)) (σ (iL o)) (σ (iH o)))) σ) := by
  refine ct_intro [some (.ref (ad Ω (iBo b))), some (.ref (ad Ω (iBo o)))] (by decide) rfl rfl (Nat.le_of_ble_eq_true rfl) (fun Γ hL hQ => ?_)
  show AtW mX0_isBelow Γ Ω σ 0 [some (.ref (ad Ω (iBo b))), some (.ref (ad Ω (iBo o)))] []
  refine r_aload_n dX0_isBelow_0 rfl ?_
  refine r_aload_n dX0_isBelow_1 rfl ?_
  refine r_iconst 0 dX0_isBelow_2 (by decide) ?_
  refine r_callVI (iBo b) hL (ctX0_meets l Ω _ b o 0 hb ho (by omega)) kX0_isBelow_32 (iB_lt hb) ⟨_, _, _, cel_box hb, rfl, rfl⟩ rfl rfl (Nat.le_of_ble_eq_true rfl) dX0_isBelow_3 ?_
  refine r_if_eq 37 dX0_isBelow_6 (by decide) (fun c6 => ?_) (fun c6 => ?_)
  ·
    replace c6 := bI_f c6
    refine r_iconst 0 dX0_isBelow_37 (by decide) ?_
    exact r_zret hQ rfl ((by decide)) dX0_isBelow_38 (roI_of (by simp [beB, bI, *]))
  ·
    replace c6 := bI_t c6
    refine r_aload_n dX0_isBelow_9 rfl ?_
    refine r_aload_n dX0_isBelow_10 rfl ?_
    refine r_iconst 1 dX0_isBelow_11 (by decide) ?_
    refine r_callVI (iBo b) hL (ctX0_meets l Ω _ b o 1 hb ho (by omega)) kX0_isBelow_32 (iB_lt hb) ⟨_, _, _, cel_box hb, rfl, rfl⟩ rfl rfl (Nat.le_of_ble_eq_true rfl) dX0_isBelow_12 ?_
    refine r_if_eq 37 dX0_isBelow_15 (by decide) (fun c15 => ?_) (fun c15 => ?_)
    ·
      replace c15 := bI_f c15
      refine r_iconst 0 dX0_isBelow_37 (by decide) ?_
      exact r_zret hQ rfl ((by decide)) dX0_isBelow_38 (roI_of (by simp [beB, bI, *]))
    ·
      replace c15 := bI_t c15
      refine r_aload_n dX0_isBelow_18 rfl ?_
      refine fX0_2 b hb jX0_isBelow_X0 lX0_isBelow_15 dX0_isBelow_19 ?_
      refine r_iconst 2 dX0_isBelow_22 (by decide) ?_
      refine ldH b hb 2 rfl (by omega) dX0_isBelow_23 ?_
      refine r_aload_n dX0_isBelow_24 rfl ?_
      refine fX0_1 o ho jX0_isBelow_X0 lX0_isBelow_9 dX0_isBelow_25 ?_
      refine r_iconst 2 dX0_isBelow_28 (by decide) ?_
      refine ldL o ho 2 rfl (by omega) dX0_isBelow_29 ?_
      refine r_icmp_gt 37 dX0_isBelow_30 (by decide) (fun c30 => ?_) (fun c30 => ?_)
      ·
        refine r_iconst 0 dX0_isBelow_37 (by decide) ?_
        exact r_zret hQ rfl ((by decide)) dX0_isBelow_38 (roI_of (by simp [beB, bI, *]))
      ·
        refine r_iconst 1 dX0_isBelow_33 (by decide) ?_
        refine r_goto 38 dX0_isBelow_34 (by decide) ?_
        exact r_zret hQ rfl ((by decide)) dX0_isBelow_38 (roI_of (by simp [beB, bI, *]))

set_option maxRecDepth 100000 in
set_option maxHeartbeats 4000000 in
theorem ctX0_coversRow (l : Launch) (Ω : Om) (σ : Sg) (b : Nat) (y : Int32) (hb : b < 113) : CtW l yX0_coversRow wsX0_coversRow (rmD 0) Ω [.ref (ad Ω (iBo b)), .int y] σ (roI (bI (cvB (σ (iL b)) (σ (iH b)) y)) σ) := by
  refine ct_intro [some (.ref (ad Ω (iBo b))), some (.int y)] (by decide) rfl rfl (Nat.le_of_ble_eq_true rfl) (fun Γ hL hQ => ?_)
  show AtW mX0_coversRow Γ Ω σ 0 [some (.ref (ad Ω (iBo b))), some (.int y)] []
  refine r_aload_n dX0_coversRow_0 rfl ?_
  refine fX0_1 b hb jX0_coversRow_X0 lX0_coversRow_9 dX0_coversRow_1 ?_
  refine r_iconst 1 dX0_coversRow_4 (by decide) ?_
  refine ldL b hb 1 rfl (by omega) dX0_coversRow_5 ?_
  refine r_iload_n dX0_coversRow_6 rfl ?_
  refine r_icmp_gt 24 dX0_coversRow_7 (by decide) (fun c7 => ?_) (fun c7 => ?_)
  ·
    refine r_iconst 0 dX0_coversRow_24 (by decide) ?_
    exact r_zret hQ rfl ((by decide)) dX0_coversRow_25 (roI_of (by simp [cvB, bI, *]))
  ·
    refine r_iload_n dX0_coversRow_10 rfl ?_
    refine r_aload_n dX0_coversRow_11 rfl ?_
    refine fX0_2 b hb jX0_coversRow_X0 lX0_coversRow_15 dX0_coversRow_12 ?_
    refine r_iconst 1 dX0_coversRow_15 (by decide) ?_
    refine ldH b hb 1 rfl (by omega) dX0_coversRow_16 ?_
    refine r_icmp_ge 24 dX0_coversRow_17 (by decide) (fun c17 => ?_) (fun c17 => ?_)
    ·
      replace c17 := Int32.not_lt.mpr c17
      refine r_iconst 0 dX0_coversRow_24 (by decide) ?_
      exact r_zret hQ rfl ((by decide)) dX0_coversRow_25 (roI_of (by simp [cvB, bI, *]))
    ·
      replace c17 := Int32.not_le.mp c17
      refine r_iconst 1 dX0_coversRow_20 (by decide) ?_
      refine r_goto 25 dX0_coversRow_21 (by decide) ?_
      exact r_zret hQ rfl ((by decide)) dX0_coversRow_25 (roI_of (by simp [cvB, bI, *]))

set_option maxRecDepth 100000 in
set_option maxHeartbeats 4000000 in
theorem ctX0_longestDirection (l : Launch) (Ω : Om) (σ : Sg) (b : Nat) (hb : b < 113) : CtW l yX0_longestDirection wsX0_longestDirection (rmD 1) Ω [.ref (ad Ω (iBo b))] σ (roI (nI (lgd (szB σ b) 2)) σ) := by
  refine ct_intro [some (.ref (ad Ω (iBo b))), none, none] (by decide) rfl rfl (Nat.le_of_ble_eq_true rfl) (fun Γ hL hQ => ?_)
  show AtW mX0_longestDirection Γ Ω σ 0 [some (.ref (ad Ω (iBo b))), none, none] []
  refine r_iconst 0 dX0_longestDirection_0 (by decide) ?_
  refine r_istore_n dX0_longestDirection_1 (by decide) rfl ?_
  refine r_iconst 1 dX0_longestDirection_2 (by decide) ?_
  refine r_istore_n dX0_longestDirection_3 (by decide) rfl ?_
  have L1 : ∀ (N : Nat) (k g : Nat), k ≤ 2 → g = lgd (szB σ b) k → 2 < k + N → AtW mX0_longestDirection Γ Ω σ 4 [some (.ref (ad Ω (iBo b))), some (.int (nI g)), some (.int (nI (k + 1)))] [] := by
    intro N
    induction N with
    | zero =>
      intro k g hk hg hN
      exact absurd hN (by omega)
    | succ N ih =>
      intro k g hk hg hN
      have hgl : g ≤ k := by rw [hg]; exact lgd_le _ _
      refine r_iload_n dX0_longestDirection_4 rfl ?_
      refine r_iconst 3 dX0_longestDirection_5 (by decide) ?_
      refine r_icmp_ge 30 dX0_longestDirection_6 (by decide) (fun c6 => ?_) (fun c6 => ?_)
      ·
        replace c6 := Int32.not_lt.mpr c6
        have n6 := Nat.not_lt.mp (fun q => c6 ((nI_ltI (a := k + 1) (b := 3) (by omega) (by omega)).mpr q))
        refine r_iload_n dX0_longestDirection_30 rfl ?_
        have ek : k = 2 := by omega
        subst ek
        exact r_iret hQ rfl dX0_longestDirection_31 (roI_of (by rw [hg]))
      ·
        replace c6 := Int32.not_le.mp c6
        have n6 := (nI_ltI (a := k + 1) (b := 3) (by omega) (by omega)).mp c6
        refine r_aload_n dX0_longestDirection_9 rfl ?_
        refine r_iload_n dX0_longestDirection_10 rfl ?_
        refine r_callVI (iBo b) hL (ctX0_size l Ω _ b (k + 1) hb (by omega)) kX0_longestDirection_28 (iB_lt hb) ⟨_, _, _, cel_box hb, rfl, rfl⟩ rfl rfl (Nat.le_of_ble_eq_true rfl) dX0_longestDirection_11 ?_
        refine r_aload_n dX0_longestDirection_14 rfl ?_
        refine r_iload_n dX0_longestDirection_15 rfl ?_
        refine r_callVI (iBo b) hL (ctX0_size l Ω _ b g hb (by omega)) kX0_longestDirection_28 (iB_lt hb) ⟨_, _, _, cel_box hb, rfl, rfl⟩ rfl rfl (Nat.le_of_ble_eq_true rfl) dX0_longestDirection_16 ?_
        refine r_icmp_le 24 dX0_longestDirection_19 (by decide) (fun c19 => ?_) (fun c19 => ?_)
        ·
          replace c19 := Int32.not_lt.mpr c19
          refine r_iinc (nI (k + 1 + 1)) dX0_longestDirection_24 rfl (nI_1 (k + 1)) (by decide) rfl ?_
          refine r_goto 4 dX0_longestDirection_27 (by decide) ?_
          exact ih (k + 1) g (by omega) (by rw [hg] at c19 ⊢; rw [lgd, if_neg c19]) (by omega)
        ·
          replace c19 := Int32.not_le.mp c19
          refine r_iload_n dX0_longestDirection_22 rfl ?_
          refine r_istore_n dX0_longestDirection_23 (by decide) rfl ?_
          refine r_iinc (nI (k + 1 + 1)) dX0_longestDirection_24 rfl (nI_1 (k + 1)) (by decide) rfl ?_
          refine r_goto 4 dX0_longestDirection_27 (by decide) ?_
          exact ih (k + 1) (k + 1) (by omega) (by rw [hg] at c19; rw [lgd, if_pos c19]) (by omega)
  exact L1 3 0 0 (by omega) rfl (by omega)

set_option maxRecDepth 100000 in
set_option maxHeartbeats 4000000 in
theorem ctX0_directionOfHiding (l : Launch) (Ω : Om) (σ : Sg) (b o : Nat) (hb : b < 113) (ho : o < 113) : CtW l yX0_directionOfHiding wsX0_directionOfHiding (rmD 2) Ω [.ref (ad Ω (iBo b)), .ref (ad Ω (iBo o))] σ (roI (dhB (σ (iL b)) (σ (iH b)) (σ (iL o)) (σ (iH o))) σ) := by
  refine ct_intro [some (.ref (ad Ω (iBo b))), some (.ref (ad Ω (iBo o))), none] (by decide) rfl rfl (Nat.le_of_ble_eq_true rfl) (fun Γ hL hQ => ?_)
  show AtW mX0_directionOfHiding Γ Ω σ 0 [some (.ref (ad Ω (iBo b))), some (.ref (ad Ω (iBo o))), none] []
  refine r_aload_n dX0_directionOfHiding_0 rfl ?_
  refine r_aload_n dX0_directionOfHiding_1 rfl ?_
  refine r_callVI (iBo b) hL (ctX0_overlapsOutlineOf l Ω _ b o hb ho) kX0_directionOfHiding_40 (iB_lt hb) ⟨_, _, _, cel_box hb, rfl, rfl⟩ rfl rfl (Nat.le_of_ble_eq_true rfl) dX0_directionOfHiding_2 ?_
  refine r_if_ne 10 dX0_directionOfHiding_5 (by decide) (fun c5 => ?_) (fun c5 => ?_)
  ·
    replace c5 := bI_t c5
    refine r_iconst 0 dX0_directionOfHiding_10 (by decide) ?_
    refine r_istore_n dX0_directionOfHiding_11 (by decide) rfl ?_
    have L1 : ∀ (N : Nat) (k : Nat), k ≤ 3 → (∀ j, j < k → (!decide (σ (iL b) j < σ (iH o) j)) = false) → 3 < k + N → AtW mX0_directionOfHiding Γ Ω σ 12 [some (.ref (ad Ω (iBo b))), some (.ref (ad Ω (iBo o))), some (.int (nI k))] [] := by
      intro N
      induction N with
      | zero =>
        intro k hk hp hN
        exact absurd hN (by omega)
      | succ N ih =>
        intro k hk hp hN
        refine r_iload_n dX0_directionOfHiding_12 rfl ?_
        refine r_iconst 3 dX0_directionOfHiding_13 (by decide) ?_
        refine r_icmp_ge 40 dX0_directionOfHiding_14 (by decide) (fun c14 => ?_) (fun c14 => ?_)
        ·
          replace c14 := Int32.not_lt.mpr c14
          have n14 := Nat.not_lt.mp (fun q => c14 ((nI_ltI (a := k) (b := 3) (by omega) (by omega)).mpr q))
          refine r_iconst (-1) dX0_directionOfHiding_40 (by decide) ?_
          have ek : k = 3 := by omega
          subst ek
          exact r_iret hQ rfl dX0_directionOfHiding_41 (roI_of (by rw [dhB, if_pos c5, fI_none hp]))
        ·
          replace c14 := Int32.not_le.mp c14
          have n14 := (nI_ltI (a := k) (b := 3) (by omega) (by omega)).mp c14
          refine r_aload_n dX0_directionOfHiding_17 rfl ?_
          refine fX0_1 b hb jX0_directionOfHiding_X0 lX0_directionOfHiding_9 dX0_directionOfHiding_18 ?_
          refine r_iload_n dX0_directionOfHiding_21 rfl ?_
          refine ldL b hb k rfl (by omega) dX0_directionOfHiding_22 ?_
          refine r_aload_n dX0_directionOfHiding_23 rfl ?_
          refine fX0_2 o ho jX0_directionOfHiding_X0 lX0_directionOfHiding_15 dX0_directionOfHiding_24 ?_
          refine r_iload_n dX0_directionOfHiding_27 rfl ?_
          refine ldH o ho k rfl (by omega) dX0_directionOfHiding_28 ?_
          refine r_icmp_lt 34 dX0_directionOfHiding_29 (by decide) (fun c29 => ?_) (fun c29 => ?_)
          ·
            refine r_iinc (nI (k + 1)) dX0_directionOfHiding_34 rfl (nI_1 k) (by decide) rfl ?_
            refine r_goto 12 dX0_directionOfHiding_37 (by decide) ?_
            exact ih (k + 1) (by omega) (lt_s hp (by simp [c29])) (by omega)
          ·
            refine r_iload_n dX0_directionOfHiding_32 rfl ?_
            exact r_iret hQ rfl dX0_directionOfHiding_33 (roI_of (by rw [dhB, if_pos c5, fI_hit hp (by simp [c29]) n14]))
    exact L1 4 0 (by omega) (fun j hj => absurd hj (by omega)) (by omega)
  ·
    replace c5 := bI_f c5
    refine r_iconst (-1) dX0_directionOfHiding_8 (by decide) ?_
    exact r_iret hQ rfl dX0_directionOfHiding_9 (roI_of (by simp [dhB, c5]))

set_option maxRecDepth 100000 in
set_option maxHeartbeats 4000000 in
theorem ctX0_lay (l : Launch) (Ω : Om) (σ : Sg) (b d : Nat) (x y : Int32) (hb : b < 113) (hd : d < 3) : CtW l yX0_lay wsX0_lay (rmD 0) Ω [.ref (ad Ω (iBo b)), .int (nI d), .int x, .int y] σ (reJ (fun r σ1 => r = bI (inRg x y) ∧ σ1 = if inRg x y then upS (upS σ (iL b) d x) (iH b) d (x + y) else σ)) := by
  refine ct_intro [some (.ref (ad Ω (iBo b))), some (.int (nI d)), some (.int x), some (.int y)] (by decide) rfl rfl (Nat.le_of_ble_eq_true rfl) (fun Γ hL hQ => ?_)
  show AtW mX0_lay Γ Ω σ 0 [some (.ref (ad Ω (iBo b))), some (.int (nI d)), some (.int x), some (.int y)] []
  refine r_iload_n dX0_lay_0 rfl ?_
  refine r_if_lt 29 dX0_lay_1 (by decide) (fun c1 => ?_) (fun c1 => ?_)
  ·
    refine r_iconst 0 dX0_lay_29 (by decide) ?_
    exact r_zret hQ rfl ((by decide)) dX0_lay_30 (reJ_of (by simp [inRg, bI, *]))
  ·
    refine r_iload_n dX0_lay_4 rfl ?_
    refine r_bipush 31 dX0_lay_5 (by decide) ?_
    refine r_icmp_gt 29 dX0_lay_7 (by decide) (fun c7 => ?_) (fun c7 => ?_)
    ·
      refine r_iconst 0 dX0_lay_29 (by decide) ?_
      exact r_zret hQ rfl ((by decide)) dX0_lay_30 (reJ_of (by simp [inRg, bI, *]))
    ·
      refine r_iload_n dX0_lay_10 rfl ?_
      refine r_iconst 1 dX0_lay_11 (by decide) ?_
      refine r_icmp_lt 29 dX0_lay_12 (by decide) (fun c12 => ?_) (fun c12 => ?_)
      ·
        refine r_iconst 0 dX0_lay_29 (by decide) ?_
        exact r_zret hQ rfl ((by decide)) dX0_lay_30 (reJ_of (by simp [inRg, bI, *]))
      ·
        refine r_iload_n dX0_lay_15 rfl ?_
        refine r_bipush 12 dX0_lay_16 (by decide) ?_
        refine r_icmp_gt 29 dX0_lay_18 (by decide) (fun c18 => ?_) (fun c18 => ?_)
        ·
          refine r_iconst 0 dX0_lay_29 (by decide) ?_
          exact r_zret hQ rfl ((by decide)) dX0_lay_30 (reJ_of (by simp [inRg, bI, *]))
        ·
          refine r_iload_n dX0_lay_21 rfl ?_
          refine r_iload_n dX0_lay_22 rfl ?_
          refine r_iadd dX0_lay_23 ?_
          refine r_bipush 32 dX0_lay_24 (by decide) ?_
          refine r_icmp_le 31 dX0_lay_26 (by decide) (fun c26 => ?_) (fun c26 => ?_)
          ·
            replace c26 := Int32.not_lt.mpr c26
            refine r_aload_n dX0_lay_31 rfl ?_
            refine fX0_1 b hb jX0_lay_X0 lX0_lay_9 dX0_lay_32 ?_
            refine r_iload_n dX0_lay_35 rfl ?_
            refine r_iload_n dX0_lay_36 rfl ?_
            refine stL b hb d rfl (by omega) dX0_lay_37 ?_
            refine r_aload_n dX0_lay_38 rfl ?_
            refine fX0_2 b hb jX0_lay_X0 lX0_lay_15 dX0_lay_39 ?_
            refine r_iload_n dX0_lay_42 rfl ?_
            refine r_iload_n dX0_lay_43 rfl ?_
            refine r_iload_n dX0_lay_44 rfl ?_
            refine r_iadd dX0_lay_45 ?_
            refine stH b hb d rfl (by omega) dX0_lay_46 ?_
            refine r_iconst 1 dX0_lay_47 (by decide) ?_
            exact r_zret hQ rfl ((by decide)) dX0_lay_48 (reJ_of (by simp [inRg, bI, *]))
          ·
            replace c26 := Int32.not_le.mp c26
            refine r_iconst 0 dX0_lay_29 (by decide) ?_
            exact r_zret hQ rfl ((by decide)) dX0_lay_30 (reJ_of (by simp [inRg, bI, *]))

set_option maxRecDepth 100000 in
set_option maxHeartbeats 4000000 in
theorem ctX0_shift (l : Launch) (Ω : Om) (σ : Sg) (b d : Nat) (x : Int32) (hb : b < 113) (hd : d < 3) : CtW l yX0_shift wsX0_shift (rmD 0) Ω [.ref (ad Ω (iBo b)), .int (nI d), .int x] σ (reV (fun σ1 => σ1 = upS (upS σ (iL b) d (σ (iL b) d + x)) (iH b) d (σ (iH b) d + x))) := by
  refine ct_intro [some (.ref (ad Ω (iBo b))), some (.int (nI d)), some (.int x)] (by decide) rfl rfl (Nat.le_of_ble_eq_true rfl) (fun Γ hL hQ => ?_)
  show AtW mX0_shift Γ Ω σ 0 [some (.ref (ad Ω (iBo b))), some (.int (nI d)), some (.int x)] []
  refine r_aload_n dX0_shift_0 rfl ?_
  refine fX0_1 b hb jX0_shift_X0 lX0_shift_9 dX0_shift_1 ?_
  refine r_iload_n dX0_shift_4 rfl ?_
  refine r_dup2 dX0_shift_5 rfl rfl ?_
  refine ldL b hb d rfl (by omega) dX0_shift_6 ?_
  refine r_iload_n dX0_shift_7 rfl ?_
  refine r_iadd dX0_shift_8 ?_
  refine stL b hb d rfl (by omega) dX0_shift_9 ?_
  refine r_aload_n dX0_shift_10 rfl ?_
  refine fX0_2 b hb jX0_shift_X0 lX0_shift_15 dX0_shift_11 ?_
  refine r_iload_n dX0_shift_14 rfl ?_
  refine r_dup2 dX0_shift_15 rfl rfl ?_
  refine ldH b hb d rfl (by omega) dX0_shift_16 ?_
  refine r_iload_n dX0_shift_17 rfl ?_
  refine r_iadd dX0_shift_18 ?_
  refine stH b hb d rfl (by omega) dX0_shift_19 ?_
  exact r_vret hQ rfl dX0_shift_20 (reV_of (by rw [up_ne (show iH b ≠ iL b by unfold iH iL; omega)]))

set_option maxRecDepth 100000 in
set_option maxHeartbeats 4000000 in
theorem ctX0_copyFrom (l : Launch) (Ω : Om) (σ : Sg) (b o : Nat) (hb : b < 113) (ho : o < 113) : CtW l yX0_copyFrom wsX0_copyFrom (rmD 1) Ω [.ref (ad Ω (iBo b)), .ref (ad Ω (iBo o))] σ (reV (fun σ1 => bxC σ1 b σ o ∧ frB b σ σ1)) := by
  refine ct_intro [some (.ref (ad Ω (iBo b))), some (.ref (ad Ω (iBo o)))] (by decide) rfl rfl (Nat.le_of_ble_eq_true rfl) (fun Γ hL hQ => ?_)
  show AtW mX0_copyFrom Γ Ω σ 0 [some (.ref (ad Ω (iBo b))), some (.ref (ad Ω (iBo o)))] []
  refine r_aload_n dX0_copyFrom_0 rfl ?_
  refine r_aload_n dX0_copyFrom_1 rfl ?_
  refine fX0_0 o ho jX0_copyFrom_X0 lX0_copyFrom_18 dX0_copyFrom_2 ?_
  refine pX0_0 b hb jX0_copyFrom_X0 lX0_copyFrom_18 dX0_copyFrom_5 ?_
  refine r_aload_n dX0_copyFrom_8 rfl ?_
  refine fX0_1 o ho jX0_copyFrom_X0 lX0_copyFrom_9 dX0_copyFrom_9 ?_
  refine r_iconst 0 dX0_copyFrom_12 (by decide) ?_
  refine r_aload_n dX0_copyFrom_13 rfl ?_
  refine fX0_1 b hb jX0_copyFrom_X0 lX0_copyFrom_9 dX0_copyFrom_14 ?_
  refine r_iconst 0 dX0_copyFrom_17 (by decide) ?_
  refine r_iconst 3 dX0_copyFrom_18 (by decide) ?_
  refine r_copy 22 (by decide +kernel) (by decide +kernel) (by decide +kernel) (by decide +kernel) (iL o) (iL b) 3 3 3 (iL_lt ho) (iL_lt hb) (cel_low ho) (fun _ => cel_low hb) (by decide) (by decide) (by decide) (by decide) (by decide) rfl dX0_copyFrom_19 ?_
  refine r_aload_n dX0_copyFrom_22 rfl ?_
  refine fX0_2 o ho jX0_copyFrom_X0 lX0_copyFrom_15 dX0_copyFrom_23 ?_
  refine r_iconst 0 dX0_copyFrom_26 (by decide) ?_
  refine r_aload_n dX0_copyFrom_27 rfl ?_
  refine fX0_2 b hb jX0_copyFrom_X0 lX0_copyFrom_15 dX0_copyFrom_28 ?_
  refine r_iconst 0 dX0_copyFrom_31 (by decide) ?_
  refine r_iconst 3 dX0_copyFrom_32 (by decide) ?_
  refine r_copy 22 (by decide +kernel) (by decide +kernel) (by decide +kernel) (by decide +kernel) (iH o) (iH b) 3 3 3 (iH_lt ho) (iH_lt hb) (cel_high ho) (fun _ => cel_high hb) (by decide) (by decide) (by decide) (by decide) (by decide) rfl dX0_copyFrom_33 ?_
  exact r_vret hQ rfl dX0_copyFrom_36 (reV_of ⟨⟨by simp [setA, up_get, nBL, nBH], fun d hd => ⟨by simp [setA, up_get, va_cpy, hd, nLH, nLB], by simp [setA, up_get, va_cpy, hd, nHL, nHB]⟩⟩, fun k h1 h2 h3 => by funext i; simp [setA, up_get, h1, h2, h3]⟩)
