set_option maxRecDepth 100000 in
set_option maxHeartbeats 4000000 in
theorem ctX5_isDirection (l : Launch) (Ω : Om) (σ : Sg) (d : Int32) : CtW l yX5_isDirection wsX5_isDirection (rmD 0) Ω [.int d] σ (roI (bI (dirB d)) σ) := by
  refine ct_intro [some (.int d)] (by decide) rfl rfl (Nat.le_of_ble_eq_true rfl) (fun Γ hL hQ => ?_)
  show AtW mX5_isDirection Γ Ω σ 0 [some (.int d)] []
  refine r_iload_n dX5_isDirection_0 rfl ?_
  refine r_if_lt 13 dX5_isDirection_1 (by decide) (fun c1 => ?_) (fun c1 => ?_)
  ·
    refine r_iconst 0 dX5_isDirection_13 (by decide) ?_
    exact r_zret hQ rfl ((by decide)) dX5_isDirection_14 (roI_of (by simp [dirB, bI, *]))
  ·
    refine r_iload_n dX5_isDirection_4 rfl ?_
    refine r_iconst 3 dX5_isDirection_5 (by decide) ?_
    refine r_icmp_ge 13 dX5_isDirection_6 (by decide) (fun c6 => ?_) (fun c6 => ?_)
    ·
      replace c6 := Int32.not_lt.mpr c6
      refine r_iconst 0 dX5_isDirection_13 (by decide) ?_
      exact r_zret hQ rfl ((by decide)) dX5_isDirection_14 (roI_of (by simp [dirB, bI, *]))
    ·
      replace c6 := Int32.not_le.mp c6
      refine r_iconst 1 dX5_isDirection_9 (by decide) ?_
      refine r_goto 14 dX5_isDirection_10 (by decide) ?_
      exact r_zret hQ rfl ((by decide)) dX5_isDirection_14 (roI_of (by simp [dirB, bI, *]))

set_option maxRecDepth 100000 in
set_option maxHeartbeats 4000000 in
theorem ctX5_adoptTrial (l : Launch) (Ω : Om) (σ : Sg) (S : StV) (h : isC σ S) (w : SpV) (hw : isV σ 1 w) : CtW l yX5_adoptTrial wsX5_adoptTrial (rmD 4) Ω [.ref (ad Ω 368)] σ (reV (fun σ1 => isC σ1 (pushS S w) ∧ isV σ1 1 w ∧ keepM σ σ1)) := by
  refine ct_intro [some (.ref (ad Ω 368))] (by decide) rfl rfl (Nat.le_of_ble_eq_true rfl) (fun Γ hL hQ => ?_)
  show AtW mX5_adoptTrial Γ Ω σ 0 [some (.ref (ad Ω 368))] []
  obtain ⟨hv, ⟨pm, h0, hh⟩, hp, ht⟩ := id h
  have hn : vN (qC S) ≤ 16 := hv.1
  have hc : σ (iS 0) 1 = nI (vN (qC S)) := hv.2.1
  refine r_aload_n dX5_adoptTrial_0 rfl ?_
  refine fX5_4 jX5_adoptTrial_X5 lX5_adoptTrial_25 dX5_adoptTrial_1 ?_
  refine r_aload_n dX5_adoptTrial_4 rfl ?_
  refine fX5_0 jX5_adoptTrial_X5 lX5_adoptTrial_10 dX5_adoptTrial_5 ?_
  refine r_callVV (363) hL (ctX1_remember l Ω _ 0 (vN (qC S)) (qN S) pm h0 (by omega) hn hc) kX5_adoptTrial_218 (by omega) ⟨_, _, _, rfl, rfl, rfl⟩ rfl rfl (Nat.le_of_ble_eq_true rfl) dX5_adoptTrial_8 ?_
  intro σ1 hσ1
  refine r_aload_n dX5_adoptTrial_11 rfl ?_
  refine fX5_0 jX5_adoptTrial_X5 lX5_adoptTrial_10 dX5_adoptTrial_12 ?_
  refine r_aload_n dX5_adoptTrial_15 rfl ?_
  refine fX5_1 jX5_adoptTrial_X5 lX5_adoptTrial_16 dX5_adoptTrial_16 ?_
  refine r_callVV (iS 0) hL (ctX3_copyFrom l Ω σ1 0 1 (vN w) (by omega) (by omega) (by omega) hw.1 (rm_keep1 h0 hw hσ1).2.1) kX5_adoptTrial_57 (iS_lt (by omega)) ⟨_, _, _, cel_sp (by omega), rfl, rfl⟩ rfl rfl (Nat.le_of_ble_eq_true rfl) dX5_adoptTrial_19 ?_
  intro σ2 hσ2
  exact r_vret hQ rfl dX5_adoptTrial_22 (reV_of (adopt_ok hv h0 hh hp ht hw hσ1 hσ2.1 hσ2.2))

set_option maxRecDepth 100000 in
set_option maxHeartbeats 4000000 in
theorem ctX5_remove (l : Launch) (Ω : Om) (σ : Sg) (S : StV) (h : isC σ S) (x : Int32) : CtW l yX5_remove wsX5_remove (rmD 5) Ω [.ref (ad Ω 368), .int x] σ (reJ (okC σ (oRemove S x))) := by
  refine ct_intro [some (.ref (ad Ω 368)), some (.int x), none, none] (by decide) rfl rfl (Nat.le_of_ble_eq_true rfl) (fun Γ hL hQ => ?_)
  show AtW mX5_remove Γ Ω σ 0 [some (.ref (ad Ω 368)), some (.int x), none, none] []
  obtain ⟨hv, ⟨pm, h0, hh⟩, hp, ht⟩ := id h
  have hn : vN (qC S) ≤ 16 := hv.1
  have hc : σ (iS 0) 1 = nI (vN (qC S)) := hv.2.1
  refine r_aload_n dX5_remove_0 rfl ?_
  refine fX5_0 jX5_remove_X5 lX5_remove_10 dX5_remove_1 ?_
  refine r_iload_n dX5_remove_4 rfl ?_
  refine r_callVI (iS 0) hL (ctX3_slotOf l Ω _ 0 (vN (qC S)) (by omega) hn hc _) kX5_remove_68 (iS_lt (by omega)) ⟨_, _, _, cel_sp (by omega), rfl, rfl⟩ rfl rfl (Nat.le_of_ble_eq_true rfl) dX5_remove_5 ?_
  rw [v_slot hv]
  refine r_istore_n dX5_remove_8 (by decide) rfl ?_
  refine r_iload_n dX5_remove_9 rfl ?_
  refine r_iconst (-1) dX5_remove_10 (by decide) ?_
  refine r_icmp_ne 16 dX5_remove_11 (by decide) (fun c11 => ?_) (fun c11 => ?_)
  ·
    obtain ⟨k, hk, ek, e2⟩ := loc_some c11
    rw [e2]
    refine r_aload_n dX5_remove_16 rfl ?_
    refine fX5_0 jX5_remove_X5 lX5_remove_10 dX5_remove_17 ?_
    refine fX3_0 0 (by omega) jX5_remove_X3 lX5_remove_72 dX5_remove_20 ?_
    refine r_iload_n dX5_remove_23 rfl ?_
    refine r_aaldB 0 (by omega) k rfl (by omega) dX5_remove_24 ?_
    refine r_callVI (iBo (bx 0 k)) hL (ctX0_volume l Ω _ (bx 0 k) (bx_lt (by omega) (by omega))) kX5_remove_76 (iB_lt (bx_lt (by omega) (by omega))) ⟨_, _, _, cel_box (bx_lt (by omega) (by omega)), rfl, rfl⟩ rfl rfl (Nat.le_of_ble_eq_true rfl) dX5_remove_25 ?_
    rw [v_vo hv hk]
    refine r_istore_n dX5_remove_28 (by decide) rfl ?_
    refine r_aload_n dX5_remove_29 rfl ?_
    refine fX5_1 jX5_remove_X5 lX5_remove_16 dX5_remove_30 ?_
    refine r_aload_n dX5_remove_33 rfl ?_
    refine fX5_0 jX5_remove_X5 lX5_remove_10 dX5_remove_34 ?_
    refine r_callVV (iS 1) hL (ctX3_copyFrom l Ω σ 1 0 _ (by omega) (by omega) (by omega) hn hc) kX5_remove_57 (iS_lt (by omega)) ⟨_, _, _, cel_sp (by omega), rfl, rfl⟩ rfl rfl (Nat.le_of_ble_eq_true rfl) dX5_remove_37 ?_
    intro σ1 hσ1
    have k1 : keepC σ σ1 := keepC_fr hσ1.2
    have v1 : isV σ1 1 (qC S) := isV_sp hv hσ1.1
    refine r_aload_n dX5_remove_40 rfl ?_
    refine fX5_1 jX5_remove_X5 lX5_remove_16 dX5_remove_41 ?_
    refine r_iload_n dX5_remove_44 rfl ?_
    refine r_callVV (iS 1) hL (ctX3_takeOut l Ω _ 1 (vN (qC S)) (by omega) hn v1.2.1 k hk) kX5_remove_80 (iS_lt (by omega)) ⟨_, _, _, cel_sp (by omega), rfl, rfl⟩ rfl rfl (Nat.le_of_ble_eq_true rfl) dX5_remove_45 ?_
    intro σ2 hσ2
    have v2 := isV_take v1 hk hσ2
    have k2 := keepC_tr k1 (keepC_fr hσ2.2.2.2)
    refine r_aload_n dX5_remove_48 rfl ?_
    refine r_callVV (368) hL (ctX5_adoptTrial l Ω σ2 S (isC_kc h k2) (rmV (qC S) k) v2) kX5_remove_65 (by omega) ⟨_, _, _, rfl, rfl, rfl⟩ rfl rfl (Nat.le_of_ble_eq_true rfl) dX5_remove_49 ?_
    intro σ3 hσ3
    refine r_iload_n dX5_remove_52 rfl ?_
    exact r_iret hQ rfl dX5_remove_53 (reJ_of (okC_of (by rw [oRemove, ek]) hσ3.1 (keepM_tr (keepM_kc k2) hσ3.2.2)))
  ·
    have ek := loc_none hn c11
    refine r_iconst (-1) dX5_remove_14 (by decide) ?_
    exact r_iret hQ rfl dX5_remove_15 (reJ_of (okC_of (by rw [oRemove, ek]) h (fun _ _ => rfl)))

set_option maxRecDepth 100000 in
set_option maxHeartbeats 4000000 in
theorem ctX5_move (l : Launch) (Ω : Om) (σ : Sg) (S : StV) (h : isC σ S) (x d y : Int32) : CtW l yX5_move wsX5_move (rmD 5) Ω [.ref (ad Ω 368), .int x, .int d, .int y] σ (reJ (okC σ (oMove S x d y))) := by
  refine ct_intro [some (.ref (ad Ω 368)), some (.int x), some (.int d), some (.int y), none, none] (by decide) rfl rfl (Nat.le_of_ble_eq_true rfl) (fun Γ hL hQ => ?_)
  show AtW mX5_move Γ Ω σ 0 [some (.ref (ad Ω 368)), some (.int x), some (.int d), some (.int y), none, none] []
  obtain ⟨hv, ⟨pm, h0, hh⟩, hp, ht⟩ := id h
  have hn : vN (qC S) ≤ 16 := hv.1
  have hc : σ (iS 0) 1 = nI (vN (qC S)) := hv.2.1
  refine r_aload_n dX5_move_0 rfl ?_
  refine fX5_0 jX5_move_X5 lX5_move_10 dX5_move_1 ?_
  refine r_iload_n dX5_move_4 rfl ?_
  refine r_callVI (iS 0) hL (ctX3_slotOf l Ω _ 0 (vN (qC S)) (by omega) hn hc _) kX5_move_68 (iS_lt (by omega)) ⟨_, _, _, cel_sp (by omega), rfl, rfl⟩ rfl rfl (Nat.le_of_ble_eq_true rfl) dX5_move_5 ?_
  rw [v_slot hv]
  refine r_istore dX5_move_8 (by decide) rfl ?_
  refine r_iload dX5_move_10 rfl ?_
  refine r_iconst (-1) dX5_move_12 (by decide) ?_
  refine r_icmp_eq 23 dX5_move_13 (by decide) (fun c13 => ?_) (fun c13 => ?_)
  ·
    have ek := loc_none hn c13
    refine r_iconst (-1) dX5_move_23 (by decide) ?_
    exact r_iret hQ rfl dX5_move_24 (reJ_of (okC_of (oMove_no (Or.inl ek)) h (fun _ _ => rfl)))
  ·
    obtain ⟨k, hk, ek, e2⟩ := loc_some c13
    rw [e2]
    refine r_iload_n dX5_move_16 rfl ?_
    refine r_callSI hL (ctX5_isDirection l Ω _ _) kX5_move_84 rfl rfl (Nat.le_of_ble_eq_true rfl) dX5_move_17 ?_
    refine r_if_ne 25 dX5_move_20 (by decide) (fun c20 => ?_) (fun c20 => ?_)
    ·
      replace c20 := bI_t c20
      obtain ⟨e, he, rfl⟩ := dir_ix c20
      refine r_aload_n dX5_move_25 rfl ?_
      refine fX5_1 jX5_move_X5 lX5_move_16 dX5_move_26 ?_
      refine r_aload_n dX5_move_29 rfl ?_
      refine fX5_0 jX5_move_X5 lX5_move_10 dX5_move_30 ?_
      refine r_callVV (iS 1) hL (ctX3_copyFrom l Ω σ 1 0 _ (by omega) (by omega) (by omega) hn hc) kX5_move_57 (iS_lt (by omega)) ⟨_, _, _, cel_sp (by omega), rfl, rfl⟩ rfl rfl (Nat.le_of_ble_eq_true rfl) dX5_move_33 ?_
      intro σ1 hσ1
      have k1 : keepC σ σ1 := keepC_fr hσ1.2
      have v1 : isV σ1 1 (qC S) := isV_sp hv hσ1.1
      refine r_aload_n dX5_move_36 rfl ?_
      refine fX5_1 jX5_move_X5 lX5_move_16 dX5_move_37 ?_
      refine fX3_0 1 (by omega) jX5_move_X3 lX5_move_72 dX5_move_40 ?_
      refine r_iload dX5_move_43 rfl ?_
      refine r_aaldB 1 (by omega) k rfl (by omega) dX5_move_45 ?_
      refine r_astore dX5_move_46 (by decide) rfl ?_
      refine r_iload_n dX5_move_48 rfl ?_
      refine r_aload dX5_move_49 rfl ?_
      refine fX0_1 (bx 1 k) (bx_lt (by omega) (by omega)) jX5_move_X0 lX5_move_88 dX5_move_51 ?_
      refine r_iload_n dX5_move_54 rfl ?_
      refine ldL (bx 1 k) (bx_lt (by omega) (by omega)) e rfl (by omega) dX5_move_55 ?_
      rw [v_lo v1 hk e he]
      refine r_ineg dX5_move_56 ?_
      refine r_icmp_lt 74 dX5_move_57 (by decide) (fun c57 => ?_) (fun c57 => ?_)
      ·
        refine r_bipush (-2) dX5_move_74 (by decide) ?_
        exact r_iret hQ rfl dX5_move_76 (reJ_of (okC_of (by rw [oMove_at ek c20, nI_clamp (by omega), if_pos c57]) (isC_kc h k1) (keepM_kc k1)))
      ·
        refine r_iload_n dX5_move_60 rfl ?_
        refine r_bipush 32 dX5_move_61 (by decide) ?_
        refine r_aload dX5_move_63 rfl ?_
        refine fX0_2 (bx 1 k) (bx_lt (by omega) (by omega)) jX5_move_X0 lX5_move_92 dX5_move_65 ?_
        refine r_iload_n dX5_move_68 rfl ?_
        refine ldH (bx 1 k) (bx_lt (by omega) (by omega)) e rfl (by omega) dX5_move_69 ?_
        rw [v_hi v1 hk e he]
        refine r_isub dX5_move_70 ?_
        refine r_icmp_le 77 dX5_move_71 (by decide) (fun c71 => ?_) (fun c71 => ?_)
        ·
          replace c71 := Int32.not_lt.mpr c71
          refine r_aload dX5_move_77 rfl ?_
          refine r_iload_n dX5_move_79 rfl ?_
          refine r_iload_n dX5_move_80 rfl ?_
          refine r_callVV (iBo (bx 1 k)) hL (ctX0_shift l Ω _ (bx 1 k) e _ (bx_lt (by omega) (by omega)) (by omega)) kX5_move_95 (iB_lt (bx_lt (by omega) (by omega))) ⟨_, _, _, cel_box (bx_lt (by omega) (by omega)), rfl, rfl⟩ rfl rfl (Nat.le_of_ble_eq_true rfl) dX5_move_81 ?_
          intro σ2 hσ2
          have v2 : isV σ2 1 (shV (qC S) k e y) := by rw [hσ2]; exact isV_sh (by omega) v1 hk
          have k2 : keepC σ σ2 := keepC_tr k1 (by rw [hσ2]; exact keepC_up (by omega))
          refine r_aload_n dX5_move_84 rfl ?_
          refine fX5_1 jX5_move_X5 lX5_move_16 dX5_move_85 ?_
          refine r_aload dX5_move_88 rfl ?_
          refine r_iload dX5_move_90 rfl ?_
          refine r_callVI (iS 1) hL (ctX3_isCutBy l Ω σ2 1 (vN (qC S)) (by omega) hn v2.2.1 (bx 1 k) (bx_lt (by omega) (by omega)) _) kX5_move_99 (iS_lt (by omega)) ⟨_, _, _, cel_sp (by omega), rfl, rfl⟩ rfl rfl (Nat.le_of_ble_eq_true rfl) dX5_move_92 ?_
          rw [v_mvcut v2 hk]
          refine r_if_eq 101 dX5_move_95 (by decide) (fun c95 => ?_) (fun c95 => ?_)
          ·
            replace c95 := bI_f c95
            refine r_iload_n dX5_move_101 rfl ?_
            refine r_if_ne 108 dX5_move_102 (by decide) (fun c102 => ?_) (fun c102 => ?_)
            ·
              refine r_aload_n dX5_move_108 rfl ?_
              refine r_callVV (368) hL (ctX5_adoptTrial l Ω σ2 S (isC_kc h k2) (shV (qC S) k e y) v2) kX5_move_65 (by omega) ⟨_, _, _, rfl, rfl, rfl⟩ rfl rfl (Nat.le_of_ble_eq_true rfl) dX5_move_109 ?_
              intro σ3 hσ3
              refine r_aload_n dX5_move_112 rfl ?_
              refine fX5_0 jX5_move_X5 lX5_move_10 dX5_move_113 ?_
              refine fX3_0 0 (by omega) jX5_move_X3 lX5_move_72 dX5_move_116 ?_
              refine r_iload dX5_move_119 rfl ?_
              refine r_aaldB 0 (by omega) k rfl (by omega) dX5_move_121 ?_
              refine fX0_1 (bx 0 k) (bx_lt (by omega) (by omega)) jX5_move_X0 lX5_move_88 dX5_move_122 ?_
              refine r_iload_n dX5_move_125 rfl ?_
              refine ldL (bx 0 k) (bx_lt (by omega) (by omega)) e rfl (by omega) dX5_move_126 ?_
              rw [v_lo hσ3.1.1 (show k < vN (qC (pushS S (shV (qC S) k e y))) from hk) e he, show vLo (qC (pushS S (shV (qC S) k e y))) k e = vLo (qC S) k e + y from if_pos ⟨rfl, rfl⟩]
              exact r_iret hQ rfl dX5_move_127 (reJ_of (okC_of (by rw [oMove_at ek c20, nI_clamp (by omega), if_neg c57, if_neg c71, if_neg (by simp [c95]), if_neg c102]) hσ3.1 (keepM_tr (keepM_kc k2) hσ3.2.2)))
            ·
              refine r_bipush (-5) dX5_move_105 (by decide) ?_
              exact r_iret hQ rfl dX5_move_107 (reJ_of (okC_of (by rw [oMove_at ek c20, nI_clamp (by omega), if_neg c57, if_neg c71, if_neg (by simp [c95]), if_pos c102]) (isC_kc h k2) (keepM_kc k2)))
          ·
            replace c95 := bI_t c95
            refine r_bipush (-4) dX5_move_98 (by decide) ?_
            exact r_iret hQ rfl dX5_move_100 (reJ_of (okC_of (by rw [oMove_at ek c20, nI_clamp (by omega), if_neg c57, if_neg c71, if_pos c95]) (isC_kc h k2) (keepM_kc k2)))
        ·
          replace c71 := Int32.not_le.mp c71
          refine r_bipush (-2) dX5_move_74 (by decide) ?_
          exact r_iret hQ rfl dX5_move_76 (reJ_of (okC_of (by rw [oMove_at ek c20, nI_clamp (by omega), if_neg c57, if_pos c71]) (isC_kc h k1) (keepM_kc k1)))
    ·
      replace c20 := bI_f c20
      refine r_iconst (-1) dX5_move_23 (by decide) ?_
      exact r_iret hQ rfl dX5_move_24 (reJ_of (okC_of (oMove_no (Or.inr c20)) h (fun _ _ => rfl)))

set_option maxRecDepth 100000 in
set_option maxHeartbeats 4000000 in
theorem ctX5_fall (l : Launch) (Ω : Om) (σ : Sg) (S : StV) (h : isC σ S) (x : Int32) : CtW l yX5_fall wsX5_fall (rmD 5) Ω [.ref (ad Ω 368), .int x] σ (reJ (okC σ (oFall S x))) := by
  refine ct_intro [some (.ref (ad Ω 368)), some (.int x), none, none] (by decide) rfl rfl (Nat.le_of_ble_eq_true rfl) (fun Γ hL hQ => ?_)
  show AtW mX5_fall Γ Ω σ 0 [some (.ref (ad Ω 368)), some (.int x), none, none] []
  obtain ⟨hv, ⟨pm, h0, hh⟩, hp, ht⟩ := id h
  have hn : vN (qC S) ≤ 16 := hv.1
  have hc : σ (iS 0) 1 = nI (vN (qC S)) := hv.2.1
  refine r_aload_n dX5_fall_0 rfl ?_
  refine fX5_0 jX5_fall_X5 lX5_fall_10 dX5_fall_1 ?_
  refine r_iload_n dX5_fall_4 rfl ?_
  refine r_callVI (iS 0) hL (ctX3_slotOf l Ω _ 0 (vN (qC S)) (by omega) hn hc _) kX5_fall_68 (iS_lt (by omega)) ⟨_, _, _, cel_sp (by omega), rfl, rfl⟩ rfl rfl (Nat.le_of_ble_eq_true rfl) dX5_fall_5 ?_
  rw [v_slot hv]
  refine r_istore_n dX5_fall_8 (by decide) rfl ?_
  refine r_iload_n dX5_fall_9 rfl ?_
  refine r_iconst (-1) dX5_fall_10 (by decide) ?_
  refine r_icmp_ne 16 dX5_fall_11 (by decide) (fun c11 => ?_) (fun c11 => ?_)
  ·
    obtain ⟨k, hk, ek, e2⟩ := loc_some c11
    rw [e2]
    refine r_aload_n dX5_fall_16 rfl ?_
    refine fX5_0 jX5_fall_X5 lX5_fall_10 dX5_fall_17 ?_
    refine fX3_0 0 (by omega) jX5_fall_X3 lX5_fall_72 dX5_fall_20 ?_
    refine r_iload_n dX5_fall_23 rfl ?_
    refine r_aaldB 0 (by omega) k rfl (by omega) dX5_fall_24 ?_
    refine fX0_1 (bx 0 k) (bx_lt (by omega) (by omega)) jX5_fall_X0 lX5_fall_88 dX5_fall_25 ?_
    refine r_iconst 2 dX5_fall_28 (by decide) ?_
    refine ldL (bx 0 k) (bx_lt (by omega) (by omega)) 2 rfl (by omega) dX5_fall_29 ?_
    rw [v_lo hv hk 2 (by omega)]
    refine r_aload_n dX5_fall_30 rfl ?_
    refine fX5_0 jX5_fall_X5 lX5_fall_10 dX5_fall_31 ?_
    refine r_iload_n dX5_fall_34 rfl ?_
    refine r_callVI (iS 0) hL (ctX3_groundUnder l Ω _ 0 (vN (qC S)) (by omega) hn hc k (by omega)) kX5_fall_103 (iS_lt (by omega)) ⟨_, _, _, cel_sp (by omega), rfl, rfl⟩ rfl rfl (Nat.le_of_ble_eq_true rfl) dX5_fall_35 ?_
    rw [v_gr hv hk _ (Nat.le_refl _)]
    refine r_isub dX5_fall_38 ?_
    refine r_istore_n dX5_fall_39 (by decide) rfl ?_
    refine r_iload_n dX5_fall_40 rfl ?_
    refine r_if_gt 47 dX5_fall_41 (by decide) (fun c41 => ?_) (fun c41 => ?_)
    ·
      refine r_aload_n dX5_fall_47 rfl ?_
      refine fX5_1 jX5_fall_X5 lX5_fall_16 dX5_fall_48 ?_
      refine r_aload_n dX5_fall_51 rfl ?_
      refine fX5_0 jX5_fall_X5 lX5_fall_10 dX5_fall_52 ?_
      refine r_callVV (iS 1) hL (ctX3_copyFrom l Ω σ 1 0 _ (by omega) (by omega) (by omega) hn hc) kX5_fall_57 (iS_lt (by omega)) ⟨_, _, _, cel_sp (by omega), rfl, rfl⟩ rfl rfl (Nat.le_of_ble_eq_true rfl) dX5_fall_55 ?_
      intro σ1 hσ1
      have k1 : keepC σ σ1 := keepC_fr hσ1.2
      have v1 : isV σ1 1 (qC S) := isV_sp hv hσ1.1
      refine r_aload_n dX5_fall_58 rfl ?_
      refine fX5_1 jX5_fall_X5 lX5_fall_16 dX5_fall_59 ?_
      refine fX3_0 1 (by omega) jX5_fall_X3 lX5_fall_72 dX5_fall_62 ?_
      refine r_iload_n dX5_fall_65 rfl ?_
      refine r_aaldB 1 (by omega) k rfl (by omega) dX5_fall_66 ?_
      refine r_iconst 2 dX5_fall_67 (by decide) ?_
      refine r_iload_n dX5_fall_68 rfl ?_
      refine r_ineg dX5_fall_69 ?_
      refine r_callVV (iBo (bx 1 k)) hL (ctX0_shift l Ω _ (bx 1 k) 2 _ (bx_lt (by omega) (by omega)) (by omega)) kX5_fall_95 (iB_lt (bx_lt (by omega) (by omega))) ⟨_, _, _, cel_box (bx_lt (by omega) (by omega)), rfl, rfl⟩ rfl rfl (Nat.le_of_ble_eq_true rfl) dX5_fall_70 ?_
      intro σ2 hσ2
      have v2 : isV σ2 1 (shV (qC S) k 2 (-(vLo (qC S) k 2 - grG (vLo (qC S)) (vHi (qC S)) k (vN (qC S))))) := by rw [hσ2]; exact isV_sh (by omega) v1 hk
      have k2 : keepC σ σ2 := keepC_tr k1 (by rw [hσ2]; exact keepC_up (by omega))
      refine r_aload_n dX5_fall_73 rfl ?_
      refine r_callVV (368) hL (ctX5_adoptTrial l Ω σ2 S (isC_kc h k2) _ v2) kX5_fall_65 (by omega) ⟨_, _, _, rfl, rfl, rfl⟩ rfl rfl (Nat.le_of_ble_eq_true rfl) dX5_fall_74 ?_
      intro σ3 hσ3
      refine r_iload_n dX5_fall_77 rfl ?_
      exact r_iret hQ rfl dX5_fall_78 (reJ_of (okC_of (by rw [oFall, ek]; simp only; rw [if_pos c41]) hσ3.1 (keepM_tr (keepM_kc k2) hσ3.2.2)))
    ·
      refine r_bipush (-5) dX5_fall_44 (by decide) ?_
      exact r_iret hQ rfl dX5_fall_46 (reJ_of (okC_of (by rw [oFall, ek]; simp only; rw [if_neg c41]) h (fun _ _ => rfl)))
  ·
    have ek := loc_none hn c11
    refine r_iconst (-1) dX5_fall_14 (by decide) ?_
    exact r_iret hQ rfl dX5_fall_15 (reJ_of (okC_of (by rw [oFall, ek]) h (fun _ _ => rfl)))

set_option maxRecDepth 100000 in
set_option maxHeartbeats 4000000 in
theorem ctX5_split (l : Launch) (Ω : Om) (σ : Sg) (S : StV) (h : isC σ S) (x d y : Int32) (hx0 : ¬ vX (qC S) < 0) : CtW l yX5_split wsX5_split (rmD 5) Ω [.ref (ad Ω 368), .int x, .int d, .int y] σ (reJ (okC σ (oSplit S x d y))) := by
  refine ct_intro [some (.ref (ad Ω 368)), some (.int x), some (.int d), some (.int y), none, none, none] (by decide) rfl rfl (Nat.le_of_ble_eq_true rfl) (fun Γ hL hQ => ?_)
  show AtW mX5_split Γ Ω σ 0 [some (.ref (ad Ω 368)), some (.int x), some (.int d), some (.int y), none, none, none] []
  obtain ⟨hv, ⟨pm, h0, hh⟩, hp, ht⟩ := id h
  have hn : vN (qC S) ≤ 16 := hv.1
  have hc : σ (iS 0) 1 = nI (vN (qC S)) := hv.2.1
  refine r_aload_n dX5_split_0 rfl ?_
  refine fX5_0 jX5_split_X5 lX5_split_10 dX5_split_1 ?_
  refine r_iload_n dX5_split_4 rfl ?_
  refine r_callVI (iS 0) hL (ctX3_slotOf l Ω _ 0 (vN (qC S)) (by omega) hn hc _) kX5_split_68 (iS_lt (by omega)) ⟨_, _, _, cel_sp (by omega), rfl, rfl⟩ rfl rfl (Nat.le_of_ble_eq_true rfl) dX5_split_5 ?_
  rw [v_slot hv]
  refine r_istore dX5_split_8 (by decide) rfl ?_
  refine r_iload dX5_split_10 rfl ?_
  refine r_iconst (-1) dX5_split_12 (by decide) ?_
  refine r_icmp_eq 23 dX5_split_13 (by decide) (fun c13 => ?_) (fun c13 => ?_)
  ·
    have ek := loc_none hn c13
    refine r_iconst (-1) dX5_split_23 (by decide) ?_
    exact r_iret hQ rfl dX5_split_24 (reJ_of (okC_of (oSplit_no (Or.inl ek)) h (fun _ _ => rfl)))
  ·
    obtain ⟨k, hk, ek, e2⟩ := loc_some c13
    rw [e2]
    refine r_iload_n dX5_split_16 rfl ?_
    refine r_callSI hL (ctX5_isDirection l Ω _ _) kX5_split_84 rfl rfl (Nat.le_of_ble_eq_true rfl) dX5_split_17 ?_
    refine r_if_ne 25 dX5_split_20 (by decide) (fun c20 => ?_) (fun c20 => ?_)
    ·
      replace c20 := bI_t c20
      obtain ⟨e, he, rfl⟩ := dir_ix c20
      refine r_aload_n dX5_split_25 rfl ?_
      refine fX5_0 jX5_split_X5 lX5_split_10 dX5_split_26 ?_
      refine fX3_0 0 (by omega) jX5_split_X3 lX5_split_72 dX5_split_29 ?_
      refine r_iload dX5_split_32 rfl ?_
      refine r_aaldB 0 (by omega) k rfl (by omega) dX5_split_34 ?_
      refine r_astore dX5_split_35 (by decide) rfl ?_
      refine r_iload_n dX5_split_37 rfl ?_
      refine r_aload dX5_split_38 rfl ?_
      refine fX0_1 (bx 0 k) (bx_lt (by omega) (by omega)) jX5_split_X0 lX5_split_88 dX5_split_40 ?_
      refine r_iload_n dX5_split_43 rfl ?_
      refine ldL (bx 0 k) (bx_lt (by omega) (by omega)) e rfl (by omega) dX5_split_44 ?_
      rw [v_lo hv hk e he]
      refine r_icmp_le 59 dX5_split_45 (by decide) (fun c45 => ?_) (fun c45 => ?_)
      ·
        replace c45 := Int32.not_lt.mpr c45
        refine r_bipush (-2) dX5_split_59 (by decide) ?_
        exact r_iret hQ rfl dX5_split_61 (reJ_of (okC_of (by rw [oSplit_at ek c20, nI_clamp (by omega), if_pos (by simp [c45])]) h (fun _ _ => rfl)))
      ·
        replace c45 := Int32.not_le.mp c45
        refine r_iload_n dX5_split_48 rfl ?_
        refine r_aload dX5_split_49 rfl ?_
        refine fX0_2 (bx 0 k) (bx_lt (by omega) (by omega)) jX5_split_X0 lX5_split_92 dX5_split_51 ?_
        refine r_iload_n dX5_split_54 rfl ?_
        refine ldH (bx 0 k) (bx_lt (by omega) (by omega)) e rfl (by omega) dX5_split_55 ?_
        rw [v_hi hv hk e he]
        refine r_icmp_lt 62 dX5_split_56 (by decide) (fun c56 => ?_) (fun c56 => ?_)
        ·
          refine r_aload_n dX5_split_62 rfl ?_
          refine fX5_0 jX5_split_X5 lX5_split_10 dX5_split_63 ?_
          refine r_callVI (iS 0) hL (ctX3_isFull l Ω _ 0 (vN (qC S)) (by omega) hn hc) kX5_split_106 (iS_lt (by omega)) ⟨_, _, _, cel_sp (by omega), rfl, rfl⟩ rfl rfl (Nat.le_of_ble_eq_true rfl) dX5_split_66 ?_
          refine r_if_eq 75 dX5_split_69 (by decide) (fun c69 => ?_) (fun c69 => ?_)
          ·
            replace c69 := bI_f c69
            refine r_aload_n dX5_split_75 rfl ?_
            refine fX5_1 jX5_split_X5 lX5_split_16 dX5_split_76 ?_
            refine r_aload_n dX5_split_79 rfl ?_
            refine fX5_0 jX5_split_X5 lX5_split_10 dX5_split_80 ?_
            refine r_callVV (iS 1) hL (ctX3_copyFrom l Ω σ 1 0 _ (by omega) (by omega) (by omega) hn hc) kX5_split_57 (iS_lt (by omega)) ⟨_, _, _, cel_sp (by omega), rfl, rfl⟩ rfl rfl (Nat.le_of_ble_eq_true rfl) dX5_split_83 ?_
            intro σ1 hσ1
            have k1 : keepC σ σ1 := keepC_fr hσ1.2
            have v1 : isV σ1 1 (qC S) := isV_sp hv hσ1.1
            refine r_aload_n dX5_split_86 rfl ?_
            refine fX5_1 jX5_split_X5 lX5_split_16 dX5_split_87 ?_
            refine r_iload dX5_split_90 rfl ?_
            refine r_iload_n dX5_split_92 rfl ?_
            refine r_iload_n dX5_split_93 rfl ?_
            refine r_callVJ (iS 1) hL (ctX3_cutInTwo l Ω σ1 1 (vN (qC S)) (by omega) hn v1.2.1 k e y hk he (by rw [v1.2.2.1]; exact hx0)) kX5_split_110 (iS_lt (by omega)) ⟨_, _, _, cel_sp (by omega), rfl, rfl⟩ rfl rfl (Nat.le_of_ble_eq_true rfl) dX5_split_94 ?_
            intro r σ2 hσ2
            have h16 : vN (qC S) < 16 := by have := of_decide_eq_false c69; omega
            obtain ⟨rfl, v2⟩ := isV_cut v1 h16 hσ2 hk
            have k2 : keepC σ σ2 := keepC_tr k1 (keepC_fr (hσ2.2 h16).2.2.2.2.2.2.2.2)
            refine r_istore dX5_split_97 (by decide) rfl ?_
            refine r_aload_n dX5_split_99 rfl ?_
            refine r_callVV (368) hL (ctX5_adoptTrial l Ω σ2 S (isC_kc h k2) _ v2) kX5_split_65 (by omega) ⟨_, _, _, rfl, rfl, rfl⟩ rfl rfl (Nat.le_of_ble_eq_true rfl) dX5_split_100 ?_
            intro σ3 hσ3
            refine r_iload dX5_split_103 rfl ?_
            exact r_iret hQ rfl dX5_split_105 (reJ_of (okC_of (by rw [oSplit_at ek c20, nI_clamp (by omega), if_neg (by simp [c45]), if_neg (by simp [c56]), if_neg (of_decide_eq_false c69)]) hσ3.1 (keepM_tr (keepM_kc k2) hσ3.2.2)))
          ·
            replace c69 := bI_t c69
            refine r_bipush (-3) dX5_split_72 (by decide) ?_
            exact r_iret hQ rfl dX5_split_74 (reJ_of (okC_of (by rw [oSplit_at ek c20, nI_clamp (by omega), if_neg (by simp [c45]), if_neg (by simp [c56]), if_pos (of_decide_eq_true c69)]) h (fun _ _ => rfl)))
        ·
          refine r_bipush (-2) dX5_split_59 (by decide) ?_
          exact r_iret hQ rfl dX5_split_61 (reJ_of (okC_of (by rw [oSplit_at ek c20, nI_clamp (by omega), if_neg (by simp [c45]), if_pos (by simp [c56])]) h (fun _ _ => rfl)))
    ·
      replace c20 := bI_f c20
      refine r_iconst (-1) dX5_split_23 (by decide) ?_
      exact r_iret hQ rfl dX5_split_24 (reJ_of (okC_of (oSplit_no (Or.inr c20)) h (fun _ _ => rfl)))

set_option maxRecDepth 100000 in
set_option maxHeartbeats 4000000 in
theorem ctX5_set (l : Launch) (Ω : Om) (σ : Sg) (S : StV) (h : isC σ S) (s x : Int32) : CtW l yX5_set wsX5_set (rmD 5) Ω [.ref (ad Ω 368), .int s, .int x] σ (reJ (okC σ (oSet S s x))) := by
  refine ct_intro [some (.ref (ad Ω 368)), some (.int s), some (.int x), none] (by decide) rfl rfl (Nat.le_of_ble_eq_true rfl) (fun Γ hL hQ => ?_)
  show AtW mX5_set Γ Ω σ 0 [some (.ref (ad Ω 368)), some (.int s), some (.int x), none] []
  obtain ⟨hv, ⟨pm, h0, hh⟩, hp, ht⟩ := id h
  have hn : vN (qC S) ≤ 16 := hv.1
  have hc : σ (iS 0) 1 = nI (vN (qC S)) := hv.2.1
  refine r_iload_n dX5_set_0 rfl ?_
  refine r_if_eq 6 dX5_set_1 (by decide) (fun c1 => ?_) (fun c1 => ?_)
  ·
    refine r_iload_n dX5_set_6 rfl ?_
    refine r_if_lt 15 dX5_set_7 (by decide) (fun c7 => ?_) (fun c7 => ?_)
    ·
      refine r_bipush (-2) dX5_set_15 (by decide) ?_
      exact r_iret hQ rfl dX5_set_17 (reJ_of (okC_of (by rw [oSet, if_neg (fun q => q c1), if_pos c7]) h (fun _ _ => rfl)))
    ·
      refine r_iload_n dX5_set_10 rfl ?_
      refine r_iconst 2 dX5_set_11 (by decide) ?_
      refine r_icmp_le 18 dX5_set_12 (by decide) (fun c12 => ?_) (fun c12 => ?_)
      ·
        replace c12 := Int32.not_lt.mpr c12
        refine r_aload_n dX5_set_18 rfl ?_
        refine fX5_0 jX5_set_X5 lX5_set_10 dX5_set_19 ?_
        refine fX3_4 0 (by omega) jX5_set_X3 lX5_set_132 dX5_set_22 ?_
        rw [show σ (iS 0) 4 = vRu (qC S) from hv.2.2.2.2.1]
        refine r_istore_n dX5_set_25 (by decide) rfl ?_
        refine r_iload_n dX5_set_26 rfl ?_
        refine r_iload_n dX5_set_27 rfl ?_
        refine r_icmp_ne 34 dX5_set_28 (by decide) (fun c28 => ?_) (fun c28 => ?_)
        ·
          refine r_aload_n dX5_set_34 rfl ?_
          refine fX5_1 jX5_set_X5 lX5_set_16 dX5_set_35 ?_
          refine r_aload_n dX5_set_38 rfl ?_
          refine fX5_0 jX5_set_X5 lX5_set_10 dX5_set_39 ?_
          refine r_callVV (iS 1) hL (ctX3_copyFrom l Ω σ 1 0 _ (by omega) (by omega) (by omega) hn hc) kX5_set_57 (iS_lt (by omega)) ⟨_, _, _, cel_sp (by omega), rfl, rfl⟩ rfl rfl (Nat.le_of_ble_eq_true rfl) dX5_set_42 ?_
          intro σ1 hσ1
          have k1 : keepC σ σ1 := keepC_fr hσ1.2
          have v1 : isV σ1 1 (qC S) := isV_sp hv hσ1.1
          refine r_aload_n dX5_set_45 rfl ?_
          refine fX5_1 jX5_set_X5 lX5_set_16 dX5_set_46 ?_
          refine r_iload_n dX5_set_49 rfl ?_
          refine pX3_4 1 (by omega) jX5_set_X3 lX5_set_132 dX5_set_50 ?_
          refine r_aload_n dX5_set_53 rfl ?_
          refine r_callVV (368) hL (ctX5_adoptTrial l Ω _ S (isC_kc h (keepC_tr k1 keepC_ru)) (ruV (qC S) x) (isV_ru v1)) kX5_set_65 (by omega) ⟨_, _, _, rfl, rfl, rfl⟩ rfl rfl (Nat.le_of_ble_eq_true rfl) dX5_set_54 ?_
          intro σ3 hσ3
          refine r_iload_n dX5_set_57 rfl ?_
          exact r_iret hQ rfl dX5_set_58 (reJ_of (okC_of (by rw [oSet, if_neg (fun q => q c1), if_neg c7, if_neg c12, if_neg c28]) hσ3.1 (keepM_tr (keepM_kc (keepC_tr k1 keepC_ru)) hσ3.2.2)))
        ·
          refine r_bipush (-5) dX5_set_31 (by decide) ?_
          exact r_iret hQ rfl dX5_set_33 (reJ_of (okC_of (by rw [oSet, if_neg (fun q => q c1), if_neg c7, if_neg c12, if_pos c28]) h (fun _ _ => rfl)))
      ·
        replace c12 := Int32.not_le.mp c12
        refine r_bipush (-2) dX5_set_15 (by decide) ?_
        exact r_iret hQ rfl dX5_set_17 (reJ_of (okC_of (by rw [oSet, if_neg (fun q => q c1), if_neg c7, if_pos c12]) h (fun _ _ => rfl)))
  ·
    refine r_iconst (-1) dX5_set_4 (by decide) ?_
    exact r_iret hQ rfl dX5_set_5 (reJ_of (okC_of (by rw [oSet, if_pos c1]) h (fun _ _ => rfl)))

set_option maxRecDepth 100000 in
set_option maxHeartbeats 4000000 in
theorem ctX5_box (l : Launch) (Ω : Om) (σ : Sg) (S : StV) (h : isC σ S) (r : Int32) : CtW l yX5_box wsX5_box (rmD 0) Ω [.ref (ad Ω 368), .int r] σ (reJ (okC σ (oBox S r))) := by
  refine ct_intro [some (.ref (ad Ω 368)), some (.int r)] (by decide) rfl rfl (Nat.le_of_ble_eq_true rfl) (fun Γ hL hQ => ?_)
  show AtW mX5_box Γ Ω σ 0 [some (.ref (ad Ω 368)), some (.int r)] []
  obtain ⟨hv, ⟨pm, h0, hh⟩, hp, ht⟩ := id h
  have hn : vN (qC S) ≤ 16 := hv.1
  have hc : σ (iS 0) 1 = nI (vN (qC S)) := hv.2.1
  refine r_iload_n dX5_box_0 rfl ?_
  refine r_if_ge 7 dX5_box_1 (by decide) (fun c1 => ?_) (fun c1 => ?_)
  ·
    replace c1 := Int32.not_lt.mpr c1
    refine r_iload_n dX5_box_7 rfl ?_
    refine r_aload_n dX5_box_8 rfl ?_
    refine fX5_0 jX5_box_X5 lX5_box_10 dX5_box_9 ?_
    refine fX3_1 0 (by omega) jX5_box_X3 lX5_box_118 dX5_box_12 ?_
    rw [hc]
    refine r_icmp_ge 33 dX5_box_15 (by decide) (fun c15 => ?_) (fun c15 => ?_)
    ·
      replace c15 := Int32.not_lt.mpr c15
      refine r_bipush (-5) dX5_box_33 (by decide) ?_
      exact r_iret hQ rfl dX5_box_35 (reJ_of (okC_of (by rw [oBox, if_neg c1, if_neg c15]) h (fun _ _ => rfl)))
    ·
      replace c15 := Int32.not_le.mp c15
      obtain ⟨k, hk, rfl⟩ := slot_ix c1 c15 (by omega)
      refine r_aload_n dX5_box_18 rfl ?_
      refine fX5_0 jX5_box_X5 lX5_box_10 dX5_box_19 ?_
      refine fX3_0 0 (by omega) jX5_box_X3 lX5_box_72 dX5_box_22 ?_
      refine r_iload_n dX5_box_25 rfl ?_
      refine r_aaldB 0 (by omega) k rfl (by omega) dX5_box_26 ?_
      refine fX0_0 (bx 0 k) (bx_lt (by omega) (by omega)) jX5_box_X0 lX5_box_156 dX5_box_27 ?_
      rw [(hv.2.2.2.2.2 k hk).1]
      refine r_goto 35 dX5_box_30 (by decide) ?_
      exact r_iret hQ rfl dX5_box_35 (reJ_of (okC_of (by rw [oBox, if_neg c1, if_pos c15, nI_clamp (by omega)]) h (fun _ _ => rfl)))
  ·
    replace c1 := Int32.not_le.mp c1
    refine r_bipush (-2) dX5_box_4 (by decide) ?_
    exact r_iret hQ rfl dX5_box_6 (reJ_of (okC_of (by rw [oBox, if_pos c1]) h (fun _ _ => rfl)))

set_option maxRecDepth 100000 in
set_option maxHeartbeats 4000000 in
theorem ctX5_end (l : Launch) (Ω : Om) (σ : Sg) (S : StV) (h : isC σ S) (x d y : Int32) : CtW l yX5_end wsX5_end (rmD 1) Ω [.ref (ad Ω 368), .int x, .int d, .int y] σ (reJ (okC σ (oEnd S x d y))) := by
  refine ct_intro [some (.ref (ad Ω 368)), some (.int x), some (.int d), some (.int y), none, none] (by decide) rfl rfl (Nat.le_of_ble_eq_true rfl) (fun Γ hL hQ => ?_)
  show AtW mX5_end Γ Ω σ 0 [some (.ref (ad Ω 368)), some (.int x), some (.int d), some (.int y), none, none] []
  obtain ⟨hv, ⟨pm, h0, hh⟩, hp, ht⟩ := id h
  have hn : vN (qC S) ≤ 16 := hv.1
  have hc : σ (iS 0) 1 = nI (vN (qC S)) := hv.2.1
  refine r_aload_n dX5_end_0 rfl ?_
  refine fX5_0 jX5_end_X5 lX5_end_10 dX5_end_1 ?_
  refine r_iload_n dX5_end_4 rfl ?_
  refine r_callVI (iS 0) hL (ctX3_slotOf l Ω _ 0 (vN (qC S)) (by omega) hn hc _) kX5_end_68 (iS_lt (by omega)) ⟨_, _, _, cel_sp (by omega), rfl, rfl⟩ rfl rfl (Nat.le_of_ble_eq_true rfl) dX5_end_5 ?_
  rw [v_slot hv]
  refine r_istore dX5_end_8 (by decide) rfl ?_
  refine r_iload dX5_end_10 rfl ?_
  refine r_iconst (-1) dX5_end_12 (by decide) ?_
  refine r_icmp_eq 23 dX5_end_13 (by decide) (fun c13 => ?_) (fun c13 => ?_)
  ·
    have ek := loc_none hn c13
    refine r_iconst (-1) dX5_end_23 (by decide) ?_
    exact r_iret hQ rfl dX5_end_24 (reJ_of (okC_of (oEnd_no (Or.inl ek)) h (fun _ _ => rfl)))
  ·
    obtain ⟨k, hk, ek, e2⟩ := loc_some c13
    rw [e2]
    refine r_iload_n dX5_end_16 rfl ?_
    refine r_callSI hL (ctX5_isDirection l Ω _ _) kX5_end_84 rfl rfl (Nat.le_of_ble_eq_true rfl) dX5_end_17 ?_
    refine r_if_ne 25 dX5_end_20 (by decide) (fun c20 => ?_) (fun c20 => ?_)
    ·
      replace c20 := bI_t c20
      obtain ⟨e, he, rfl⟩ := dir_ix c20
      refine r_aload_n dX5_end_25 rfl ?_
      refine fX5_0 jX5_end_X5 lX5_end_10 dX5_end_26 ?_
      refine fX3_0 0 (by omega) jX5_end_X3 lX5_end_72 dX5_end_29 ?_
      refine r_iload dX5_end_32 rfl ?_
      refine r_aaldB 0 (by omega) k rfl (by omega) dX5_end_34 ?_
      refine r_astore dX5_end_35 (by decide) rfl ?_
      refine r_iload_n dX5_end_37 rfl ?_
      refine r_if_eq 51 dX5_end_38 (by decide) (fun c38 => ?_) (fun c38 => ?_)
      ·
        refine r_aload dX5_end_51 rfl ?_
        refine fX0_1 (bx 0 k) (bx_lt (by omega) (by omega)) jX5_end_X0 lX5_end_88 dX5_end_53 ?_
        refine r_iload_n dX5_end_56 rfl ?_
        refine ldL (bx 0 k) (bx_lt (by omega) (by omega)) e rfl (by omega) dX5_end_57 ?_
        rw [v_lo hv hk e he]
        exact r_iret hQ rfl dX5_end_58 (reJ_of (okC_of (by rw [oEnd_at ek c20, if_pos c38, nI_clamp (by omega)]) h (fun _ _ => rfl)))
      ·
        refine r_aload dX5_end_41 rfl ?_
        refine fX0_2 (bx 0 k) (bx_lt (by omega) (by omega)) jX5_end_X0 lX5_end_92 dX5_end_43 ?_
        refine r_iload_n dX5_end_46 rfl ?_
        refine ldH (bx 0 k) (bx_lt (by omega) (by omega)) e rfl (by omega) dX5_end_47 ?_
        rw [v_hi hv hk e he]
        refine r_goto 58 dX5_end_48 (by decide) ?_
        exact r_iret hQ rfl dX5_end_58 (reJ_of (okC_of (by rw [oEnd_at ek c20, if_neg c38, nI_clamp (by omega)]) h (fun _ _ => rfl)))
    ·
      replace c20 := bI_f c20
      refine r_iconst (-1) dX5_end_23 (by decide) ?_
      exact r_iret hQ rfl dX5_end_24 (reJ_of (okC_of (oEnd_no (Or.inr c20)) h (fun _ _ => rfl)))
