set_option maxRecDepth 100000 in
set_option maxHeartbeats 4000000 in
theorem ctX6_doSplit (l : Launch) (Ω : Om) (σ : Sg) (v : SpV) (hz : isZ (σ 370) v) (hn16 : vN v < 16) (k : Nat) (hk : k < vN v) (e : Nat) (he : e < 3) (t : Int32) : CtW l yX6_doSplit wsX6_doSplit (rmD 3) Ω [.ref (ad Ω 369), .int (nI k), .int (nI e), .int t] σ (reJ (fun r σ1 => dspI v k e t σ r σ1)) := by
  refine ct_intro [some (.ref (ad Ω 369)), some (.int (nI k)), some (.int (nI e)), some (.int t), none, none] (by decide) rfl rfl (Nat.le_of_ble_eq_true rfl) (fun Γ hL hQ => ?_)
  show AtW mX6_doSplit Γ Ω σ 0 [some (.ref (ad Ω 369)), some (.int (nI k)), some (.int (nI e)), some (.int t), none, none] []
  have hn := hz.1
  have hz0 := hz.2.1
  refine r_aload_n dX6_doSplit_0 rfl ?_
  refine r_iload_n dX6_doSplit_1 rfl ?_
  refine r_iload_n dX6_doSplit_2 rfl ?_
  refine r_callVI (369) hL (ctX6_high l Ω _ v hz k (by omega) e (by omega)) kX6_doSplit_57 (by omega) ⟨_, _, _, rfl, rfl, rfl⟩ rfl rfl (Nat.le_of_ble_eq_true rfl) dX6_doSplit_3 ?_
  refine r_istore dX6_doSplit_6 (by decide) rfl ?_
  refine r_aload_n dX6_doSplit_8 rfl ?_
  refine r_iload_n dX6_doSplit_9 rfl ?_
  refine r_iconst 4 dX6_doSplit_10 (by decide) ?_
  refine r_iload_n dX6_doSplit_11 rfl ?_
  refine r_iadd dX6_doSplit_12 ?_
  rw [four_d]
  refine r_iload_n dX6_doSplit_13 rfl ?_
  refine r_aload_n dX6_doSplit_14 rfl ?_
  refine r_iload_n dX6_doSplit_15 rfl ?_
  refine r_iload_n dX6_doSplit_16 rfl ?_
  refine r_callVI (369) hL (ctX6_low l Ω _ v hz k (by omega) e (by omega)) kX6_doSplit_47 (by omega) ⟨_, _, _, rfl, rfl, rfl⟩ rfl rfl (Nat.le_of_ble_eq_true rfl) dX6_doSplit_17 ?_
  refine r_isub dX6_doSplit_20 ?_
  refine r_callVV (369) hL (ctX6_put l Ω _ k (4 + e) (by omega) (by omega) _) kX6_doSplit_114 (by omega) ⟨_, _, _, rfl, rfl, rfl⟩ rfl rfl (Nat.le_of_ble_eq_true rfl) dX6_doSplit_21 ?_
  intro σ1 hσ1
  have hz1 : isZ (σ1 370) (setSz v k e (t - vLo v k e)) := by rw [hσ1]; exact isZ_setSz hz he _
  have hk1 : k < vN (setSz v k e (t - vLo v k e)) := hk
  refine r_aload_n dX6_doSplit_24 rfl ?_
  refine r_aload_n dX6_doSplit_25 rfl ?_
  refine r_iload_n dX6_doSplit_26 rfl ?_
  refine r_iconst 0 dX6_doSplit_27 (by decide) ?_
  refine r_callVI (369) hL (ctX6_low l Ω _ (setSz v k e (t - vLo v k e)) hz1 k hk1 0 (by omega)) kX6_doSplit_47 (by omega) ⟨_, _, _, rfl, rfl, rfl⟩ rfl rfl (Nat.le_of_ble_eq_true rfl) dX6_doSplit_28 ?_
  refine r_aload_n dX6_doSplit_31 rfl ?_
  refine r_iload_n dX6_doSplit_32 rfl ?_
  refine r_iconst 1 dX6_doSplit_33 (by decide) ?_
  refine r_callVI (369) hL (ctX6_low l Ω _ (setSz v k e (t - vLo v k e)) hz1 k hk1 1 (by omega)) kX6_doSplit_47 (by omega) ⟨_, _, _, rfl, rfl, rfl⟩ rfl rfl (Nat.le_of_ble_eq_true rfl) dX6_doSplit_34 ?_
  refine r_aload_n dX6_doSplit_37 rfl ?_
  refine r_iload_n dX6_doSplit_38 rfl ?_
  refine r_iconst 2 dX6_doSplit_39 (by decide) ?_
  refine r_callVI (369) hL (ctX6_low l Ω _ (setSz v k e (t - vLo v k e)) hz1 k hk1 2 (by omega)) kX6_doSplit_47 (by omega) ⟨_, _, _, rfl, rfl, rfl⟩ rfl rfl (Nat.le_of_ble_eq_true rfl) dX6_doSplit_40 ?_
  refine r_aload_n dX6_doSplit_43 rfl ?_
  refine r_iload_n dX6_doSplit_44 rfl ?_
  refine r_iconst 0 dX6_doSplit_45 (by decide) ?_
  refine r_callVI (369) hL (ctX6_size l Ω _ (setSz v k e (t - vLo v k e)) hz1 k hk1 0 (by omega)) kX6_doSplit_50 (by omega) ⟨_, _, _, rfl, rfl, rfl⟩ rfl rfl (Nat.le_of_ble_eq_true rfl) dX6_doSplit_46 ?_
  refine r_aload_n dX6_doSplit_49 rfl ?_
  refine r_iload_n dX6_doSplit_50 rfl ?_
  refine r_iconst 1 dX6_doSplit_51 (by decide) ?_
  refine r_callVI (369) hL (ctX6_size l Ω _ (setSz v k e (t - vLo v k e)) hz1 k hk1 1 (by omega)) kX6_doSplit_50 (by omega) ⟨_, _, _, rfl, rfl, rfl⟩ rfl rfl (Nat.le_of_ble_eq_true rfl) dX6_doSplit_52 ?_
  refine r_aload_n dX6_doSplit_55 rfl ?_
  refine r_iload_n dX6_doSplit_56 rfl ?_
  refine r_iconst 2 dX6_doSplit_57 (by decide) ?_
  refine r_callVI (369) hL (ctX6_size l Ω _ (setSz v k e (t - vLo v k e)) hz1 k hk1 2 (by omega)) kX6_doSplit_50 (by omega) ⟨_, _, _, rfl, rfl, rfl⟩ rfl rfl (Nat.le_of_ble_eq_true rfl) dX6_doSplit_58 ?_
  refine r_callVJ (369) hL (ctX6_putBox l Ω _ (setSz v k e (t - vLo v k e)) hz1 hn16 _ _ _ _ _ _) kX6_doSplit_122 (by omega) ⟨_, _, _, rfl, rfl, rfl⟩ rfl rfl (Nat.le_of_ble_eq_true rfl) dX6_doSplit_61 ?_
  intro r σ2 hσ2
  refine r_istore dX6_doSplit_64 (by decide) rfl ?_
  have hz2 : isZ (σ2 370) (cutX v k e t) := hσ2.2.1
  refine r_aload_n dX6_doSplit_66 rfl ?_
  refine r_aload_n dX6_doSplit_67 rfl ?_
  refine fX6_0 jX6_doSplit_X6 lX6_doSplit_7 dX6_doSplit_68 ?_
  refine r_iconst 0 dX6_doSplit_71 (by decide) ?_
  refine ldM370 0 rfl (by omega) dX6_doSplit_72 ?_
  rw [hz2.2.1]
  show AtW _ _ _ _ _ _ (.int (nI (vN v + 1)) :: _)
  refine r_iconst 1 dX6_doSplit_73 (by decide) ?_
  refine r_isub dX6_doSplit_74 ?_
  rw [nI_pred]
  refine r_iconst 1 dX6_doSplit_75 (by decide) ?_
  refine r_iload_n dX6_doSplit_76 rfl ?_
  refine r_iadd dX6_doSplit_77 ?_
  rw [one_d]
  refine r_iload_n dX6_doSplit_78 rfl ?_
  refine r_callVV (369) hL (ctX6_put l Ω _ (vN v) (1 + e) (by omega) (by omega) _) kX6_doSplit_114 (by omega) ⟨_, _, _, rfl, rfl, rfl⟩ rfl rfl (Nat.le_of_ble_eq_true rfl) dX6_doSplit_79 ?_
  intro σ3 hσ3
  have hz3 : isZ (σ3 370) (setL (cutX v k e t) (vN v) e t) := by rw [hσ3]; exact isZ_setL hz2 he _
  refine r_aload_n dX6_doSplit_82 rfl ?_
  refine r_aload_n dX6_doSplit_83 rfl ?_
  refine fX6_0 jX6_doSplit_X6 lX6_doSplit_7 dX6_doSplit_84 ?_
  refine r_iconst 0 dX6_doSplit_87 (by decide) ?_
  refine ldM370 0 rfl (by omega) dX6_doSplit_88 ?_
  rw [hz3.2.1]
  show AtW _ _ _ _ _ _ (.int (nI (vN v + 1)) :: _)
  refine r_iconst 1 dX6_doSplit_89 (by decide) ?_
  refine r_isub dX6_doSplit_90 ?_
  rw [nI_pred]
  refine r_iconst 4 dX6_doSplit_91 (by decide) ?_
  refine r_iload_n dX6_doSplit_92 rfl ?_
  refine r_iadd dX6_doSplit_93 ?_
  rw [four_d]
  refine r_iload dX6_doSplit_94 rfl ?_
  refine r_iload_n dX6_doSplit_96 rfl ?_
  refine r_isub dX6_doSplit_97 ?_
  refine r_callVV (369) hL (ctX6_put l Ω _ (vN v) (4 + e) (by omega) (by omega) _) kX6_doSplit_114 (by omega) ⟨_, _, _, rfl, rfl, rfl⟩ rfl rfl (Nat.le_of_ble_eq_true rfl) dX6_doSplit_98 ?_
  intro σ4 hσ4
  have hz4 : isZ (σ4 370) (setSz (setL (cutX v k e t) (vN v) e t) (vN v) e (vHi v k e - t)) := by rw [hσ4]; exact isZ_setSz hz3 he _
  refine r_aload_n dX6_doSplit_101 rfl ?_
  refine fX6_0 jX6_doSplit_X6 lX6_doSplit_7 dX6_doSplit_102 ?_
  refine r_iconst 2 dX6_doSplit_105 (by decide) ?_
  refine r_dup2 dX6_doSplit_106 rfl rfl ?_
  refine ldM370 2 rfl (by omega) dX6_doSplit_107 ?_
  rw [hz4.2.2.2.1]
  refine r_iconst 1 dX6_doSplit_108 (by decide) ?_
  refine r_iadd dX6_doSplit_109 ?_
  refine stM370 2 rfl (by omega) dX6_doSplit_110 ?_
  refine r_iload dX6_doSplit_111 rfl ?_
  exact r_iret hQ rfl dX6_doSplit_113 (reJ_of ⟨hσ2.1, isZ_c (isZ_sp hz4 _) (cut_bx v hk t), fun q hq => by rw [up_ne hq, hσ4, up_ne hq, hσ3, up_ne hq, hσ2.2.2 q hq, hσ1, up_ne hq]⟩)

set_option maxRecDepth 100000 in
set_option maxHeartbeats 4000000 in
theorem ctX6_split (l : Launch) (Ω : Om) (σ : Sg) (S : StV) (h : isMd σ S) (hg : gdV (qC S)) (y d x : Int32) : CtW l yX6_split wsX6_split (rmD 4) Ω [.ref (ad Ω 369), .int y, .int d, .int x] σ (reJ (fun r σ1 => okMd σ (oSplit S y d x) r σ1)) := by
  refine ct_intro [some (.ref (ad Ω 369)), some (.int y), some (.int d), some (.int x), none] (by decide) rfl rfl (Nat.le_of_ble_eq_true rfl) (fun Γ hL hQ => ?_)
  show AtW mX6_split Γ Ω σ 0 [some (.ref (ad Ω 369)), some (.int y), some (.int d), some (.int x), none] []
  have hz := h.1
  have hn := h.1.1
  have hz0 := h.1.2.1
  have hu := hg.1
  have hru := hg.2.1
  have hl := gd_lt hg
  refine r_aload_n dX6_split_0 rfl ?_
  refine r_iload_n dX6_split_1 rfl ?_
  refine r_callVI (369) hL (ctX6_rankOf l Ω _ (qC S) hz hu _) kX6_split_125 (by omega) ⟨_, _, _, rfl, rfl, rfl⟩ rfl rfl (Nat.le_of_ble_eq_true rfl) dX6_split_2 ?_
  refine r_istore dX6_split_5 (by decide) rfl ?_
  refine r_iload dX6_split_7 rfl ?_
  refine r_if_lt 19 dX6_split_9 (by decide) (fun c9 => ?_) (fun c9 => ?_)
  ·
    refine r_iconst (-1) dX6_split_19 (by decide) ?_
    exact r_iret hQ rfl dX6_split_20 (reJ_of (okMd_of (oSplit_no (Or.inl (loc_none hn (fI_neg hn c9)))) h (keepLw_rfl σ)))
  ·
    obtain ⟨k, hk, ek, e0⟩ := loc_some (fun q => c9 (by rw [q]; decide))
    rw [e0]
    refine r_iload_n dX6_split_12 rfl ?_
    refine r_callSI hL (ctX6_isDirection l Ω _ _) kX6_split_128 rfl rfl (Nat.le_of_ble_eq_true rfl) dX6_split_13 ?_
    refine r_if_ne 21 dX6_split_16 (by decide) (fun c16 => ?_) (fun c16 => ?_)
    ·
      replace c16 := bI_t c16
      obtain ⟨e, he, rfl⟩ := dir_ix c16
      have ec : (nI e).toNatClampNeg = e := nI_clamp (by omega)
      refine r_iload_n dX6_split_21 rfl ?_
      refine r_aload_n dX6_split_22 rfl ?_
      refine r_iload dX6_split_23 rfl ?_
      refine r_iload_n dX6_split_25 rfl ?_
      refine r_callVI (369) hL (ctX6_low l Ω _ (qC S) hz k (by omega) e (by omega)) kX6_split_47 (by omega) ⟨_, _, _, rfl, rfl, rfl⟩ rfl rfl (Nat.le_of_ble_eq_true rfl) dX6_split_26 ?_
      refine r_icmp_le 43 dX6_split_29 (by decide) (fun c29 => ?_) (fun c29 => ?_)
      ·
        replace c29 := Int32.not_lt.mpr c29
        refine r_bipush (-2) dX6_split_43 (by decide) ?_
        exact r_iret hQ rfl dX6_split_45 (reJ_of (okMd_of (by rw [oSplit_at ek c16, ec, decide_eq_false c29]; rfl) h (keepLw_rfl σ)))
      ·
        replace c29 := Int32.not_le.mp c29
        refine r_iload_n dX6_split_32 rfl ?_
        refine r_aload_n dX6_split_33 rfl ?_
        refine r_iload dX6_split_34 rfl ?_
        refine r_iload_n dX6_split_36 rfl ?_
        refine r_callVI (369) hL (ctX6_high l Ω _ (qC S) hz k (by omega) e (by omega)) kX6_split_57 (by omega) ⟨_, _, _, rfl, rfl, rfl⟩ rfl rfl (Nat.le_of_ble_eq_true rfl) dX6_split_37 ?_
        refine r_icmp_lt 46 dX6_split_40 (by decide) (fun c40 => ?_) (fun c40 => ?_)
        ·
          refine r_aload_n dX6_split_46 rfl ?_
          refine fX6_0 jX6_split_X6 lX6_split_7 dX6_split_47 ?_
          refine r_iconst 0 dX6_split_50 (by decide) ?_
          refine ldM370 0 rfl (by omega) dX6_split_51 ?_
          rw [hz0]
          refine r_bipush 16 dX6_split_52 (by decide) ?_
          refine r_icmp_ne 60 dX6_split_54 (by decide) (fun c54 => ?_) (fun c54 => ?_)
          ·
            have n54 : ¬ vN (qC S) = 16 := fun q => c54 ((nI_eq (a := vN (qC S)) (b := 16) (by omega) (by omega)).mpr q)
            refine r_aload_n dX6_split_60 rfl ?_
            refine r_aload_n dX6_split_61 rfl ?_
            refine fX6_0 jX6_split_X6 lX6_split_7 dX6_split_62 ?_
            refine r_callVV (369) hL (ctX6_push l Ω _ S h.2.1 h.1) kX6_split_110 (by omega) ⟨_, _, _, rfl, rfl, rfl⟩ rfl rfl (Nat.le_of_ble_eq_true rfl) dX6_split_65 ?_
            intro σ1 hσ1
            refine r_aload_n dX6_split_68 rfl ?_
            refine r_iload dX6_split_69 rfl ?_
            refine r_iload_n dX6_split_71 rfl ?_
            refine r_iload_n dX6_split_72 rfl ?_
            refine r_callVJ (369) hL (ctX6_doSplit l Ω _ (qC S) (by rw [phI_z hσ1]; exact hz) (by omega) k (by omega) e he _) kX6_split_137 (by omega) ⟨_, _, _, rfl, rfl, rfl⟩ rfl rfl (Nat.le_of_ble_eq_true rfl) dX6_split_73 ?_
            intro r σ2 hσ2
            exact r_iret hQ rfl dX6_split_76 (reJ_of (push_z h hσ1 hσ2.2.2 hσ2.2.1 (by rw [oSplit_at ek c16, ec, decide_eq_true c29, decide_eq_true c40, if_neg n54, hσ2.1]; rfl)))
          ·
            have n54 := (nI_eq (a := vN (qC S)) (b := 16) (by omega) (by omega)).mp c54
            refine r_bipush (-3) dX6_split_57 (by decide) ?_
            exact r_iret hQ rfl dX6_split_59 (reJ_of (okMd_of (by rw [oSplit_at ek c16, ec, decide_eq_true c29, decide_eq_true c40, if_pos n54]; rfl) h (keepLw_rfl σ)))
        ·
          refine r_bipush (-2) dX6_split_43 (by decide) ?_
          exact r_iret hQ rfl dX6_split_45 (reJ_of (okMd_of (by rw [oSplit_at ek c16, ec, decide_eq_true c29, decide_eq_false c40]; rfl) h (keepLw_rfl σ)))
    ·
      replace c16 := bI_f c16
      refine r_iconst (-1) dX6_split_19 (by decide) ?_
      exact r_iret hQ rfl dX6_split_20 (reJ_of (okMd_of (oSplit_no (Or.inr c16)) h (keepLw_rfl σ)))

set_option maxRecDepth 100000 in
set_option maxHeartbeats 4000000 in
theorem ctX6_breakAt (l : Launch) (Ω : Om) (σ : Sg) (v : SpV) (hz : isZ (σ 370) v) : CtW l yX6_breakAt wsX6_breakAt (rmD 7) Ω [.ref (ad Ω 369)] σ (reJ (fun r σ1 => baI v σ r σ1)) := by
  refine ct_intro [some (.ref (ad Ω 369)), none, none] (by decide) rfl rfl (Nat.le_of_ble_eq_true rfl) (fun Γ hL hQ => ?_)
  show AtW mX6_breakAt Γ Ω σ 0 [some (.ref (ad Ω 369)), none, none] []
  have hn := hz.1
  have hz0 := hz.2.1
  refine r_aload_n dX6_breakAt_0 rfl ?_
  refine r_callVV (369) hL (ctX6_findHiding l Ω _ v hz) kX6_breakAt_141 (by omega) ⟨_, _, _, rfl, rfl, rfl⟩ rfl rfl (Nat.le_of_ble_eq_true rfl) dX6_breakAt_1 ?_
  intro σ1 hσ1
  have hz1 : isZ (σ1 370) v := by rw [hσ1.2 370 (by omega) (by omega)]; exact hz
  refine r_bipush (-5) dX6_breakAt_4 (by decide) ?_
  refine r_istore_n dX6_breakAt_6 (by decide) rfl ?_
  refine r_iconst 0 dX6_breakAt_7 (by decide) ?_
  refine r_istore_n dX6_breakAt_8 (by decide) rfl ?_
  have L1 : ∀ (N : Nat) (k : Nat) (x : Int32), k ≤ vN v → x = oI5 (bestO (fun k => hasB (CVv v k) k) (fun k b => decide (voG (vLo v) (vHi v) b < voG (vLo v) (vHi v) k)) k) → vN v < k + N → AtW mX6_breakAt Γ Ω σ1 9 [some (.ref (ad Ω 369)), some (.int x), some (.int (nI k))] [] := by
    intro N
    induction N with
    | zero =>
      intro k x hk hx hN
      exact absurd hN (by omega)
    | succ N ih =>
      intro k x hk hx hN
      refine r_iload_n dX6_breakAt_9 rfl ?_
      refine r_aload_n dX6_breakAt_10 rfl ?_
      refine fX6_0 jX6_breakAt_X6 lX6_breakAt_7 dX6_breakAt_11 ?_
      refine r_iconst 0 dX6_breakAt_14 (by decide) ?_
      refine ldM370 0 rfl (by omega) dX6_breakAt_15 ?_
      rw [hz1.2.1]
      refine r_icmp_ge 56 dX6_breakAt_16 (by decide) (fun c16 => ?_) (fun c16 => ?_)
      ·
        replace c16 := Int32.not_lt.mpr c16
        have n16 := Nat.not_lt.mp (fun q => c16 ((nI_ltI (a := k) (b := vN v) (by omega) (by omega)).mpr q))
        refine r_iload_n dX6_breakAt_56 rfl ?_
        have ek : k = vN v := by omega
        subst ek
        exact r_iret hQ rfl dX6_breakAt_57 (reJ_of ⟨hx, hσ1.2⟩)
      ·
        replace c16 := Int32.not_le.mp c16
        have n16 := (nI_ltI (a := k) (b := vN v) (by omega) (by omega)).mp c16
        refine r_aload_n dX6_breakAt_19 rfl ?_
        refine r_iload_n dX6_breakAt_20 rfl ?_
        refine r_callVI (369) hL (ctX6_isInRing l Ω _ k (by omega)) kX6_breakAt_78 (by omega) ⟨_, _, _, rfl, rfl, rfl⟩ rfl rfl (Nat.le_of_ble_eq_true rfl) dX6_breakAt_21 ?_
        refine r_if_eq 48 dX6_breakAt_24 (by decide) (fun c24 => ?_) (fun c24 => ?_)
        ·
          replace c24 := bI_f c24
          rw [(hσ1.1 k (by omega)).2] at c24
          refine r_iload_n dX6_breakAt_48 rfl ?_
          refine r_istore_n dX6_breakAt_49 (by decide) rfl ?_
          refine r_iinc (nI (k + 1)) dX6_breakAt_50 rfl (nI_1 k) (by decide) rfl ?_
          refine r_goto 9 dX6_breakAt_53 (by decide) ?_
          exact ih (k + 1) _ (by omega) (by rw [bestO_no1 (by simp [c24]), hx]) (by omega)
        ·
          replace c24 := bI_t c24
          rw [(hσ1.1 k (by omega)).2] at c24
          refine r_iload_n dX6_breakAt_27 rfl ?_
          refine r_if_lt 44 dX6_breakAt_28 (by decide) (fun c28 => ?_) (fun c28 => ?_)
          ·
            refine r_iload_n dX6_breakAt_44 rfl ?_
            refine r_goto 49 dX6_breakAt_45 (by decide) ?_
            refine r_istore_n dX6_breakAt_49 (by decide) rfl ?_
            refine r_iinc (nI (k + 1)) dX6_breakAt_50 rfl (nI_1 k) (by decide) rfl ?_
            refine r_goto 9 dX6_breakAt_53 (by decide) ?_
            exact ih (k + 1) _ (by omega) (by rw [bestO_yes (p := fun k => hasB (CVv v k) k) c24 (Or.inl (oI5_lt (by omega) hx c28))]; rfl) (by omega)
          ·
            obtain ⟨b, hb, eb, rfl⟩ := oI5_nn hx c28
            refine r_aload_n dX6_breakAt_31 rfl ?_
            refine r_iload_n dX6_breakAt_32 rfl ?_
            refine r_callVI (369) hL (ctX6_volume l Ω _ v hz1 k (by omega)) kX6_breakAt_93 (by omega) ⟨_, _, _, rfl, rfl, rfl⟩ rfl rfl (Nat.le_of_ble_eq_true rfl) dX6_breakAt_33 ?_
            refine r_aload_n dX6_breakAt_36 rfl ?_
            refine r_iload_n dX6_breakAt_37 rfl ?_
            refine r_callVI (369) hL (ctX6_volume l Ω _ v hz1 b (by omega)) kX6_breakAt_93 (by omega) ⟨_, _, _, rfl, rfl, rfl⟩ rfl rfl (Nat.le_of_ble_eq_true rfl) dX6_breakAt_38 ?_
            refine r_icmp_le 48 dX6_breakAt_41 (by decide) (fun c41 => ?_) (fun c41 => ?_)
            ·
              replace c41 := Int32.not_lt.mpr c41
              refine r_iload_n dX6_breakAt_48 rfl ?_
              refine r_istore_n dX6_breakAt_49 (by decide) rfl ?_
              refine r_iinc (nI (k + 1)) dX6_breakAt_50 rfl (nI_1 k) (by decide) rfl ?_
              refine r_goto 9 dX6_breakAt_53 (by decide) ?_
              exact ih (k + 1) _ (by omega) (by rw [bestO_no2 eb (by simpa using c41), hx]) (by omega)
            ·
              replace c41 := Int32.not_le.mp c41
              refine r_iload_n dX6_breakAt_44 rfl ?_
              refine r_goto 49 dX6_breakAt_45 (by decide) ?_
              refine r_istore_n dX6_breakAt_49 (by decide) rfl ?_
              refine r_iinc (nI (k + 1)) dX6_breakAt_50 rfl (nI_1 k) (by decide) rfl ?_
              refine r_goto 9 dX6_breakAt_53 (by decide) ?_
              exact ih (k + 1) _ (by omega) (by rw [bestO_yes (p := fun k => hasB (CVv v k) k) c24 (Or.inr ⟨_, eb, by simpa using c41⟩)]; rfl) (by omega)
  exact L1 (vN v + 1) 0 _ (by omega) rfl (by omega)

set_option maxRecDepth 100000 in
set_option maxHeartbeats 4000000 in
theorem ctX6_greatestDirection (l : Launch) (Ω : Om) (σ : Sg) (v : SpV) (hz : isZ (σ 370) v) (k : Nat) (hk : k < vN v) : CtW l yX6_greatestDirection wsX6_greatestDirection (rmD 2) Ω [.ref (ad Ω 369), .int (nI k)] σ (roI (nI (brD v k)) σ) := by
  refine ct_intro [some (.ref (ad Ω 369)), some (.int (nI k)), none, none] (by decide) rfl rfl (Nat.le_of_ble_eq_true rfl) (fun Γ hL hQ => ?_)
  show AtW mX6_greatestDirection Γ Ω σ 0 [some (.ref (ad Ω 369)), some (.int (nI k)), none, none] []
  have hn := hz.1
  have hz0 := hz.2.1
  refine r_iconst 0 dX6_greatestDirection_0 (by decide) ?_
  refine r_istore_n dX6_greatestDirection_1 (by decide) rfl ?_
  refine r_iconst 1 dX6_greatestDirection_2 (by decide) ?_
  refine r_istore_n dX6_greatestDirection_3 (by decide) rfl ?_
  refine r_iload_n dX6_greatestDirection_4 rfl ?_
  refine r_iconst 3 dX6_greatestDirection_5 (by decide) ?_
  refine r_icmp_ge 36 dX6_greatestDirection_6 (by decide) (fun c6 => absurd c6 (by decide)) (fun c6 => ?_)
  refine r_aload_n dX6_greatestDirection_9 rfl ?_
  refine r_iload_n dX6_greatestDirection_10 rfl ?_
  refine r_iload_n dX6_greatestDirection_11 rfl ?_
  refine r_callVI (369) hL (ctX6_size l Ω _ v hz k (by omega) 1 (by omega)) kX6_greatestDirection_50 (by omega) ⟨_, _, _, rfl, rfl, rfl⟩ rfl rfl (Nat.le_of_ble_eq_true rfl) dX6_greatestDirection_12 ?_
  refine r_aload_n dX6_greatestDirection_15 rfl ?_
  refine r_iload_n dX6_greatestDirection_16 rfl ?_
  refine r_iload_n dX6_greatestDirection_17 rfl ?_
  refine r_callVI (369) hL (ctX6_size l Ω _ v hz k (by omega) 0 (by omega)) kX6_greatestDirection_50 (by omega) ⟨_, _, _, rfl, rfl, rfl⟩ rfl rfl (Nat.le_of_ble_eq_true rfl) dX6_greatestDirection_18 ?_
  refine r_icmp_le 28 dX6_greatestDirection_21 (by decide) (fun c21 => ?_) (fun c21 => ?_)
  ·
    replace c21 := Int32.not_lt.mpr c21
    have g1 := c21
    refine r_iload_n dX6_greatestDirection_28 rfl ?_
    refine r_istore_n dX6_greatestDirection_29 (by decide) rfl ?_
    refine r_iinc (2) dX6_greatestDirection_30 rfl (by decide) (by decide) rfl ?_
    refine r_goto 4 dX6_greatestDirection_33 (by decide) ?_
    refine r_iload_n dX6_greatestDirection_4 rfl ?_
    refine r_iconst 3 dX6_greatestDirection_5 (by decide) ?_
    refine r_icmp_ge 36 dX6_greatestDirection_6 (by decide) (fun c6 => absurd c6 (by decide)) (fun c6 => ?_)
    refine r_aload_n dX6_greatestDirection_9 rfl ?_
    refine r_iload_n dX6_greatestDirection_10 rfl ?_
    refine r_iload_n dX6_greatestDirection_11 rfl ?_
    refine r_callVI (369) hL (ctX6_size l Ω _ v hz k (by omega) 2 (by omega)) kX6_greatestDirection_50 (by omega) ⟨_, _, _, rfl, rfl, rfl⟩ rfl rfl (Nat.le_of_ble_eq_true rfl) dX6_greatestDirection_12 ?_
    refine r_aload_n dX6_greatestDirection_15 rfl ?_
    refine r_iload_n dX6_greatestDirection_16 rfl ?_
    refine r_iload_n dX6_greatestDirection_17 rfl ?_
    refine r_callVI (369) hL (ctX6_size l Ω _ v hz k (by omega) 0 (by omega)) kX6_greatestDirection_50 (by omega) ⟨_, _, _, rfl, rfl, rfl⟩ rfl rfl (Nat.le_of_ble_eq_true rfl) dX6_greatestDirection_18 ?_
    refine r_icmp_le 28 dX6_greatestDirection_21 (by decide) (fun c21 => ?_) (fun c21 => ?_)
    ·
      replace c21 := Int32.not_lt.mpr c21
      have g2 := c21
      refine r_iload_n dX6_greatestDirection_28 rfl ?_
      refine r_istore_n dX6_greatestDirection_29 (by decide) rfl ?_
      refine r_iinc (3) dX6_greatestDirection_30 rfl (by decide) (by decide) rfl ?_
      refine r_goto 4 dX6_greatestDirection_33 (by decide) ?_
      refine r_iload_n dX6_greatestDirection_4 rfl ?_
      refine r_iconst 3 dX6_greatestDirection_5 (by decide) ?_
      refine r_icmp_ge 36 dX6_greatestDirection_6 (by decide) (fun c6 => ?_) (fun c6 => absurd c6 (by decide))
      refine r_iload_n dX6_greatestDirection_36 rfl ?_
      exact r_iret hQ rfl dX6_greatestDirection_37 (roI_of (by rw [brD_0 g1 g2]; rfl))
    ·
      replace c21 := Int32.not_le.mp c21
      have g2 := c21
      refine r_iload_n dX6_greatestDirection_24 rfl ?_
      refine r_goto 29 dX6_greatestDirection_25 (by decide) ?_
      refine r_istore_n dX6_greatestDirection_29 (by decide) rfl ?_
      refine r_iinc (3) dX6_greatestDirection_30 rfl (by decide) (by decide) rfl ?_
      refine r_goto 4 dX6_greatestDirection_33 (by decide) ?_
      refine r_iload_n dX6_greatestDirection_4 rfl ?_
      refine r_iconst 3 dX6_greatestDirection_5 (by decide) ?_
      refine r_icmp_ge 36 dX6_greatestDirection_6 (by decide) (fun c6 => ?_) (fun c6 => absurd c6 (by decide))
      refine r_iload_n dX6_greatestDirection_36 rfl ?_
      exact r_iret hQ rfl dX6_greatestDirection_37 (roI_of (by rw [brD_20 g1 g2]; rfl))
  ·
    replace c21 := Int32.not_le.mp c21
    have g1 := c21
    refine r_iload_n dX6_greatestDirection_24 rfl ?_
    refine r_goto 29 dX6_greatestDirection_25 (by decide) ?_
    refine r_istore_n dX6_greatestDirection_29 (by decide) rfl ?_
    refine r_iinc (2) dX6_greatestDirection_30 rfl (by decide) (by decide) rfl ?_
    refine r_goto 4 dX6_greatestDirection_33 (by decide) ?_
    refine r_iload_n dX6_greatestDirection_4 rfl ?_
    refine r_iconst 3 dX6_greatestDirection_5 (by decide) ?_
    refine r_icmp_ge 36 dX6_greatestDirection_6 (by decide) (fun c6 => absurd c6 (by decide)) (fun c6 => ?_)
    refine r_aload_n dX6_greatestDirection_9 rfl ?_
    refine r_iload_n dX6_greatestDirection_10 rfl ?_
    refine r_iload_n dX6_greatestDirection_11 rfl ?_
    refine r_callVI (369) hL (ctX6_size l Ω _ v hz k (by omega) 2 (by omega)) kX6_greatestDirection_50 (by omega) ⟨_, _, _, rfl, rfl, rfl⟩ rfl rfl (Nat.le_of_ble_eq_true rfl) dX6_greatestDirection_12 ?_
    refine r_aload_n dX6_greatestDirection_15 rfl ?_
    refine r_iload_n dX6_greatestDirection_16 rfl ?_
    refine r_iload_n dX6_greatestDirection_17 rfl ?_
    refine r_callVI (369) hL (ctX6_size l Ω _ v hz k (by omega) 1 (by omega)) kX6_greatestDirection_50 (by omega) ⟨_, _, _, rfl, rfl, rfl⟩ rfl rfl (Nat.le_of_ble_eq_true rfl) dX6_greatestDirection_18 ?_
    refine r_icmp_le 28 dX6_greatestDirection_21 (by decide) (fun c21 => ?_) (fun c21 => ?_)
    ·
      replace c21 := Int32.not_lt.mpr c21
      have g2 := c21
      refine r_iload_n dX6_greatestDirection_28 rfl ?_
      refine r_istore_n dX6_greatestDirection_29 (by decide) rfl ?_
      refine r_iinc (3) dX6_greatestDirection_30 rfl (by decide) (by decide) rfl ?_
      refine r_goto 4 dX6_greatestDirection_33 (by decide) ?_
      refine r_iload_n dX6_greatestDirection_4 rfl ?_
      refine r_iconst 3 dX6_greatestDirection_5 (by decide) ?_
      refine r_icmp_ge 36 dX6_greatestDirection_6 (by decide) (fun c6 => ?_) (fun c6 => absurd c6 (by decide))
      refine r_iload_n dX6_greatestDirection_36 rfl ?_
      exact r_iret hQ rfl dX6_greatestDirection_37 (roI_of (by rw [brD_1 g1 g2]; rfl))
    ·
      replace c21 := Int32.not_le.mp c21
      have g2 := c21
      refine r_iload_n dX6_greatestDirection_24 rfl ?_
      refine r_goto 29 dX6_greatestDirection_25 (by decide) ?_
      refine r_istore_n dX6_greatestDirection_29 (by decide) rfl ?_
      refine r_iinc (3) dX6_greatestDirection_30 rfl (by decide) (by decide) rfl ?_
      refine r_goto 4 dX6_greatestDirection_33 (by decide) ?_
      refine r_iload_n dX6_greatestDirection_4 rfl ?_
      refine r_iconst 3 dX6_greatestDirection_5 (by decide) ?_
      refine r_icmp_ge 36 dX6_greatestDirection_6 (by decide) (fun c6 => ?_) (fun c6 => absurd c6 (by decide))
      refine r_iload_n dX6_greatestDirection_36 rfl ?_
      exact r_iret hQ rfl dX6_greatestDirection_37 (roI_of (by rw [brD_21 g1 g2]; rfl))

set_option maxRecDepth 100000 in
set_option maxHeartbeats 4000000 in
theorem ctX6_whyNoBreak (l : Launch) (Ω : Om) (σ : Sg) (v : SpV) (hz : isZ (σ 370) v) (x : Int32) (hx : x = oI5 (grV v)) : CtW l yX6_whyNoBreak wsX6_whyNoBreak (rmD 3) Ω [.ref (ad Ω 369), .int x] σ (roI (whA v) σ) := by
  refine ct_intro [some (.ref (ad Ω 369)), some (.int x)] (by decide) rfl rfl (Nat.le_of_ble_eq_true rfl) (fun Γ hL hQ => ?_)
  show AtW mX6_whyNoBreak Γ Ω σ 0 [some (.ref (ad Ω 369)), some (.int x)] []
  have hn := hz.1
  have hz0 := hz.2.1
  refine r_iload_n dX6_whyNoBreak_0 rfl ?_
  refine r_if_ge 7 dX6_whyNoBreak_1 (by decide) (fun c1 => ?_) (fun c1 => ?_)
  ·
    replace c1 := Int32.not_lt.mpr c1
    obtain ⟨k, hk, ek, rfl⟩ := oI5_nn hx c1
    have hd3 := brD_lt v k
    refine r_aload_n dX6_whyNoBreak_7 rfl ?_
    refine r_iload_n dX6_whyNoBreak_8 rfl ?_
    refine r_aload_n dX6_whyNoBreak_9 rfl ?_
    refine r_iload_n dX6_whyNoBreak_10 rfl ?_
    refine r_callVI (369) hL (ctX6_greatestDirection l Ω _ v hz k (by omega)) kX6_whyNoBreak_144 (by omega) ⟨_, _, _, rfl, rfl, rfl⟩ rfl rfl (Nat.le_of_ble_eq_true rfl) dX6_whyNoBreak_11 ?_
    refine r_callVI (369) hL (ctX6_size l Ω _ v hz k (by omega) (brD v k) (by omega)) kX6_whyNoBreak_50 (by omega) ⟨_, _, _, rfl, rfl, rfl⟩ rfl rfl (Nat.le_of_ble_eq_true rfl) dX6_whyNoBreak_14 ?_
    refine r_iconst 1 dX6_whyNoBreak_17 (by decide) ?_
    refine r_icmp_ne 26 dX6_whyNoBreak_18 (by decide) (fun c18 => ?_) (fun c18 => ?_)
    ·
      refine r_aload_n dX6_whyNoBreak_26 rfl ?_
      refine fX6_0 jX6_whyNoBreak_X6 lX6_whyNoBreak_7 dX6_whyNoBreak_27 ?_
      refine r_iconst 0 dX6_whyNoBreak_30 (by decide) ?_
      refine ldM370 0 rfl (by omega) dX6_whyNoBreak_31 ?_
      rw [hz0]
      refine r_bipush 16 dX6_whyNoBreak_32 (by decide) ?_
      refine r_icmp_ne 42 dX6_whyNoBreak_34 (by decide) (fun c34 => ?_) (fun c34 => ?_)
      ·
        have n34 : ¬ vN v = 16 := fun q => c34 ((nI_eq (a := vN v) (b := 16) (by omega) (by omega)).mpr q)
        refine r_iconst 0 dX6_whyNoBreak_42 (by decide) ?_
        exact r_iret hQ rfl dX6_whyNoBreak_43 (roI_of (by rw [wh_some ek, if_neg c18, if_neg n34]))
      ·
        have n34 := (nI_eq (a := vN v) (b := 16) (by omega) (by omega)).mp c34
        refine r_bipush (-3) dX6_whyNoBreak_37 (by decide) ?_
        refine r_goto 43 dX6_whyNoBreak_39 (by decide) ?_
        exact r_iret hQ rfl dX6_whyNoBreak_43 (roI_of (by rw [wh_some ek, if_neg c18, if_pos n34]))
    ·
      refine r_bipush (-4) dX6_whyNoBreak_21 (by decide) ?_
      refine r_goto 43 dX6_whyNoBreak_23 (by decide) ?_
      exact r_iret hQ rfl dX6_whyNoBreak_43 (roI_of (by rw [wh_some ek, if_pos c18]))
  ·
    replace c1 := Int32.not_le.mp c1
    refine r_bipush (-5) dX6_whyNoBreak_4 (by decide) ?_
    exact r_iret hQ rfl dX6_whyNoBreak_6 (roI_of (by rw [wh_none (oI5_lt hn hx c1)]))

set_option maxRecDepth 100000 in
set_option maxHeartbeats 4000000 in
theorem ctX6_doBreak (l : Launch) (Ω : Om) (σ : Sg) (v : SpV) (hz : isZ (σ 370) v) (hn16 : vN v < 16) (k : Nat) (hk : k < vN v) : CtW l yX6_doBreak wsX6_doBreak (rmD 4) Ω [.ref (ad Ω 369), .int (nI k)] σ (reJ (fun r σ1 => r = vX v ∧ isZ (σ1 370) (brV v k) ∧ ∀ q, q ≠ 370 → σ1 q = σ q)) := by
  refine ct_intro [some (.ref (ad Ω 369)), some (.int (nI k)), none] (by decide) rfl rfl (Nat.le_of_ble_eq_true rfl) (fun Γ hL hQ => ?_)
  show AtW mX6_doBreak Γ Ω σ 0 [some (.ref (ad Ω 369)), some (.int (nI k)), none] []
  have hn := hz.1
  have hz0 := hz.2.1
  have hd3 := brD_lt v k
  refine r_aload_n dX6_doBreak_0 rfl ?_
  refine r_iload_n dX6_doBreak_1 rfl ?_
  refine r_callVI (369) hL (ctX6_greatestDirection l Ω _ v hz k (by omega)) kX6_doBreak_144 (by omega) ⟨_, _, _, rfl, rfl, rfl⟩ rfl rfl (Nat.le_of_ble_eq_true rfl) dX6_doBreak_2 ?_
  refine r_istore_n dX6_doBreak_5 (by decide) rfl ?_
  refine r_aload_n dX6_doBreak_6 rfl ?_
  refine r_iload_n dX6_doBreak_7 rfl ?_
  refine r_iload_n dX6_doBreak_8 rfl ?_
  refine r_aload_n dX6_doBreak_9 rfl ?_
  refine r_iload_n dX6_doBreak_10 rfl ?_
  refine r_iload_n dX6_doBreak_11 rfl ?_
  refine r_callVI (369) hL (ctX6_low l Ω _ v hz k (by omega) (brD v k) (by omega)) kX6_doBreak_47 (by omega) ⟨_, _, _, rfl, rfl, rfl⟩ rfl rfl (Nat.le_of_ble_eq_true rfl) dX6_doBreak_12 ?_
  refine r_aload_n dX6_doBreak_15 rfl ?_
  refine r_iload_n dX6_doBreak_16 rfl ?_
  refine r_iload_n dX6_doBreak_17 rfl ?_
  refine r_callVI (369) hL (ctX6_size l Ω _ v hz k (by omega) (brD v k) (by omega)) kX6_doBreak_50 (by omega) ⟨_, _, _, rfl, rfl, rfl⟩ rfl rfl (Nat.le_of_ble_eq_true rfl) dX6_doBreak_18 ?_
  refine r_iconst 2 dX6_doBreak_21 (by decide) ?_
  refine r_idiv dX6_doBreak_22 (by decide) ?_
  refine r_iadd dX6_doBreak_23 ?_
  refine r_callVJ (369) hL (ctX6_doSplit l Ω _ v hz (by omega) k (by omega) (brD v k) (brD_lt v k) _) kX6_doBreak_137 (by omega) ⟨_, _, _, rfl, rfl, rfl⟩ rfl rfl (Nat.le_of_ble_eq_true rfl) dX6_doBreak_24 ?_
  intro r σ2 hσ2
  exact r_iret hQ rfl dX6_doBreak_27 (reJ_of hσ2)

set_option maxRecDepth 100000 in
set_option maxHeartbeats 4000000 in
theorem ctX6_breakRing (l : Launch) (Ω : Om) (σ : Sg) (S : StV) (h : isMd σ S) (hg : gdV (qC S)) : CtW l yX6_breakRing wsX6_breakRing (rmD 8) Ω [.ref (ad Ω 369)] σ (reJ (fun r σ1 => okMd σ (oBreak S) r σ1)) := by
  refine ct_intro [some (.ref (ad Ω 369)), none, none] (by decide) rfl rfl (Nat.le_of_ble_eq_true rfl) (fun Γ hL hQ => ?_)
  show AtW mX6_breakRing Γ Ω σ 0 [some (.ref (ad Ω 369)), none, none] []
  have hz := h.1
  have hn := h.1.1
  have hz0 := h.1.2.1
  have hu := hg.1
  have hru := hg.2.1
  have hl := gd_lt hg
  refine r_aload_n dX6_breakRing_0 rfl ?_
  refine r_callVJ (369) hL (ctX6_breakAt l Ω _ (qC S) hz) kX6_breakRing_147 (by omega) ⟨_, _, _, rfl, rfl, rfl⟩ rfl rfl (Nat.le_of_ble_eq_true rfl) dX6_breakRing_1 ?_
  intro x σ1 hσ1
  refine r_istore_n dX6_breakRing_4 (by decide) rfl ?_
  have hz1 : isZ (σ1 370) (qC S) := by rw [hσ1.2 370 (by omega) (by omega)]; exact hz
  have hk1 := fhF_kr hσ1.2
  have hm1 := isMd_kr h hk1
  have hw := wh_br hg
  refine r_aload_n dX6_breakRing_5 rfl ?_
  refine r_iload_n dX6_breakRing_6 rfl ?_
  refine r_callVI (369) hL (ctX6_whyNoBreak l Ω _ (qC S) hz1 _ hσ1.1) kX6_breakRing_150 (by omega) ⟨_, _, _, rfl, rfl, rfl⟩ rfl rfl (Nat.le_of_ble_eq_true rfl) dX6_breakRing_7 ?_
  refine r_istore_n dX6_breakRing_10 (by decide) rfl ?_
  refine r_iload_n dX6_breakRing_11 rfl ?_
  refine r_if_ge 17 dX6_breakRing_12 (by decide) (fun c12 => ?_) (fun c12 => ?_)
  ·
    replace c12 := Int32.not_lt.mpr c12
    have hw2 := hw.resolve_left (fun q => c12 q.1)
    obtain ⟨_, k, hk, hn16, ek, ea, eo, _⟩ := hw2
    have ex : x = nI k := by rw [hσ1.1, ek]; rfl
    rw [ex]
    refine r_aload_n dX6_breakRing_17 rfl ?_
    refine r_aload_n dX6_breakRing_18 rfl ?_
    refine fX6_0 jX6_breakRing_X6 lX6_breakRing_7 dX6_breakRing_19 ?_
    refine r_callVV (369) hL (ctX6_push l Ω _ S hm1.2.1 hm1.1) kX6_breakRing_110 (by omega) ⟨_, _, _, rfl, rfl, rfl⟩ rfl rfl (Nat.le_of_ble_eq_true rfl) dX6_breakRing_22 ?_
    intro σ2 hσ2
    refine r_aload_n dX6_breakRing_25 rfl ?_
    refine r_iload_n dX6_breakRing_26 rfl ?_
    refine r_callVJ (369) hL (ctX6_doBreak l Ω _ (qC S) (by rw [phI_z hσ2]; exact hz1) (by omega) k hk) kX6_breakRing_153 (by omega) ⟨_, _, _, rfl, rfl, rfl⟩ rfl rfl (Nat.le_of_ble_eq_true rfl) dX6_breakRing_27 ?_
    intro r σ3 hσ3
    exact r_iret hQ rfl dX6_breakRing_30 (reJ_of (okMd_tr (keepLw_kr hk1) (push_z hm1 hσ2 hσ3.2.2 hσ3.2.1 (by rw [oBreak, eo]; simp only; rw [ea, hσ3.1]))))
  ·
    replace c12 := Int32.not_le.mp c12
    refine r_iload_n dX6_breakRing_15 rfl ?_
    exact r_iret hQ rfl dX6_breakRing_16 (reJ_of (okMd_tr (keepLw_kr hk1) (okMd_of (by have hw2 := hw.resolve_right (fun q => by rw [q.1] at c12; exact absurd c12 (by decide)); rw [oBreak, hw2.2.2.1]; simp only; rw [hw2.2.2.2]) hm1 (keepLw_rfl _))))

set_option maxRecDepth 100000 in
set_option maxHeartbeats 4000000 in
theorem ctX6_turn (l : Launch) (Ω : Om) (σ : Sg) (S : StV) (h : isMd σ S) (hg : gdV (qC S)) (hp : peTn (qC S)) : CtW l yX6_turn wsX6_turn (rmD 7) Ω [.ref (ad Ω 369)] σ (reJ (fun r σ1 => okMd σ (oTurn S) r σ1)) := by
  refine ct_intro [some (.ref (ad Ω 369)), none, none, none] (by decide) rfl rfl (Nat.le_of_ble_eq_true rfl) (fun Γ hL hQ => ?_)
  show AtW mX6_turn Γ Ω σ 0 [some (.ref (ad Ω 369)), none, none, none] []
  have hz := h.1
  have hn := h.1.1
  have hz0 := h.1.2.1
  have hu := hg.1
  have hru := hg.2.1
  have hl := gd_lt hg
  refine r_aload_n dX6_turn_0 rfl ?_
  refine fX6_0 jX6_turn_X6 lX6_turn_7 dX6_turn_1 ?_
  refine r_iconst 0 dX6_turn_4 (by decide) ?_
  refine ldM370 0 rfl (by omega) dX6_turn_5 ?_
  rw [hz0]
  refine r_if_ne 12 dX6_turn_6 (by decide) (fun c6 => ?_) (fun c6 => ?_)
  ·
    have n6 : ¬ vN (qC S) = 0 := fun q => c6 ((nI_eq (a := vN (qC S)) (b := 0) (by omega) (by omega)).mpr q)
    refine r_aload_n dX6_turn_12 rfl ?_
    refine r_aload_n dX6_turn_13 rfl ?_
    refine fX6_0 jX6_turn_X6 lX6_turn_7 dX6_turn_14 ?_
    refine r_callVV (369) hL (ctX6_push l Ω _ S h.2.1 h.1) kX6_turn_110 (by omega) ⟨_, _, _, rfl, rfl, rfl⟩ rfl rfl (Nat.le_of_ble_eq_true rfl) dX6_turn_17 ?_
    intro σ1 hσ1
    refine r_aload_n dX6_turn_20 rfl ?_
    refine r_callVV (369) hL (ctX6_findHiding l Ω _ (qC S) (by rw [phI_z hσ1]; exact hz)) kX6_turn_141 (by omega) ⟨_, _, _, rfl, rfl, rfl⟩ rfl rfl (Nat.le_of_ble_eq_true rfl) dX6_turn_21 ?_
    intro σ2 hσ2
    have hz2 : isZ (σ2 370) (qC S) := by rw [hσ2.2 370 (by omega) (by omega), phI_z hσ1]; exact hz
    refine r_iconst 0 dX6_turn_24 (by decide) ?_
    refine r_istore_n dX6_turn_25 (by decide) rfl ?_
    have L1 : ∀ (N : Nat) (k : Nat) (τ : Sg), k ≤ vN (qC S) → bf9 (qC S) σ2 k τ → vN (qC S) < k + N → AtW mX6_turn Γ Ω τ 26 [some (.ref (ad Ω 369)), some (.int (nI k)), none, none] [] := by
      intro N
      induction N with
      | zero =>
        intro k τ hk hτ hN
        exact absurd hN (by omega)
      | succ N ih =>
        intro k τ hk hτ hN
        have hz3 : isZ (τ 370) (qC S) := by rw [hτ.2 370 (by omega)]; exact hz2
        refine r_iload_n dX6_turn_26 rfl ?_
        refine r_aload_n dX6_turn_27 rfl ?_
        refine fX6_0 jX6_turn_X6 lX6_turn_7 dX6_turn_28 ?_
        refine r_iconst 0 dX6_turn_31 (by decide) ?_
        refine ldM370 0 rfl (by omega) dX6_turn_32 ?_
        rw [hz3.2.1]
        refine r_icmp_ge 54 dX6_turn_33 (by decide) (fun c33 => ?_) (fun c33 => ?_)
        ·
          replace c33 := Int32.not_lt.mpr c33
          have n33 := Nat.not_lt.mp (fun q => c33 ((nI_ltI (a := k) (b := vN (qC S)) (by omega) (by omega)).mpr q))
          have ek : k = vN (qC S) := by omega
          subst ek
          refine r_iconst 0 dX6_turn_54 (by decide) ?_
          refine r_istore_n dX6_turn_55 (by decide) rfl ?_
          have L2 : ∀ (N : Nat) (k : Nat) (ω : Sg) (v2 v3 : Option Value), k ≤ vN (qC S) → isZ (ω 370) (tqV (qC S) k) → (∀ q, q ≠ 370 → ω q = τ q) → vN (qC S) < k + N → AtW mX6_turn Γ Ω ω 56 [some (.ref (ad Ω 369)), some (.int (nI k)), v2, v3] [] := by
            intro N
            induction N with
            | zero =>
              intro k ω v2 v3 hk hτz hωf hN
              exact absurd hN (by omega)
            | succ N ih =>
              intro k ω v2 v3 hk hτz hωf hN
              refine r_iload_n dX6_turn_56 rfl ?_
              refine r_aload_n dX6_turn_57 rfl ?_
              refine fX6_0 jX6_turn_X6 lX6_turn_7 dX6_turn_58 ?_
              refine r_iconst 0 dX6_turn_61 (by decide) ?_
              refine ldM370 0 rfl (by omega) dX6_turn_62 ?_
              rw [hτz.2.1]
              show AtW _ _ _ _ _ _ (.int (nI (vN (qC S))) :: _)
              refine r_icmp_ge 127 dX6_turn_63 (by decide) (fun c63 => ?_) (fun c63 => ?_)
              ·
                replace c63 := Int32.not_lt.mpr c63
                have n63 := Nat.not_lt.mp (fun q => c63 ((nI_ltI (a := k) (b := vN (qC S)) (by omega) (by omega)).mpr q))
                have ek : k = vN (qC S) := by omega
                subst ek
                have hzq : isZ (ω 370) (qtV (qC S)) := isZ_c hτz (tq_n _)
                refine r_aload_n dX6_turn_127 rfl ?_
                refine r_callVV (369) hL (ctX6_findHiding l Ω _ (qtV (qC S)) hzq) kX6_turn_141 (by omega) ⟨_, _, _, rfl, rfl, rfl⟩ rfl rfl (Nat.le_of_ble_eq_true rfl) dX6_turn_128 ?_
                intro σ4 hσ4
                have hz8 : isZ (σ4 370) (qtV (qC S)) := by rw [hσ4.2 370 (by omega) (by omega)]; exact hzq
                refine r_iconst 0 dX6_turn_131 (by decide) ?_
                refine r_istore_n dX6_turn_132 (by decide) rfl ?_
                refine r_iconst 0 dX6_turn_133 (by decide) ?_
                refine r_istore_n dX6_turn_134 (by decide) rfl ?_
                have L3 : ∀ (N : Nat) (k : Nat) (x : Int32), k ≤ vN (qC S) → x = sumI (fun k => onI (HV (qC S) k &&& (HV (qtV (qC S)) k ^^^ -1))) k → vN (qC S) < k + N → AtW mX6_turn Γ Ω σ4 135 [some (.ref (ad Ω 369)), some (.int x), some (.int (nI k)), v3] [] := by
                  intro N
                  induction N with
                  | zero =>
                    intro k x hk hx hN
                    exact absurd hN (by omega)
                  | succ N ih =>
                    intro k x hk hx hN
                    refine r_iload_n dX6_turn_135 rfl ?_
                    refine r_aload_n dX6_turn_136 rfl ?_
                    refine fX6_0 jX6_turn_X6 lX6_turn_7 dX6_turn_137 ?_
                    refine r_iconst 0 dX6_turn_140 (by decide) ?_
                    refine ldM370 0 rfl (by omega) dX6_turn_141 ?_
                    rw [hz8.2.1]
                    show AtW _ _ _ _ _ _ (.int (nI (vN (qC S))) :: _)
                    refine r_icmp_ge 172 dX6_turn_142 (by decide) (fun c142 => ?_) (fun c142 => ?_)
                    ·
                      replace c142 := Int32.not_lt.mpr c142
                      have n142 := Nat.not_lt.mp (fun q => c142 ((nI_ltI (a := k) (b := vN (qC S)) (by omega) (by omega)).mpr q))
                      have ek : k = vN (qC S) := by omega
                      subst ek
                      refine r_iload_n dX6_turn_172 rfl ?_
                      exact r_iret hQ rfl dX6_turn_173 (reJ_of (push_z2 h hσ1 (fun q hq => by rw [hσ4.2 q (by omega) (by omega), hωf q (by omega), hτ.2 q (by omega), hσ2.2 q (by omega) (by omega)]) (fun i _ _ _ => by rw [hσ4.2 369 (by omega) (by omega), hωf 369 (by omega), hτ.2 369 (by omega), hσ2.2 369 (by omega) (by omega)]) hz8 (by rw [oTurn, if_neg n6, hx, sumI_cR hp])))
                    ·
                      replace c142 := Int32.not_le.mp c142
                      have n142 := (nI_ltI (a := k) (b := vN (qC S)) (by omega) (by omega)).mp c142
                      refine r_iload_n dX6_turn_145 rfl ?_
                      refine r_aload_n dX6_turn_146 rfl ?_
                      refine fX6_13 jX6_turn_X6 lX6_turn_37 dX6_turn_147 ?_
                      refine r_iload_n dX6_turn_150 rfl ?_
                      refine ldM379 k rfl (by omega) dX6_turn_151 ?_
                      rw [hσ4.2 379 (by omega) (by omega), hωf 379 (by omega), hτ.1 k (by omega)]
                      refine r_aload_n dX6_turn_152 rfl ?_
                      refine fX6_8 jX6_turn_X6 lX6_turn_25 dX6_turn_153 ?_
                      refine r_iload_n dX6_turn_156 rfl ?_
                      refine ldM375 k rfl (by omega) dX6_turn_157 ?_
                      rw [(hσ4.1 k (by show k < vN (qC S); omega)).1]
                      refine r_iconst (-1) dX6_turn_158 (by decide) ?_
                      refine r_ixor dX6_turn_159 ?_
                      refine r_iand dX6_turn_160 ?_
                      refine r_callSI hL (ctX6_ones l Ω _ _) kX6_turn_156 rfl rfl (Nat.le_of_ble_eq_true rfl) dX6_turn_161 ?_
                      refine r_iadd dX6_turn_164 ?_
                      refine r_istore_n dX6_turn_165 (by decide) rfl ?_
                      refine r_iinc (nI (k + 1)) dX6_turn_166 rfl (nI_1 k) (by decide) rfl ?_
                      refine r_goto 135 dX6_turn_169 (by decide) ?_
                      exact ih (k + 1) _ (by omega) (by rw [hx]; rfl) (by omega)
                exact L3 (vN (qC S) + 1) 0 _ (by omega) rfl (by omega)
              ·
                replace c63 := Int32.not_le.mp c63
                have n63 := (nI_ltI (a := k) (b := vN (qC S)) (by omega) (by omega)).mp c63
                have hk2 : k < vN (tqV (qC S) k) := by show k < vN (qC S); omega
                refine r_aload_n dX6_turn_66 rfl ?_
                refine r_iload_n dX6_turn_67 rfl ?_
                refine r_iconst 0 dX6_turn_68 (by decide) ?_
                refine r_callVI (369) hL (ctX6_low l Ω _ (tqV (qC S) k) hτz k hk2 0 (by omega)) kX6_turn_47 (by omega) ⟨_, _, _, rfl, rfl, rfl⟩ rfl rfl (Nat.le_of_ble_eq_true rfl) dX6_turn_69 ?_
                refine r_istore_n dX6_turn_72 (by decide) rfl ?_
                refine r_aload_n dX6_turn_73 rfl ?_
                refine r_iload_n dX6_turn_74 rfl ?_
                refine r_iconst 0 dX6_turn_75 (by decide) ?_
                refine r_callVI (369) hL (ctX6_size l Ω _ (tqV (qC S) k) hτz k hk2 0 (by omega)) kX6_turn_50 (by omega) ⟨_, _, _, rfl, rfl, rfl⟩ rfl rfl (Nat.le_of_ble_eq_true rfl) dX6_turn_76 ?_
                refine r_istore_n dX6_turn_79 (by decide) rfl ?_
                refine r_aload_n dX6_turn_80 rfl ?_
                refine r_iload_n dX6_turn_81 rfl ?_
                refine r_iconst 1 dX6_turn_82 (by decide) ?_
                refine r_bipush 32 dX6_turn_83 (by decide) ?_
                refine r_aload_n dX6_turn_85 rfl ?_
                refine r_iload_n dX6_turn_86 rfl ?_
                refine r_iconst 1 dX6_turn_87 (by decide) ?_
                refine r_callVI (369) hL (ctX6_high l Ω _ (tqV (qC S) k) hτz k hk2 1 (by omega)) kX6_turn_57 (by omega) ⟨_, _, _, rfl, rfl, rfl⟩ rfl rfl (Nat.le_of_ble_eq_true rfl) dX6_turn_88 ?_
                refine r_isub dX6_turn_91 ?_
                refine r_callVV (369) hL (ctX6_put l Ω _ k 1 (by omega) (by omega) _) kX6_turn_114 (by omega) ⟨_, _, _, rfl, rfl, rfl⟩ rfl rfl (Nat.le_of_ble_eq_true rfl) dX6_turn_92 ?_
                intro σ3 hσ3
                have hz4 : isZ (σ3 370) (setL (tqV (qC S) k) k 0 (32 - vHi (tqV (qC S) k) k 1)) := by rw [hσ3]; exact isZ_setL hτz (e := 0) (by omega) _
                have hk3 : k < vN (setL (tqV (qC S) k) k 0 (32 - vHi (tqV (qC S) k) k 1)) := hk2
                refine r_aload_n dX6_turn_95 rfl ?_
                refine r_iload_n dX6_turn_96 rfl ?_
                refine r_iconst 4 dX6_turn_97 (by decide) ?_
                refine r_aload_n dX6_turn_98 rfl ?_
                refine r_iload_n dX6_turn_99 rfl ?_
                refine r_iconst 1 dX6_turn_100 (by decide) ?_
                refine r_callVI (369) hL (ctX6_size l Ω _ (setL (tqV (qC S) k) k 0 (32 - vHi (tqV (qC S) k) k 1)) hz4 k hk3 1 (by omega)) kX6_turn_50 (by omega) ⟨_, _, _, rfl, rfl, rfl⟩ rfl rfl (Nat.le_of_ble_eq_true rfl) dX6_turn_101 ?_
                refine r_callVV (369) hL (ctX6_put l Ω _ k 4 (by omega) (by omega) _) kX6_turn_114 (by omega) ⟨_, _, _, rfl, rfl, rfl⟩ rfl rfl (Nat.le_of_ble_eq_true rfl) dX6_turn_104 ?_
                intro σ5 hσ5
                have hz5 : isZ (σ5 370) (setSz (setL (tqV (qC S) k) k 0 (32 - vHi (tqV (qC S) k) k 1)) k 0 (szG (vLo (setL (tqV (qC S) k) k 0 (32 - vHi (tqV (qC S) k) k 1))) (vHi (setL (tqV (qC S) k) k 0 (32 - vHi (tqV (qC S) k) k 1))) k 1)) := by rw [hσ5]; exact isZ_setSz hz4 (e := 0) (by omega) _
                refine r_aload_n dX6_turn_107 rfl ?_
                refine r_iload_n dX6_turn_108 rfl ?_
                refine r_iconst 2 dX6_turn_109 (by decide) ?_
                refine r_iload_n dX6_turn_110 rfl ?_
                refine r_callVV (369) hL (ctX6_put l Ω _ k 2 (by omega) (by omega) _) kX6_turn_114 (by omega) ⟨_, _, _, rfl, rfl, rfl⟩ rfl rfl (Nat.le_of_ble_eq_true rfl) dX6_turn_111 ?_
                intro σ6 hσ6
                have hz6 : isZ (σ6 370) (setL (setSz (setL (tqV (qC S) k) k 0 (32 - vHi (tqV (qC S) k) k 1)) k 0 (szG (vLo (setL (tqV (qC S) k) k 0 (32 - vHi (tqV (qC S) k) k 1))) (vHi (setL (tqV (qC S) k) k 0 (32 - vHi (tqV (qC S) k) k 1))) k 1)) k 1 (vLo (tqV (qC S) k) k 0)) := by rw [hσ6]; exact isZ_setL hz5 (e := 1) (by omega) _
                refine r_aload_n dX6_turn_114 rfl ?_
                refine r_iload_n dX6_turn_115 rfl ?_
                refine r_iconst 5 dX6_turn_116 (by decide) ?_
                refine r_iload_n dX6_turn_117 rfl ?_
                refine r_callVV (369) hL (ctX6_put l Ω _ k 5 (by omega) (by omega) _) kX6_turn_114 (by omega) ⟨_, _, _, rfl, rfl, rfl⟩ rfl rfl (Nat.le_of_ble_eq_true rfl) dX6_turn_118 ?_
                intro σ7 hσ7
                have hz7 : isZ (σ7 370) (setSz (setL (setSz (setL (tqV (qC S) k) k 0 (32 - vHi (tqV (qC S) k) k 1)) k 0 (szG (vLo (setL (tqV (qC S) k) k 0 (32 - vHi (tqV (qC S) k) k 1))) (vHi (setL (tqV (qC S) k) k 0 (32 - vHi (tqV (qC S) k) k 1))) k 1)) k 1 (vLo (tqV (qC S) k) k 0)) k 1 (szG (vLo (tqV (qC S) k)) (vHi (tqV (qC S) k)) k 0)) := by rw [hσ7]; exact isZ_setSz hz6 (e := 1) (by omega) _
                refine r_iinc (nI (k + 1)) dX6_turn_121 rfl (nI_1 k) (by decide) rfl ?_
                refine r_goto 56 dX6_turn_124 (by decide) ?_
                exact ih (k + 1) _ _ _ (by omega) (tq_s hτz (by omega) σ3 σ5 σ6 σ7 hz4 hz5 hz7) (fun q hq => by rw [hσ7, up_ne hq, hσ6, up_ne hq, hσ5, up_ne hq, hσ3, up_ne hq]; exact hωf q hq) (by omega)
          exact L2 (vN (qC S) + 1) 0 τ _ _ (by omega) (isZ_c hz3 (tq_0 _)) (fun _ _ => rfl) (by omega)
        ·
          replace c33 := Int32.not_le.mp c33
          have n33 := (nI_ltI (a := k) (b := vN (qC S)) (by omega) (by omega)).mp c33
          refine r_aload_n dX6_turn_36 rfl ?_
          refine fX6_13 jX6_turn_X6 lX6_turn_37 dX6_turn_37 ?_
          refine r_iload_n dX6_turn_40 rfl ?_
          refine r_aload_n dX6_turn_41 rfl ?_
          refine fX6_8 jX6_turn_X6 lX6_turn_25 dX6_turn_42 ?_
          refine r_iload_n dX6_turn_45 rfl ?_
          refine ldM375 k rfl (by omega) dX6_turn_46 ?_
          refine stM379 k rfl (by omega) dX6_turn_47 ?_
          refine r_iinc (nI (k + 1)) dX6_turn_48 rfl (nI_1 k) (by decide) rfl ?_
          refine r_goto 26 dX6_turn_51 (by decide) ?_
          exact ih (k + 1) _ (by omega) (bf9_s hτ (by rw [hτ.2 375 (by omega)]; exact (hσ2.1 k (by omega)).1)) (by omega)
    exact L1 (vN (qC S) + 1) 0 σ2 (by omega) ⟨fun j hj => absurd hj (Nat.not_lt_zero j), fun _ _ => rfl⟩ (by omega)
  ·
    have n6 := (nI_eq (a := vN (qC S)) (b := 0) (by omega) (by omega)).mp c6
    refine r_bipush (-5) dX6_turn_9 (by decide) ?_
    exact r_iret hQ rfl dX6_turn_11 (reJ_of (okMd_of (by rw [oTurn, if_pos n6]) h (keepLw_rfl σ)))

set_option maxRecDepth 100000 in
set_option maxHeartbeats 4000000 in
theorem ctX6_set (l : Launch) (Ω : Om) (σ : Sg) (S : StV) (h : isMd σ S) (hg : gdV (qC S)) (s x : Int32) : CtW l yX6_set wsX6_set (rmD 1) Ω [.ref (ad Ω 369), .int s, .int x] σ (reJ (fun r σ1 => okMd σ (oSet S s x) r σ1)) := by
  refine ct_intro [some (.ref (ad Ω 369)), some (.int s), some (.int x), none] (by decide) rfl rfl (Nat.le_of_ble_eq_true rfl) (fun Γ hL hQ => ?_)
  show AtW mX6_set Γ Ω σ 0 [some (.ref (ad Ω 369)), some (.int s), some (.int x), none] []
  have hz := h.1
  have hn := h.1.1
  have hz0 := h.1.2.1
  have hu := hg.1
  have hru := hg.2.1
  have hl := gd_lt hg
  refine r_iload_n dX6_set_0 rfl ?_
  refine r_if_eq 6 dX6_set_1 (by decide) (fun c1 => ?_) (fun c1 => ?_)
  ·
    refine r_iload_n dX6_set_6 rfl ?_
    refine r_i2l dX6_set_7 ?_
    refine r_iconst 0 dX6_set_8 (by decide) ?_
    refine r_iconst 2 dX6_set_9 (by decide) ?_
    refine r_callSI hL (ctX6_in l Ω _ _ _ _) kX6_set_53 rfl rfl (Nat.le_of_ble_eq_true rfl) dX6_set_10 ?_
    refine r_if_ne 19 dX6_set_13 (by decide) (fun c13 => ?_) (fun c13 => ?_)
    ·
      replace c13 := bI_t c13
      rw [inL_W] at c13
      have r1 := mv_in c13
      refine r_aload_n dX6_set_19 rfl ?_
      refine fX6_0 jX6_set_X6 lX6_set_7 dX6_set_20 ?_
      refine r_iconst 3 dX6_set_23 (by decide) ?_
      refine ldM370 3 rfl (by omega) dX6_set_24 ?_
      rw [hz.2.2.2.2.1]
      refine r_iload_n dX6_set_25 rfl ?_
      refine r_icmp_ne 32 dX6_set_26 (by decide) (fun c26 => ?_) (fun c26 => ?_)
      ·
        refine r_aload_n dX6_set_32 rfl ?_
        refine r_aload_n dX6_set_33 rfl ?_
        refine fX6_0 jX6_set_X6 lX6_set_7 dX6_set_34 ?_
        refine r_callVV (369) hL (ctX6_push l Ω _ S h.2.1 h.1) kX6_set_110 (by omega) ⟨_, _, _, rfl, rfl, rfl⟩ rfl rfl (Nat.le_of_ble_eq_true rfl) dX6_set_37 ?_
        intro σ1 hσ1
        have hz1 : isZ (σ1 370) (qC S) := by rw [phI_z hσ1]; exact hz
        refine r_aload_n dX6_set_40 rfl ?_
        refine fX6_0 jX6_set_X6 lX6_set_7 dX6_set_41 ?_
        refine r_iconst 3 dX6_set_44 (by decide) ?_
        refine ldM370 3 rfl (by omega) dX6_set_45 ?_
        rw [hz1.2.2.2.2.1]
        refine r_istore_n dX6_set_46 (by decide) rfl ?_
        refine r_aload_n dX6_set_47 rfl ?_
        refine fX6_0 jX6_set_X6 lX6_set_7 dX6_set_48 ?_
        refine r_iconst 3 dX6_set_51 (by decide) ?_
        refine r_iload_n dX6_set_52 rfl ?_
        refine stM370 3 rfl (by omega) dX6_set_53 ?_
        refine r_iload_n dX6_set_54 rfl ?_
        exact r_iret hQ rfl dX6_set_55 (reJ_of (push_z h hσ1 (fun q hq => up_ne hq) (isZ_ru hz1 x) (by rw [oSet, if_neg (by simpa using c1), if_neg r1.1, if_neg r1.2, if_neg (fun q => c26 q.symm)])))
      ·
        refine r_bipush (-5) dX6_set_29 (by decide) ?_
        exact r_iret hQ rfl dX6_set_31 (reJ_of (okMd_of (by rw [oSet, if_neg (by simpa using c1), if_neg r1.1, if_neg r1.2, if_pos c26.symm]) h (keepLw_rfl σ)))
    ·
      replace c13 := bI_f c13
      rw [inL_W] at c13
      have r1 := mv_out c13
      refine r_bipush (-2) dX6_set_16 (by decide) ?_
      exact r_iret hQ rfl dX6_set_18 (reJ_of (okMd_of (by rw [oSet, if_neg (by simpa using c1)]; exact mv_o2 r1) h (keepLw_rfl σ)))
  ·
    refine r_iconst (-1) dX6_set_4 (by decide) ?_
    exact r_iret hQ rfl dX6_set_5 (reJ_of (okMd_of (by rw [oSet, if_pos c1]) h (keepLw_rfl σ)))

set_option maxRecDepth 100000 in
set_option maxHeartbeats 4000000 in
theorem ctX6_type (l : Launch) (Ω : Om) (σ : Sg) (S : StV) (h : isMd σ S) (x : Int32) : CtW l yX6_type wsX6_type (rmD 0) Ω [.ref (ad Ω 369), .int x] σ (reJ (fun r σ1 => okMd σ (oType S x) r σ1)) := by
  refine ct_intro [some (.ref (ad Ω 369)), some (.int x)] (by decide) rfl rfl (Nat.le_of_ble_eq_true rfl) (fun Γ hL hQ => ?_)
  show AtW mX6_type Γ Ω σ 0 [some (.ref (ad Ω 369)), some (.int x)] []
  have hz := h.1
  have hn := h.1.1
  have hz0 := h.1.2.1
  have hL80 := h.2.2.2.2.1
  refine r_aload_n dX6_type_0 rfl ?_
  refine fX6_7 jX6_type_X6 lX6_type_159 dX6_type_1 ?_
  rw [h.2.2.2.1]
  refine r_bipush 80 dX6_type_4 (by decide) ?_
  refine r_icmp_ne 12 dX6_type_6 (by decide) (fun c6 => ?_) (fun c6 => ?_)
  ·
    have n6 : ¬ qL S = 80 := fun q => c6 ((nI_eq (a := qL S) (b := 80) (by omega) (by omega)).mpr q)
    refine r_aload_n dX6_type_12 rfl ?_
    refine fX6_6 jX6_type_X6 lX6_type_22 dX6_type_13 ?_
    refine r_aload_n dX6_type_16 rfl ?_
    refine fX6_7 jX6_type_X6 lX6_type_159 dX6_type_17 ?_
    rw [h.2.2.2.1]
    refine r_iload_n dX6_type_20 rfl ?_
    refine stM374 (qL S) rfl (by omega) dX6_type_21 ?_
    refine r_aload_n dX6_type_22 rfl ?_
    refine r_dup dX6_type_23 rfl ?_
    refine fX6_7 jX6_type_X6 lX6_type_159 dX6_type_24 ?_
    rw [up_ne (show (369 : Nat) ≠ 374 by omega), h.2.2.2.1]
    refine r_iconst 1 dX6_type_27 (by decide) ?_
    refine r_iadd dX6_type_28 ?_
    rw [nI_1]
    refine pX6_7 jX6_type_X6 lX6_type_159 dX6_type_29 ?_
    refine r_aload_n dX6_type_32 rfl ?_
    refine fX6_7 jX6_type_X6 lX6_type_159 dX6_type_33 ?_
    rw [up_get, if_pos ⟨rfl, rfl⟩]
    exact r_iret hQ rfl dX6_type_36 (reJ_of (type_md h (by omega)))
  ·
    have n6 := (nI_eq (a := qL S) (b := 80) (by omega) (by omega)).mp c6
    refine r_bipush (-3) dX6_type_9 (by decide) ?_
    exact r_iret hQ rfl dX6_type_11 (reJ_of (okMd_of (by rw [oType, if_neg (by omega)]) h (keepLw_rfl σ)))

set_option maxRecDepth 100000 in
set_option maxHeartbeats 4000000 in
theorem ctX6_clearText (l : Launch) (Ω : Om) (σ : Sg) (S : StV) (h : isMd σ S) : CtW l yX6_clearText wsX6_clearText (rmD 0) Ω [.ref (ad Ω 369)] σ (reJ (fun r σ1 => okMd σ (oClear S) r σ1)) := by
  refine ct_intro [some (.ref (ad Ω 369)), none] (by decide) rfl rfl (Nat.le_of_ble_eq_true rfl) (fun Γ hL hQ => ?_)
  show AtW mX6_clearText Γ Ω σ 0 [some (.ref (ad Ω 369)), none] []
  have hz := h.1
  have hn := h.1.1
  have hz0 := h.1.2.1
  refine r_aload_n dX6_clearText_0 rfl ?_
  refine fX6_7 jX6_clearText_X6 lX6_clearText_159 dX6_clearText_1 ?_
  rw [h.2.2.2.1]
  refine r_istore_n dX6_clearText_4 (by decide) rfl ?_
  refine r_aload_n dX6_clearText_5 rfl ?_
  refine r_iconst 0 dX6_clearText_6 (by decide) ?_
  refine pX6_7 jX6_clearText_X6 lX6_clearText_159 dX6_clearText_7 ?_
  refine r_iload_n dX6_clearText_10 rfl ?_
  exact r_iret hQ rfl dX6_clearText_11 (reJ_of (clear_md h))

set_option maxRecDepth 100000 in
set_option maxHeartbeats 4000000 in
theorem ctX6_box (l : Launch) (Ω : Om) (σ : Sg) (S : StV) (h : isMd σ S) (y : Int32) : CtW l yX6_box wsX6_box (rmD 1) Ω [.ref (ad Ω 369), .int y] σ (reJ (fun r σ1 => okMd σ (oBox S y) r σ1)) := by
  refine ct_intro [some (.ref (ad Ω 369)), some (.int y)] (by decide) rfl rfl (Nat.le_of_ble_eq_true rfl) (fun Γ hL hQ => ?_)
  show AtW mX6_box Γ Ω σ 0 [some (.ref (ad Ω 369)), some (.int y)] []
  have hz := h.1
  have hn := h.1.1
  have hz0 := h.1.2.1
  refine r_iload_n dX6_box_0 rfl ?_
  refine r_if_ge 7 dX6_box_1 (by decide) (fun c1 => ?_) (fun c1 => ?_)
  ·
    replace c1 := Int32.not_lt.mpr c1
    refine r_iload_n dX6_box_7 rfl ?_
    refine r_aload_n dX6_box_8 rfl ?_
    refine fX6_0 jX6_box_X6 lX6_box_7 dX6_box_9 ?_
    refine r_iconst 0 dX6_box_12 (by decide) ?_
    refine ldM370 0 rfl (by omega) dX6_box_13 ?_
    rw [hz0]
    refine r_icmp_ge 26 dX6_box_14 (by decide) (fun c14 => ?_) (fun c14 => ?_)
    ·
      replace c14 := Int32.not_lt.mpr c14
      refine r_bipush (-5) dX6_box_26 (by decide) ?_
      exact r_iret hQ rfl dX6_box_28 (reJ_of (okMd_of (by rw [oBox, if_neg c1, if_neg c14]) h (keepLw_rfl σ)))
    ·
      replace c14 := Int32.not_le.mp c14
      obtain ⟨j, hj, rfl⟩ := slot_ix c1 c14 (by omega)
      refine r_aload_n dX6_box_17 rfl ?_
      refine r_iload_n dX6_box_18 rfl ?_
      refine r_iconst 0 dX6_box_19 (by decide) ?_
      refine r_callVI (369) hL (ctX6_of l Ω _ j 0 (by omega) (by omega)) kX6_box_43 (by omega) ⟨_, _, _, rfl, rfl, rfl⟩ rfl rfl (Nat.le_of_ble_eq_true rfl) dX6_box_20 ?_
      refine r_goto 28 dX6_box_23 (by decide) ?_
      exact r_iret hQ rfl dX6_box_28 (reJ_of (okMd_of (by rw [oBox, if_neg c1, if_pos c14, nI_clamp (by omega), hz.2.2.2.2.2.1 j hj]) h (keepLw_rfl σ)))
  ·
    replace c1 := Int32.not_le.mp c1
    refine r_bipush (-2) dX6_box_4 (by decide) ?_
    exact r_iret hQ rfl dX6_box_6 (reJ_of (okMd_of (by rw [oBox, if_pos c1]) h (keepLw_rfl σ)))

set_option maxRecDepth 100000 in
set_option maxHeartbeats 4000000 in
theorem ctX6_end (l : Launch) (Ω : Om) (σ : Sg) (S : StV) (h : isMd σ S) (hg : gdV (qC S)) (y d x : Int32) : CtW l yX6_end wsX6_end (rmD 3) Ω [.ref (ad Ω 369), .int y, .int d, .int x] σ (reJ (fun r σ1 => okMd σ (oEnd S y d x) r σ1)) := by
  refine ct_intro [some (.ref (ad Ω 369)), some (.int y), some (.int d), some (.int x), none] (by decide) rfl rfl (Nat.le_of_ble_eq_true rfl) (fun Γ hL hQ => ?_)
  show AtW mX6_end Γ Ω σ 0 [some (.ref (ad Ω 369)), some (.int y), some (.int d), some (.int x), none] []
  have hz := h.1
  have hn := h.1.1
  have hz0 := h.1.2.1
  have hu := hg.1
  have hru := hg.2.1
  have hl := gd_lt hg
  refine r_aload_n dX6_end_0 rfl ?_
  refine r_iload_n dX6_end_1 rfl ?_
  refine r_callVI (369) hL (ctX6_rankOf l Ω _ (qC S) hz hu _) kX6_end_125 (by omega) ⟨_, _, _, rfl, rfl, rfl⟩ rfl rfl (Nat.le_of_ble_eq_true rfl) dX6_end_2 ?_
  refine r_istore dX6_end_5 (by decide) rfl ?_
  refine r_iload dX6_end_7 rfl ?_
  refine r_if_lt 19 dX6_end_9 (by decide) (fun c9 => ?_) (fun c9 => ?_)
  ·
    refine r_iconst (-1) dX6_end_19 (by decide) ?_
    exact r_iret hQ rfl dX6_end_20 (reJ_of (okMd_of (oEnd_no (Or.inl (loc_none hn (fI_neg hn c9)))) h (keepLw_rfl σ)))
  ·
    obtain ⟨k, hk, ek, e0⟩ := loc_some (fun q => c9 (by rw [q]; decide))
    rw [e0]
    refine r_iload_n dX6_end_12 rfl ?_
    refine r_callSI hL (ctX6_isDirection l Ω _ _) kX6_end_128 rfl rfl (Nat.le_of_ble_eq_true rfl) dX6_end_13 ?_
    refine r_if_ne 21 dX6_end_16 (by decide) (fun c16 => ?_) (fun c16 => ?_)
    ·
      replace c16 := bI_t c16
      obtain ⟨e, he, rfl⟩ := dir_ix c16
      have ec : (nI e).toNatClampNeg = e := nI_clamp (by omega)
      refine r_iload_n dX6_end_21 rfl ?_
      refine r_if_eq 35 dX6_end_22 (by decide) (fun c22 => ?_) (fun c22 => ?_)
      ·
        refine r_aload_n dX6_end_35 rfl ?_
        refine r_iload dX6_end_36 rfl ?_
        refine r_iload_n dX6_end_38 rfl ?_
        refine r_callVI (369) hL (ctX6_low l Ω _ (qC S) hz k (by omega) e (by omega)) kX6_end_47 (by omega) ⟨_, _, _, rfl, rfl, rfl⟩ rfl rfl (Nat.le_of_ble_eq_true rfl) dX6_end_39 ?_
        exact r_iret hQ rfl dX6_end_42 (reJ_of (okMd_of (by rw [oEnd_at ek c16, ec, if_pos c22]) h (keepLw_rfl σ)))
      ·
        refine r_aload_n dX6_end_25 rfl ?_
        refine r_iload dX6_end_26 rfl ?_
        refine r_iload_n dX6_end_28 rfl ?_
        refine r_callVI (369) hL (ctX6_high l Ω _ (qC S) hz k (by omega) e (by omega)) kX6_end_57 (by omega) ⟨_, _, _, rfl, rfl, rfl⟩ rfl rfl (Nat.le_of_ble_eq_true rfl) dX6_end_29 ?_
        refine r_goto 42 dX6_end_32 (by decide) ?_
        exact r_iret hQ rfl dX6_end_42 (reJ_of (okMd_of (by rw [oEnd_at ek c16, ec, if_neg c22]) h (keepLw_rfl σ)))
    ·
      replace c16 := bI_f c16
      refine r_iconst (-1) dX6_end_19 (by decide) ?_
      exact r_iret hQ rfl dX6_end_20 (reJ_of (okMd_of (oEnd_no (Or.inr c16)) h (keepLw_rfl σ)))
