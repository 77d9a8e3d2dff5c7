set_option maxRecDepth 100000 in
set_option maxHeartbeats 4000000 in
theorem ctX6_findLayers (l : Launch) (Ω : Om) (σ : Sg) (v : SpV) (hz : isZ (σ 370) v) (hh : ∀ k, k < vN v → σ 375 k = HV v k) (hc : ∀ k, k < vN v → σ 376 k = CVv v k) : CtW l yX6_findLayers wsX6_findLayers (rmD 3) Ω [.ref (ad Ω 369)] σ (reV (fun σ1 => lyI v σ σ1)) := by
  refine ct_intro [some (.ref (ad Ω 369)), none, none, none, none] (by decide) rfl rfl (Nat.le_of_ble_eq_true rfl) (fun Γ hL hQ => ?_)
  show AtW mX6_findLayers Γ Ω σ 0 [some (.ref (ad Ω 369)), none, none, none, none] []
  have hn := hz.1
  have hz0 := hz.2.1
  refine r_aload_n dX6_findLayers_0 rfl ?_
  refine r_callVI (369) hL (ctX6_ringBoxes l Ω _ v hz hc) kX6_findLayers_89 (by omega) ⟨_, _, _, rfl, rfl, rfl⟩ rfl rfl (Nat.le_of_ble_eq_true rfl) dX6_findLayers_1 ?_
  refine r_istore_n dX6_findLayers_4 (by decide) rfl ?_
  refine r_iconst 0 dX6_findLayers_5 (by decide) ?_
  refine r_istore_n dX6_findLayers_6 (by decide) rfl ?_
  have L1 : ∀ (N : Nat) (k : Nat) (τ : Sg) (v3 v4 : Option Value), k ≤ vN v → ly7h v σ k τ → vN v < k + N → AtW mX6_findLayers Γ Ω τ 7 [some (.ref (ad Ω 369)), some (.int (rgI v)), some (.int (nI k)), v3, v4] [] := by
    intro N
    induction N with
    | zero =>
      intro k τ v3 v4 hk hτ hN
      exact absurd hN (by omega)
    | succ N ih =>
      intro k τ v3 v4 hk hτ hN
      have hzτ : isZ (τ 370) v := by rw [hτ.2 370 (by omega)]; exact hz
      have hz0τ := hzτ.2.1
      refine r_iload_n dX6_findLayers_7 rfl ?_
      refine r_aload_n dX6_findLayers_8 rfl ?_
      refine fX6_0 jX6_findLayers_X6 lX6_findLayers_7 dX6_findLayers_9 ?_
      refine r_iconst 0 dX6_findLayers_12 (by decide) ?_
      refine ldM370 0 rfl (by omega) dX6_findLayers_13 ?_
      rw [hz0τ]
      refine r_icmp_ge 54 dX6_findLayers_14 (by decide) (fun c14 => ?_) (fun c14 => ?_)
      ·
        replace c14 := Int32.not_lt.mpr c14
        have n14 := Nat.not_lt.mp (fun q => c14 ((nI_ltI (a := k) (b := vN v) (by omega) (by omega)).mpr q))
        refine r_iconst 0 dX6_findLayers_54 (by decide) ?_
        refine r_istore_n dX6_findLayers_55 (by decide) rfl ?_
        have L2 : ∀ (N : Nat) (r : Nat) (τ : Sg) (v3 v4 : Option Value), r ≤ vN v → ly7 v σ (lyR v r) τ → vN v < r + N → AtW mX6_findLayers Γ Ω τ 56 [some (.ref (ad Ω 369)), some (.int (rgI v)), some (.int (nI r)), v3, v4] [] := by
          intro N
          induction N with
          | zero =>
            intro r τ v3 v4 hr hτ hN
            exact absurd hN (by omega)
          | succ N ih =>
            intro r τ v3 v4 hr hτ hN
            have ihA := ih
            have hzτ : isZ (τ 370) v := by rw [hτ.2 370 (by omega)]; exact hz
            have hz0τ := hzτ.2.1
            refine r_iload_n dX6_findLayers_56 rfl ?_
            refine r_aload_n dX6_findLayers_57 rfl ?_
            refine fX6_0 jX6_findLayers_X6 lX6_findLayers_7 dX6_findLayers_58 ?_
            refine r_iconst 0 dX6_findLayers_61 (by decide) ?_
            refine ldM370 0 rfl (by omega) dX6_findLayers_62 ?_
            rw [hz0τ]
            refine r_icmp_ge 173 dX6_findLayers_63 (by decide) (fun c63 => ?_) (fun c63 => ?_)
            ·
              replace c63 := Int32.not_lt.mpr c63
              have n63 := Nat.not_lt.mp (fun q => c63 ((nI_ltI (a := r) (b := vN v) (by omega) (by omega)).mpr q))
              have er : vN v = r := by omega
              subst er
              exact r_vret hQ rfl dX6_findLayers_173 (reV_of hτ)
            ·
              replace c63 := Int32.not_le.mp c63
              have n63 := (nI_ltI (a := r) (b := vN v) (by omega) (by omega)).mp c63
              refine r_iconst 0 dX6_findLayers_66 (by decide) ?_
              refine r_istore_n dX6_findLayers_67 (by decide) rfl ?_
              have L3 : ∀ (N : Nat) (k : Nat) (ω : Sg) (v4 : Option Value), k ≤ vN v → ly7 v σ (lyK v (lyR v r) k) ω → vN v < k + N → AtW mX6_findLayers Γ Ω ω 68 [some (.ref (ad Ω 369)), some (.int (rgI v)), some (.int (nI r)), some (.int (nI k)), v4] [] := by
                intro N
                induction N with
                | zero =>
                  intro k ω v4 hk hω hN
                  exact absurd hN (by omega)
                | succ N ih =>
                  intro k ω v4 hk hω hN
                  have ihB := ih
                  have hzω : isZ (ω 370) v := by rw [hω.2 370 (by omega)]; exact hz
                  have hz0ω := hzω.2.1
                  refine r_iload_n dX6_findLayers_68 rfl ?_
                  refine r_aload_n dX6_findLayers_69 rfl ?_
                  refine fX6_0 jX6_findLayers_X6 lX6_findLayers_7 dX6_findLayers_70 ?_
                  refine r_iconst 0 dX6_findLayers_73 (by decide) ?_
                  refine ldM370 0 rfl (by omega) dX6_findLayers_74 ?_
                  rw [hz0ω]
                  refine r_icmp_ge 167 dX6_findLayers_75 (by decide) (fun c75 => ?_) (fun c75 => ?_)
                  ·
                    replace c75 := Int32.not_lt.mpr c75
                    have n75 := Nat.not_lt.mp (fun q => c75 ((nI_ltI (a := k) (b := vN v) (by omega) (by omega)).mpr q))
                    have ek2 : vN v = k := by omega
                    subst ek2
                    refine r_iinc (nI (r + 1)) dX6_findLayers_167 rfl (nI_1 r) (by decide) rfl ?_
                    refine r_goto 56 dX6_findLayers_170 (by decide) ?_
                    exact ihA (r + 1) _ _ _ (by omega) hω (by omega)
                  ·
                    replace c75 := Int32.not_le.mp c75
                    have n75 := (nI_ltI (a := k) (b := vN v) (by omega) (by omega)).mp c75
                    refine r_iconst 0 dX6_findLayers_78 (by decide) ?_
                    refine r_istore dX6_findLayers_79 (by decide) rfl ?_
                    have L4 : ∀ (N : Nat) (j : Nat) (υ : Sg), j ≤ vN v → ly7 v σ (lyJ v (lyK v (lyR v r) k) k j) υ → vN v < j + N → AtW mX6_findLayers Γ Ω υ 81 [some (.ref (ad Ω 369)), some (.int (rgI v)), some (.int (nI r)), some (.int (nI k)), some (.int (nI j))] [] := by
                      intro N
                      induction N with
                      | zero =>
                        intro j υ hj hυ hN
                        exact absurd hN (by omega)
                      | succ N ih =>
                        intro j υ hj hυ hN
                        have hzυ : isZ (υ 370) v := by rw [hυ.2 370 (by omega)]; exact hz
                        have hz0υ := hzυ.2.1
                        refine r_iload dX6_findLayers_81 rfl ?_
                        refine r_aload_n dX6_findLayers_83 rfl ?_
                        refine fX6_0 jX6_findLayers_X6 lX6_findLayers_7 dX6_findLayers_84 ?_
                        refine r_iconst 0 dX6_findLayers_87 (by decide) ?_
                        refine ldM370 0 rfl (by omega) dX6_findLayers_88 ?_
                        rw [hz0υ]
                        refine r_icmp_ge 161 dX6_findLayers_89 (by decide) (fun c89 => ?_) (fun c89 => ?_)
                        ·
                          replace c89 := Int32.not_lt.mpr c89
                          have n89 := Nat.not_lt.mp (fun q => c89 ((nI_ltI (a := j) (b := vN v) (by omega) (by omega)).mpr q))
                          have ej : vN v = j := by omega
                          subst ej
                          refine r_iinc (nI (k + 1)) dX6_findLayers_161 rfl (nI_1 k) (by decide) rfl ?_
                          refine r_goto 68 dX6_findLayers_164 (by decide) ?_
                          exact ihB (k + 1) _ _ (by omega) hυ (by omega)
                        ·
                          replace c89 := Int32.not_le.mp c89
                          have n89 := (nI_ltI (a := j) (b := vN v) (by omega) (by omega)).mp c89
                          refine r_aload_n dX6_findLayers_92 rfl ?_
                          refine fX6_10 jX6_findLayers_X6 lX6_findLayers_31 dX6_findLayers_93 ?_
                          refine r_iload_n dX6_findLayers_96 rfl ?_
                          refine r_aload_n dX6_findLayers_97 rfl ?_
                          refine fX6_10 jX6_findLayers_X6 lX6_findLayers_31 dX6_findLayers_98 ?_
                          refine r_iload_n dX6_findLayers_101 rfl ?_
                          refine ldM377 k rfl (by omega) dX6_findLayers_102 ?_
                          rw [hυ.1 k (by omega)]
                          refine r_if_lt 148 dX6_findLayers_103 (by decide) (fun c103 => ?_) (fun c103 => ?_)
                          ·
                            refine r_aload_n dX6_findLayers_148 rfl ?_
                            refine fX6_10 jX6_findLayers_X6 lX6_findLayers_31 dX6_findLayers_149 ?_
                            refine r_iload_n dX6_findLayers_152 rfl ?_
                            refine ldM377 k rfl (by omega) dX6_findLayers_153 ?_
                            rw [hυ.1 k (by omega)]
                            refine stM377 k rfl (by omega) dX6_findLayers_154 ?_
                            refine r_iinc (nI (j + 1)) dX6_findLayers_155 rfl (nI_1 j) (by decide) rfl ?_
                            refine r_goto 81 dX6_findLayers_158 (by decide) ?_
                            exact ih (j + 1) _ (by omega) (ly7_s hυ (by rw [if_pos c103])) (by omega)
                          ·
                            refine r_aload_n dX6_findLayers_106 rfl ?_
                            refine fX6_8 jX6_findLayers_X6 lX6_findLayers_25 dX6_findLayers_107 ?_
                            refine r_iload_n dX6_findLayers_110 rfl ?_
                            refine ldM375 k rfl (by omega) dX6_findLayers_111 ?_
                            rw [hυ.2 375 (by omega), hh k (by omega)]
                            refine r_iload dX6_findLayers_112 rfl ?_
                            refine r_callSI hL (ctX6_has l Ω _ _ j) kX6_findLayers_75 rfl rfl (Nat.le_of_ble_eq_true rfl) dX6_findLayers_114 ?_
                            refine r_if_eq 148 dX6_findLayers_117 (by decide) (fun c117 => ?_) (fun c117 => ?_)
                            ·
                              replace c117 := bI_f c117
                              refine r_aload_n dX6_findLayers_148 rfl ?_
                              refine fX6_10 jX6_findLayers_X6 lX6_findLayers_31 dX6_findLayers_149 ?_
                              refine r_iload_n dX6_findLayers_152 rfl ?_
                              refine ldM377 k rfl (by omega) dX6_findLayers_153 ?_
                              rw [hυ.1 k (by omega)]
                              refine stM377 k rfl (by omega) dX6_findLayers_154 ?_
                              refine r_iinc (nI (j + 1)) dX6_findLayers_155 rfl (nI_1 j) (by decide) rfl ?_
                              refine r_goto 81 dX6_findLayers_158 (by decide) ?_
                              exact ih (j + 1) _ (by omega) (ly7_s hυ (by rw [if_neg c103, if_neg (by simp [c117])])) (by omega)
                            ·
                              replace c117 := bI_t c117
                              refine r_aload_n dX6_findLayers_120 rfl ?_
                              refine fX6_10 jX6_findLayers_X6 lX6_findLayers_31 dX6_findLayers_121 ?_
                              refine r_iload dX6_findLayers_124 rfl ?_
                              refine ldM377 j rfl (by omega) dX6_findLayers_126 ?_
                              rw [hυ.1 j (by omega)]
                              refine r_aload_n dX6_findLayers_127 rfl ?_
                              refine fX6_10 jX6_findLayers_X6 lX6_findLayers_31 dX6_findLayers_128 ?_
                              refine r_iload_n dX6_findLayers_131 rfl ?_
                              refine ldM377 k rfl (by omega) dX6_findLayers_132 ?_
                              rw [hυ.1 k (by omega)]
                              refine r_icmp_lt 148 dX6_findLayers_133 (by decide) (fun c133 => ?_) (fun c133 => ?_)
                              ·
                                refine r_aload_n dX6_findLayers_148 rfl ?_
                                refine fX6_10 jX6_findLayers_X6 lX6_findLayers_31 dX6_findLayers_149 ?_
                                refine r_iload_n dX6_findLayers_152 rfl ?_
                                refine ldM377 k rfl (by omega) dX6_findLayers_153 ?_
                                rw [hυ.1 k (by omega)]
                                refine stM377 k rfl (by omega) dX6_findLayers_154 ?_
                                refine r_iinc (nI (j + 1)) dX6_findLayers_155 rfl (nI_1 j) (by decide) rfl ?_
                                refine r_goto 81 dX6_findLayers_158 (by decide) ?_
                                exact ih (j + 1) _ (by omega) (ly7_s hυ (by rw [if_neg c103, if_pos c117, if_pos c133])) (by omega)
                              ·
                                refine r_aload_n dX6_findLayers_136 rfl ?_
                                refine fX6_10 jX6_findLayers_X6 lX6_findLayers_31 dX6_findLayers_137 ?_
                                refine r_iload dX6_findLayers_140 rfl ?_
                                refine ldM377 j rfl (by omega) dX6_findLayers_142 ?_
                                rw [hυ.1 j (by omega)]
                                refine r_iconst 1 dX6_findLayers_143 (by decide) ?_
                                refine r_iadd dX6_findLayers_144 ?_
                                refine r_goto 154 dX6_findLayers_145 (by decide) ?_
                                refine stM377 k rfl (by omega) dX6_findLayers_154 ?_
                                refine r_iinc (nI (j + 1)) dX6_findLayers_155 rfl (nI_1 j) (by decide) rfl ?_
                                refine r_goto 81 dX6_findLayers_158 (by decide) ?_
                                exact ih (j + 1) _ (by omega) (ly7_s hυ (by rw [if_neg c103, if_pos c117, if_neg c133])) (by omega)
                    exact L4 (vN v + 1) 0 ω (by omega) hω (by omega)
              exact L3 (vN v + 1) 0 τ _ (by omega) hτ (by omega)
        have ek : vN v = k := by omega
        subst ek
        exact L2 (vN v + 1) 0 τ _ _ (by omega) hτ (by omega)
      ·
        replace c14 := Int32.not_le.mp c14
        have n14 := (nI_ltI (a := k) (b := vN v) (by omega) (by omega)).mp c14
        refine r_aload_n dX6_findLayers_17 rfl ?_
        refine fX6_10 jX6_findLayers_X6 lX6_findLayers_31 dX6_findLayers_18 ?_
        refine r_iload_n dX6_findLayers_21 rfl ?_
        refine r_iload_n dX6_findLayers_22 rfl ?_
        refine r_iload_n dX6_findLayers_23 rfl ?_
        refine r_callSI hL (ctX6_has l Ω _ _ k) kX6_findLayers_75 rfl rfl (Nat.le_of_ble_eq_true rfl) dX6_findLayers_24 ?_
        refine r_if_ne 41 dX6_findLayers_27 (by decide) (fun c27 => ?_) (fun c27 => ?_)
        ·
          replace c27 := bI_t c27
          refine r_bipush (-5) dX6_findLayers_41 (by decide) ?_
          refine r_goto 47 dX6_findLayers_43 (by decide) ?_
          refine stM377 k rfl (by omega) dX6_findLayers_47 ?_
          refine r_iinc (nI (k + 1)) dX6_findLayers_48 rfl (nI_1 k) (by decide) rfl ?_
          refine r_goto 7 dX6_findLayers_51 (by decide) ?_
          exact ih (k + 1) _ _ _ (by omega) (ly7h_s hτ (by rw [ly0, if_pos c27])) (by omega)
        ·
          replace c27 := bI_f c27
          refine r_aload_n dX6_findLayers_30 rfl ?_
          refine fX6_9 jX6_findLayers_X6 lX6_findLayers_28 dX6_findLayers_31 ?_
          refine r_iload_n dX6_findLayers_34 rfl ?_
          refine ldM376 k rfl (by omega) dX6_findLayers_35 ?_
          rw [hτ.2 376 (by omega), hc k (by omega)]
          refine r_iload_n dX6_findLayers_36 rfl ?_
          refine r_iand dX6_findLayers_37 ?_
          refine r_if_eq 46 dX6_findLayers_38 (by decide) (fun c38 => ?_) (fun c38 => ?_)
          ·
            refine r_iconst 0 dX6_findLayers_46 (by decide) ?_
            refine stM377 k rfl (by omega) dX6_findLayers_47 ?_
            refine r_iinc (nI (k + 1)) dX6_findLayers_48 rfl (nI_1 k) (by decide) rfl ?_
            refine r_goto 7 dX6_findLayers_51 (by decide) ?_
            exact ih (k + 1) _ _ _ (by omega) (ly7h_s hτ (by rw [ly0, if_neg (by simp [c27]), if_pos c38])) (by omega)
          ·
            refine r_bipush (-5) dX6_findLayers_41 (by decide) ?_
            refine r_goto 47 dX6_findLayers_43 (by decide) ?_
            refine stM377 k rfl (by omega) dX6_findLayers_47 ?_
            refine r_iinc (nI (k + 1)) dX6_findLayers_48 rfl (nI_1 k) (by decide) rfl ?_
            refine r_goto 7 dX6_findLayers_51 (by decide) ?_
            exact ih (k + 1) _ _ _ (by omega) (ly7h_s hτ (by rw [ly0, if_neg (by simp [c27]), if_neg c38])) (by omega)
  exact L1 (vN v + 1) 0 σ _ _ (by omega) ⟨fun k hk => absurd hk (Nat.not_lt_zero k), fun _ _ => rfl⟩ (by omega)

set_option maxRecDepth 100000 in
set_option maxHeartbeats 4000000 in
theorem ctX6_weight (l : Launch) (Ω : Om) (σ : Sg) (v : SpV) (hz : isZ (σ 370) v) (k : Nat) (hk : k < vN v) (hru : ru3 v) : CtW l yX6_weight wsX6_weight (rmD 3) Ω [.ref (ad Ω 369), .int (nI k)] σ (roI (WVv v k) σ) := by
  refine ct_intro [some (.ref (ad Ω 369)), some (.int (nI k))] (by decide) rfl rfl (Nat.le_of_ble_eq_true rfl) (fun Γ hL hQ => ?_)
  show AtW mX6_weight Γ Ω σ 0 [some (.ref (ad Ω 369)), some (.int (nI k))] []
  have hn := hz.1
  have hz0 := hz.2.1
  refine r_aload_n dX6_weight_0 rfl ?_
  refine fX6_0 jX6_weight_X6 lX6_weight_7 dX6_weight_1 ?_
  refine r_iconst 3 dX6_weight_4 (by decide) ?_
  refine ldM370 3 rfl (by omega) dX6_weight_5 ?_
  rw [hz.2.2.2.2.1]
  refine r_if_ne 13 dX6_weight_6 (by decide) (fun c6 => ?_) (fun c6 => ?_)
  ·
    refine r_aload_n dX6_weight_13 rfl ?_
    refine fX6_0 jX6_weight_X6 lX6_weight_7 dX6_weight_14 ?_
    refine r_iconst 3 dX6_weight_17 (by decide) ?_
    refine ldM370 3 rfl (by omega) dX6_weight_18 ?_
    rw [hz.2.2.2.2.1]
    refine r_iconst 1 dX6_weight_19 (by decide) ?_
    refine r_icmp_ne 46 dX6_weight_20 (by decide) (fun c20 => ?_) (fun c20 => ?_)
    ·
      refine r_aload_n dX6_weight_46 rfl ?_
      refine r_iload_n dX6_weight_47 rfl ?_
      refine r_callVI (369) hL (ctX6_volume l Ω _ v hz k (by omega)) kX6_weight_93 (by omega) ⟨_, _, _, rfl, rfl, rfl⟩ rfl rfl (Nat.le_of_ble_eq_true rfl) dX6_weight_48 ?_
      exact r_iret hQ rfl dX6_weight_51 (roI_of (by rw [WVv, wtG, if_neg c20, if_pos (by rcases hru with q | q | q; exact absurd q c6; exact absurd q c20; exact q)]))
    ·
      refine r_aload_n dX6_weight_23 rfl ?_
      refine r_iload_n dX6_weight_24 rfl ?_
      refine r_iconst 0 dX6_weight_25 (by decide) ?_
      refine r_callVI (369) hL (ctX6_low l Ω _ v hz k (by omega) 0 (by omega)) kX6_weight_47 (by omega) ⟨_, _, _, rfl, rfl, rfl⟩ rfl rfl (Nat.le_of_ble_eq_true rfl) dX6_weight_26 ?_
      refine r_aload_n dX6_weight_29 rfl ?_
      refine r_iload_n dX6_weight_30 rfl ?_
      refine r_iconst 1 dX6_weight_31 (by decide) ?_
      refine r_callVI (369) hL (ctX6_low l Ω _ v hz k (by omega) 1 (by omega)) kX6_weight_47 (by omega) ⟨_, _, _, rfl, rfl, rfl⟩ rfl rfl (Nat.le_of_ble_eq_true rfl) dX6_weight_32 ?_
      refine r_iadd dX6_weight_35 ?_
      refine r_aload_n dX6_weight_36 rfl ?_
      refine r_iload_n dX6_weight_37 rfl ?_
      refine r_iconst 2 dX6_weight_38 (by decide) ?_
      refine r_callVI (369) hL (ctX6_low l Ω _ v hz k (by omega) 2 (by omega)) kX6_weight_47 (by omega) ⟨_, _, _, rfl, rfl, rfl⟩ rfl rfl (Nat.le_of_ble_eq_true rfl) dX6_weight_39 ?_
      refine r_iadd dX6_weight_42 ?_
      refine r_goto 51 dX6_weight_43 (by decide) ?_
      exact r_iret hQ rfl dX6_weight_51 (roI_of (by rw [WVv, wtG, if_pos c20]))
  ·
    refine r_iconst 0 dX6_weight_9 (by decide) ?_
    refine r_goto 51 dX6_weight_10 (by decide) ?_
    exact r_iret hQ rfl dX6_weight_51 (roI_of (by rw [WVv, wtG, c6, if_neg (by decide), if_neg (by decide)]))

set_option maxRecDepth 100000 in
set_option maxHeartbeats 4000000 in
theorem ctX6_drawAll (l : Launch) (Ω : Om) (σ : Sg) (v : SpV) (hz : isZ (σ 370) v) (hh : ∀ k, k < vN v → σ 375 k = HV v k) (hru : ru3 v) (m : Int32) : CtW l yX6_drawAll wsX6_drawAll (rmD 4) Ω [.ref (ad Ω 369), .int m] σ (reV (fun σ1 => daI v (lf0 v m) σ σ1)) := by
  refine ct_intro [some (.ref (ad Ω 369)), some (.int m), none, none, none, none] (by decide) rfl rfl (Nat.le_of_ble_eq_true rfl) (fun Γ hL hQ => ?_)
  show AtW mX6_drawAll Γ Ω σ 0 [some (.ref (ad Ω 369)), some (.int m), none, none, none, none] []
  have hn := hz.1
  have hz0 := hz.2.1
  refine r_iconst 1 dX6_drawAll_0 (by decide) ?_
  refine r_aload_n dX6_drawAll_1 rfl ?_
  refine fX6_0 jX6_drawAll_X6 lX6_drawAll_7 dX6_drawAll_2 ?_
  refine r_iconst 0 dX6_drawAll_5 (by decide) ?_
  refine ldM370 0 rfl (by omega) dX6_drawAll_6 ?_
  rw [hz0]
  refine r_ishl dX6_drawAll_7 ?_
  refine r_iconst 1 dX6_drawAll_8 (by decide) ?_
  refine r_isub dX6_drawAll_9 ?_
  refine r_iload_n dX6_drawAll_10 rfl ?_
  refine r_iconst (-1) dX6_drawAll_11 (by decide) ?_
  refine r_ixor dX6_drawAll_12 ?_
  refine r_iand dX6_drawAll_13 ?_
  refine r_istore_n dX6_drawAll_14 (by decide) rfl ?_
  refine r_aload_n dX6_drawAll_15 rfl ?_
  refine r_iconst 0 dX6_drawAll_16 (by decide) ?_
  refine pX6_12 jX6_drawAll_X6 lX6_drawAll_96 dX6_drawAll_17 ?_
  refine r_iconst 0 dX6_drawAll_20 (by decide) ?_
  refine r_istore_n dX6_drawAll_21 (by decide) rfl ?_
  refine r_iload_n dX6_drawAll_22 rfl ?_
  refine r_if_lt 141 dX6_drawAll_23 (by decide) (fun c23 => absurd c23 (by decide)) (fun c23 => ?_)
  have L1 : ∀ (N : Nat) (j : Nat) (lf : Int32) (τ : Sg) (v3 v4 v5 : Option Value), j ≤ vN v → lf = lfS v (lf0 v m) j → daJ v (lf0 v m) σ τ j → vN v < j + N → AtW mX6_drawAll Γ Ω τ 26 [some (.ref (ad Ω 369)), some (.int m), some (.int lf), v3, v4, v5] [] := by
    intro N
    induction N with
    | zero =>
      intro j lf τ v3 v4 v5 hj elf hτ hN
      exact absurd hN (by omega)
    | succ N ih =>
      intro j lf τ v3 v4 v5 hj elf hτ hN
      have ihA := ih
      have hzτ : isZ (τ 370) v := by rw [hτ.2.2.1 370 (by omega) (by omega)]; exact hz
      have hz0τ := hzτ.2.1
      have ht12 := hτ.1
      refine r_iconst (-1) dX6_drawAll_26 (by decide) ?_
      refine r_istore_n dX6_drawAll_27 (by decide) rfl ?_
      refine r_iconst 0 dX6_drawAll_28 (by decide) ?_
      refine r_istore dX6_drawAll_29 (by decide) rfl ?_
      have L2 : ∀ (N : Nat) (k : Nat) (x : Int32) (v5 : Option Value), k ≤ vN v → x = oI (bestO (fun k => hasB lf k && decide (HV v k &&& lf = 0)) (fun k b => decide (WVv v k < WVv v b)) k) → vN v < k + N → AtW mX6_drawAll Γ Ω τ 31 [some (.ref (ad Ω 369)), some (.int m), some (.int lf), some (.int x), some (.int (nI k)), v5] [] := by
        intro N
        induction N with
        | zero =>
          intro k x v5 hk hx hN
          exact absurd hN (by omega)
        | succ N ih =>
          intro k x v5 hk hx hN
          refine r_iload dX6_drawAll_31 rfl ?_
          refine r_aload_n dX6_drawAll_33 rfl ?_
          refine fX6_0 jX6_drawAll_X6 lX6_drawAll_7 dX6_drawAll_34 ?_
          refine r_iconst 0 dX6_drawAll_37 (by decide) ?_
          refine ldM370 0 rfl (by omega) dX6_drawAll_38 ?_
          rw [hz0τ]
          refine r_icmp_ge 106 dX6_drawAll_39 (by decide) (fun c39 => ?_) (fun c39 => ?_)
          ·
            replace c39 := Int32.not_lt.mpr c39
            have n39 := Nat.not_lt.mp (fun q => c39 ((nI_ltI (a := k) (b := vN v) (by omega) (by omega)).mpr q))
            have ek : k = vN v := by omega
            subst ek
            refine r_iload_n dX6_drawAll_106 rfl ?_
            refine r_if_lt 22 dX6_drawAll_107 (by decide) (fun c107 => ?_) (fun c107 => ?_)
            ·
              refine r_iload_n dX6_drawAll_22 rfl ?_
              refine r_if_lt 141 dX6_drawAll_23 (by decide) (fun c23 => ?_) (fun c23 => ?_)
              ·
                exact r_vret hQ rfl dX6_drawAll_141 (reV_of (daI_of hτ hn (by rw [← elf]; exact oI_lt (by omega) hx c107)))
              ·
                exact absurd c107 c23
            ·
              obtain ⟨b, hb, eb, rfl⟩ := oI_nn hx c107
              rw [elf] at eb
              have hlt := daJ_lt hτ hn eb
              have hlf : lfS v (lf0 v m) (j + 1) = lf &&& (bitI b ^^^ -1) := by rw [elf]; exact hlt.2.2.2
              refine r_aload_n dX6_drawAll_110 rfl ?_
              refine fX6_11 jX6_drawAll_X6 lX6_drawAll_34 dX6_drawAll_111 ?_
              refine r_aload_n dX6_drawAll_114 rfl ?_
              refine fX6_12 jX6_drawAll_X6 lX6_drawAll_96 dX6_drawAll_115 ?_
              rw [ht12]
              refine r_iload_n dX6_drawAll_118 rfl ?_
              refine stM378 j rfl (by omega) dX6_drawAll_119 ?_
              refine r_aload_n dX6_drawAll_120 rfl ?_
              refine r_dup dX6_drawAll_121 rfl ?_
              refine fX6_12 jX6_drawAll_X6 lX6_drawAll_96 dX6_drawAll_122 ?_
              rw [up_ne (show (369 : Nat) ≠ 378 by omega), ht12]
              refine r_iconst 1 dX6_drawAll_125 (by decide) ?_
              refine r_iadd dX6_drawAll_126 ?_
              rw [nI_1]
              refine pX6_12 jX6_drawAll_X6 lX6_drawAll_96 dX6_drawAll_127 ?_
              refine r_iload_n dX6_drawAll_130 rfl ?_
              refine r_iconst 1 dX6_drawAll_131 (by decide) ?_
              refine r_iload_n dX6_drawAll_132 rfl ?_
              refine r_ishl dX6_drawAll_133 ?_
              refine r_iconst (-1) dX6_drawAll_134 (by decide) ?_
              refine r_ixor dX6_drawAll_135 ?_
              refine r_iand dX6_drawAll_136 ?_
              refine r_istore_n dX6_drawAll_137 (by decide) rfl ?_
              refine r_goto 22 dX6_drawAll_138 (by decide) ?_
              refine r_iload_n dX6_drawAll_22 rfl ?_
              refine r_if_lt 141 dX6_drawAll_23 (by decide) (fun c23 => ?_) (fun c23 => ?_)
              ·
                have n23 := (nI_ltI (a := b) (b := 0) (by omega) (by omega)).mp c23
                exact r_vret hQ rfl dX6_drawAll_141 (absurd c23 c107)
              ·
                have n23 := Nat.not_lt.mp (fun q => c23 ((nI_ltI (a := b) (b := 0) (by omega) (by omega)).mpr q))
                exact ihA (j + 1) _ _ _ _ _ (by omega) hlf.symm (daJ_s hτ hn eb) (by omega)
          ·
            replace c39 := Int32.not_le.mp c39
            have n39 := (nI_ltI (a := k) (b := vN v) (by omega) (by omega)).mp c39
            refine r_iload_n dX6_drawAll_42 rfl ?_
            refine r_iload dX6_drawAll_43 rfl ?_
            refine r_callSI hL (ctX6_has l Ω _ _ k) kX6_drawAll_75 rfl rfl (Nat.le_of_ble_eq_true rfl) dX6_drawAll_45 ?_
            refine r_if_eq 67 dX6_drawAll_48 (by decide) (fun c48 => ?_) (fun c48 => ?_)
            ·
              replace c48 := bI_f c48
              refine r_iconst 0 dX6_drawAll_67 (by decide) ?_
              refine r_istore dX6_drawAll_68 (by decide) rfl ?_
              refine r_iload dX6_drawAll_70 rfl ?_
              refine r_if_eq 98 dX6_drawAll_72 (by decide) (fun c72 => ?_) (fun c72 => absurd c72 (by decide))
              refine r_iload_n dX6_drawAll_98 rfl ?_
              refine r_istore_n dX6_drawAll_99 (by decide) rfl ?_
              refine r_iinc (nI (k + 1)) dX6_drawAll_100 rfl (nI_1 k) (by decide) rfl ?_
              refine r_goto 31 dX6_drawAll_103 (by decide) ?_
              exact ih (k + 1) _ _ (by omega) (by rw [bestO_no1 (by simp [c48]), hx]) (by omega)
            ·
              replace c48 := bI_t c48
              refine r_aload_n dX6_drawAll_51 rfl ?_
              refine fX6_8 jX6_drawAll_X6 lX6_drawAll_25 dX6_drawAll_52 ?_
              refine r_iload dX6_drawAll_55 rfl ?_
              refine ldM375 k rfl (by omega) dX6_drawAll_57 ?_
              rw [hτ.2.2.1 375 (by omega) (by omega), hh k (by omega)]
              refine r_iload_n dX6_drawAll_58 rfl ?_
              refine r_iand dX6_drawAll_59 ?_
              refine r_if_ne 67 dX6_drawAll_60 (by decide) (fun c60 => ?_) (fun c60 => ?_)
              ·
                refine r_iconst 0 dX6_drawAll_67 (by decide) ?_
                refine r_istore dX6_drawAll_68 (by decide) rfl ?_
                refine r_iload dX6_drawAll_70 rfl ?_
                refine r_if_eq 98 dX6_drawAll_72 (by decide) (fun c72 => ?_) (fun c72 => absurd c72 (by decide))
                refine r_iload_n dX6_drawAll_98 rfl ?_
                refine r_istore_n dX6_drawAll_99 (by decide) rfl ?_
                refine r_iinc (nI (k + 1)) dX6_drawAll_100 rfl (nI_1 k) (by decide) rfl ?_
                refine r_goto 31 dX6_drawAll_103 (by decide) ?_
                exact ih (k + 1) _ _ (by omega) (by rw [bestO_no1 (by simp [c60]), hx]) (by omega)
              ·
                refine r_iconst 1 dX6_drawAll_63 (by decide) ?_
                refine r_goto 68 dX6_drawAll_64 (by decide) ?_
                refine r_istore dX6_drawAll_68 (by decide) rfl ?_
                refine r_iload dX6_drawAll_70 rfl ?_
                refine r_if_eq 98 dX6_drawAll_72 (by decide) (fun c72 => absurd c72 (by decide)) (fun c72 => ?_)
                refine r_iload_n dX6_drawAll_75 rfl ?_
                refine r_if_lt 93 dX6_drawAll_76 (by decide) (fun c76 => ?_) (fun c76 => ?_)
                ·
                  refine r_iload dX6_drawAll_93 rfl ?_
                  refine r_goto 99 dX6_drawAll_95 (by decide) ?_
                  refine r_istore_n dX6_drawAll_99 (by decide) rfl ?_
                  refine r_iinc (nI (k + 1)) dX6_drawAll_100 rfl (nI_1 k) (by decide) rfl ?_
                  refine r_goto 31 dX6_drawAll_103 (by decide) ?_
                  exact ih (k + 1) _ _ (by omega) (by rw [bestO_yes (by simp [c48, c60]) (Or.inl (oI_lt (by omega) hx c76))]; rfl) (by omega)
                ·
                  obtain ⟨b, hb, eb, rfl⟩ := oI_nn hx c76
                  refine r_aload_n dX6_drawAll_79 rfl ?_
                  refine r_iload dX6_drawAll_80 rfl ?_
                  refine r_callVI (369) hL (ctX6_weight l Ω _ v hzτ k (by omega) hru) kX6_drawAll_100 (by omega) ⟨_, _, _, rfl, rfl, rfl⟩ rfl rfl (Nat.le_of_ble_eq_true rfl) dX6_drawAll_82 ?_
                  refine r_aload_n dX6_drawAll_85 rfl ?_
                  refine r_iload_n dX6_drawAll_86 rfl ?_
                  refine r_callVI (369) hL (ctX6_weight l Ω _ v hzτ b (by omega) hru) kX6_drawAll_100 (by omega) ⟨_, _, _, rfl, rfl, rfl⟩ rfl rfl (Nat.le_of_ble_eq_true rfl) dX6_drawAll_87 ?_
                  refine r_icmp_ge 98 dX6_drawAll_90 (by decide) (fun c90 => ?_) (fun c90 => ?_)
                  ·
                    replace c90 := Int32.not_lt.mpr c90
                    refine r_iload_n dX6_drawAll_98 rfl ?_
                    refine r_istore_n dX6_drawAll_99 (by decide) rfl ?_
                    refine r_iinc (nI (k + 1)) dX6_drawAll_100 rfl (nI_1 k) (by decide) rfl ?_
                    refine r_goto 31 dX6_drawAll_103 (by decide) ?_
                    exact ih (k + 1) _ _ (by omega) (by rw [bestO_no2 eb (by simpa using c90), hx]) (by omega)
                  ·
                    replace c90 := Int32.not_le.mp c90
                    refine r_iload dX6_drawAll_93 rfl ?_
                    refine r_goto 99 dX6_drawAll_95 (by decide) ?_
                    refine r_istore_n dX6_drawAll_99 (by decide) rfl ?_
                    refine r_iinc (nI (k + 1)) dX6_drawAll_100 rfl (nI_1 k) (by decide) rfl ?_
                    refine r_goto 31 dX6_drawAll_103 (by decide) ?_
                    exact ih (k + 1) _ _ (by omega) (by rw [bestO_yes (by simp [c48, c60]) (Or.inr ⟨_, eb, by simpa using c90⟩)]; rfl) (by omega)
      exact L2 (vN v + 1) 0 _ _ (by omega) rfl (by omega)
  exact L1 (vN v + 1) 0 _ _ _ _ _ (by omega) rfl daJ_0 (by omega)

set_option maxRecDepth 100000 in
set_option maxHeartbeats 4000000 in
theorem ctX6_drawnSet (l : Launch) (Ω : Om) (σ : Sg) (m : Nat) (hm : m ≤ 16) (hd : σ 369 12 = nI m) : CtW l yX6_drawnSet wsX6_drawnSet (rmD 0) Ω [.ref (ad Ω 369)] σ (roI (dsI (σ 378) m) σ) := by
  refine ct_intro [some (.ref (ad Ω 369)), none, none] (by decide) rfl rfl (Nat.le_of_ble_eq_true rfl) (fun Γ hL hQ => ?_)
  show AtW mX6_drawnSet Γ Ω σ 0 [some (.ref (ad Ω 369)), none, none] []
  refine r_iconst 0 dX6_drawnSet_0 (by decide) ?_
  refine r_istore_n dX6_drawnSet_1 (by decide) rfl ?_
  refine r_iconst 0 dX6_drawnSet_2 (by decide) ?_
  refine r_istore_n dX6_drawnSet_3 (by decide) rfl ?_
  have L1 : ∀ (N : Nat) (k : Nat) (x : Int32), k ≤ m → x = dsI (σ 378) k → m < k + N → AtW mX6_drawnSet Γ Ω σ 4 [some (.ref (ad Ω 369)), some (.int x), some (.int (nI k))] [] := by
    intro N
    induction N with
    | zero =>
      intro k x hk hx hN
      exact absurd hN (by omega)
    | succ N ih =>
      intro k x hk hx hN
      refine r_iload_n dX6_drawnSet_4 rfl ?_
      refine r_aload_n dX6_drawnSet_5 rfl ?_
      refine fX6_12 jX6_drawnSet_X6 lX6_drawnSet_96 dX6_drawnSet_6 ?_
      rw [hd]
      refine r_icmp_ge 29 dX6_drawnSet_9 (by decide) (fun c9 => ?_) (fun c9 => ?_)
      ·
        replace c9 := Int32.not_lt.mpr c9
        have n9 := Nat.not_lt.mp (fun q => c9 ((nI_ltI (a := k) (b := m) (by omega) (by omega)).mpr q))
        refine r_iload_n dX6_drawnSet_29 rfl ?_
        have ek : k = m := by omega
        subst ek
        exact r_iret hQ rfl dX6_drawnSet_30 (roI_of hx)
      ·
        replace c9 := Int32.not_le.mp c9
        have n9 := (nI_ltI (a := k) (b := m) (by omega) (by omega)).mp c9
        refine r_iload_n dX6_drawnSet_12 rfl ?_
        refine r_iconst 1 dX6_drawnSet_13 (by decide) ?_
        refine r_aload_n dX6_drawnSet_14 rfl ?_
        refine fX6_11 jX6_drawnSet_X6 lX6_drawnSet_34 dX6_drawnSet_15 ?_
        refine r_iload_n dX6_drawnSet_18 rfl ?_
        refine ldM378 k rfl (by omega) dX6_drawnSet_19 ?_
        refine r_ishl dX6_drawnSet_20 ?_
        refine r_ior dX6_drawnSet_21 ?_
        refine r_istore_n dX6_drawnSet_22 (by decide) rfl ?_
        refine r_iinc (nI (k + 1)) dX6_drawnSet_23 rfl (nI_1 k) (by decide) rfl ?_
        refine r_goto 4 dX6_drawnSet_26 (by decide) ?_
        exact ih (k + 1) _ (by omega) (by rw [hx]; rfl) (by omega)
  exact L1 (m + 1) 0 _ (by omega) rfl (by omega)

set_option maxRecDepth 100000 in
set_option maxHeartbeats 4000000 in
theorem ctX6_isBelow (l : Launch) (Ω : Om) (σ : Sg) (v : SpV) (hz : isZ (σ 370) v) (a b : Nat) (ha : a < vN v) (hb : b < vN v) (hl : ltV v) : CtW l yX6_isBelow wsX6_isBelow (rmD 4) Ω [.ref (ad Ω 369), .int (nI a), .int (nI b)] σ (roI (bI (beB (vLo v a) (vHi v a) (vLo v b) (vHi v b))) σ) := by
  refine ct_intro [some (.ref (ad Ω 369)), some (.int (nI a)), some (.int (nI b))] (by decide) rfl rfl (Nat.le_of_ble_eq_true rfl) (fun Γ hL hQ => ?_)
  show AtW mX6_isBelow Γ Ω σ 0 [some (.ref (ad Ω 369)), some (.int (nI a)), some (.int (nI b))] []
  have hn := hz.1
  have hz0 := hz.2.1
  refine r_iload_n dX6_isBelow_0 rfl ?_
  refine r_iload_n dX6_isBelow_1 rfl ?_
  refine r_icmp_eq 44 dX6_isBelow_2 (by decide) (fun c2 => ?_) (fun c2 => ?_)
  ·
    have n2 := (nI_eq (a := a) (b := b) (by omega) (by omega)).mp c2
    refine r_iconst 0 dX6_isBelow_44 (by decide) ?_
    exact r_zret hQ rfl ((by decide)) dX6_isBelow_45 (roI_of (by rw [be_same hl hb n2]; rfl))
  ·
    have n2 : ¬ a = b := fun q => c2 ((nI_eq (a := a) (b := b) (by omega) (by omega)).mpr q)
    refine r_aload_n dX6_isBelow_5 rfl ?_
    refine r_iload_n dX6_isBelow_6 rfl ?_
    refine r_iload_n dX6_isBelow_7 rfl ?_
    refine r_iconst 0 dX6_isBelow_8 (by decide) ?_
    refine r_callVI (369) hL (ctX6_cross l Ω _ v hz a b (by omega) (by omega) 0 (by omega)) kX6_isBelow_60 (by omega) ⟨_, _, _, rfl, rfl, rfl⟩ rfl rfl (Nat.le_of_ble_eq_true rfl) dX6_isBelow_9 ?_
    refine r_if_eq 44 dX6_isBelow_12 (by decide) (fun c12 => ?_) (fun c12 => ?_)
    ·
      replace c12 := bI_f c12
      refine r_iconst 0 dX6_isBelow_44 (by decide) ?_
      exact r_zret hQ rfl ((by decide)) dX6_isBelow_45 (roI_of (by rw [beB, c12]; rfl))
    ·
      replace c12 := bI_t c12
      refine r_aload_n dX6_isBelow_15 rfl ?_
      refine r_iload_n dX6_isBelow_16 rfl ?_
      refine r_iload_n dX6_isBelow_17 rfl ?_
      refine r_iconst 1 dX6_isBelow_18 (by decide) ?_
      refine r_callVI (369) hL (ctX6_cross l Ω _ v hz a b (by omega) (by omega) 1 (by omega)) kX6_isBelow_60 (by omega) ⟨_, _, _, rfl, rfl, rfl⟩ rfl rfl (Nat.le_of_ble_eq_true rfl) dX6_isBelow_19 ?_
      refine r_if_eq 44 dX6_isBelow_22 (by decide) (fun c22 => ?_) (fun c22 => ?_)
      ·
        replace c22 := bI_f c22
        refine r_iconst 0 dX6_isBelow_44 (by decide) ?_
        exact r_zret hQ rfl ((by decide)) dX6_isBelow_45 (roI_of (by rw [beB, c22, Bool.and_false]; rfl))
      ·
        replace c22 := bI_t c22
        refine r_aload_n dX6_isBelow_25 rfl ?_
        refine r_iload_n dX6_isBelow_26 rfl ?_
        refine r_iconst 2 dX6_isBelow_27 (by decide) ?_
        refine r_callVI (369) hL (ctX6_high l Ω _ v hz a (by omega) 2 (by omega)) kX6_isBelow_57 (by omega) ⟨_, _, _, rfl, rfl, rfl⟩ rfl rfl (Nat.le_of_ble_eq_true rfl) dX6_isBelow_28 ?_
        refine r_aload_n dX6_isBelow_31 rfl ?_
        refine r_iload_n dX6_isBelow_32 rfl ?_
        refine r_iconst 2 dX6_isBelow_33 (by decide) ?_
        refine r_callVI (369) hL (ctX6_low l Ω _ v hz b (by omega) 2 (by omega)) kX6_isBelow_47 (by omega) ⟨_, _, _, rfl, rfl, rfl⟩ rfl rfl (Nat.le_of_ble_eq_true rfl) dX6_isBelow_34 ?_
        refine r_icmp_gt 44 dX6_isBelow_37 (by decide) (fun c37 => ?_) (fun c37 => ?_)
        ·
          refine r_iconst 0 dX6_isBelow_44 (by decide) ?_
          exact r_zret hQ rfl ((by decide)) dX6_isBelow_45 (roI_of (by rw [beB, decide_eq_true c37, Bool.not_true, Bool.and_false]; rfl))
        ·
          refine r_iconst 1 dX6_isBelow_40 (by decide) ?_
          refine r_goto 45 dX6_isBelow_41 (by decide) ?_
          exact r_zret hQ rfl ((by decide)) dX6_isBelow_45 (roI_of (by rw [beB, c12, c22, decide_eq_false c37]; rfl))

set_option maxRecDepth 100000 in
set_option maxHeartbeats 4000000 in
theorem ctX6_push (l : Launch) (Ω : Om) (σ : Sg) (S : StV) (h0 : hsM σ (qN S) (qH S)) (hz : isZ (σ 370) (qC S)) : CtW l yX6_push wsX6_push (rmD 0) Ω [.ref (ad Ω 369), .ref (ad Ω 370)] σ (reV (fun σ1 => phI S σ σ1)) := by
  refine ct_intro [some (.ref (ad Ω 369)), some (.ref (ad Ω 370)), none] (by decide) rfl rfl (Nat.le_of_ble_eq_true rfl) (fun Γ hL hQ => ?_)
  show AtW mX6_push Γ Ω σ 0 [some (.ref (ad Ω 369)), some (.ref (ad Ω 370)), none] []
  have hN4 := h0.2.1
  have J1 : ∀ (τ : Sg) (c : Nat) (v2 : Option Value) (h1 : ph1 S σ τ c), AtW mX6_push Γ Ω τ 48 [some (.ref (ad Ω 369)), some (.ref (ad Ω 370)), v2] [] := by
    intro τ c v2 h1
    have hc4 := h1.1
    have ht3 := h1.2.2.1
    refine r_iconst 0 dX6_push_48 (by decide) ?_
    refine r_istore_n dX6_push_49 (by decide) rfl ?_
    have L2 : ∀ (N : Nat) (k : Nat), k ≤ 116 → 116 < k + N → AtW mX6_push Γ Ω (cpO τ 370 c k) 50 [some (.ref (ad Ω 369)), some (.ref (ad Ω 370)), some (.int (nI k))] [] := by
      intro N
      induction N with
      | zero =>
        intro k hk hN
        exact absurd hN (by omega)
      | succ N ih =>
        intro k hk hN
        refine r_iload_n dX6_push_50 rfl ?_
        refine r_bipush 116 dX6_push_51 (by decide) ?_
        refine r_icmp_ge 79 dX6_push_53 (by decide) (fun c53 => ?_) (fun c53 => ?_)
        ·
          replace c53 := Int32.not_lt.mpr c53
          have n53 := Nat.not_lt.mp (fun q => c53 ((nI_ltI (a := k) (b := 116) (by omega) (by omega)).mpr q))
          have ek : k = 116 := by omega
          subst ek
          refine r_aload_n dX6_push_79 rfl ?_
          refine r_dup dX6_push_80 rfl ?_
          refine fX6_3 jX6_push_X6 lX6_push_103 dX6_push_81 ?_
          rw [show cpO τ 370 c 116 369 = τ 369 from setA_ne (by omega), ht3]
          refine r_iconst 1 dX6_push_84 (by decide) ?_
          refine r_iadd dX6_push_85 ?_
          rw [nI_1]
          refine pX6_3 jX6_push_X6 lX6_push_103 dX6_push_86 ?_
          exact r_vret hQ rfl dX6_push_89 (reV_of (phI_of h1 (by rw [h1.2.2.2.2.1 370 (by omega) (by omega)]; exact hz)))
        ·
          replace c53 := Int32.not_le.mp c53
          have n53 := (nI_ltI (a := k) (b := 116) (by omega) (by omega)).mp c53
          refine r_aload_n dX6_push_56 rfl ?_
          refine fX6_2 jX6_push_X6 lX6_push_16 dX6_push_57 ?_
          refine r_bipush 116 dX6_push_60 (by decide) ?_
          refine r_aload_n dX6_push_62 rfl ?_
          refine fX6_3 jX6_push_X6 lX6_push_103 dX6_push_63 ?_
          rw [show cpO τ 370 c k 369 = τ 369 from setA_ne (by omega), ht3]
          refine r_imul dX6_push_66 ?_
          refine r_iload_n dX6_push_67 rfl ?_
          refine r_iadd dX6_push_68 ?_
          rw [hix]
          refine r_aload_n dX6_push_69 rfl ?_
          refine r_iload_n dX6_push_70 rfl ?_
          refine ldM370 k rfl (by omega) dX6_push_71 ?_
          refine stM372 (116 * c + k) rfl (by omega) dX6_push_72 ?_
          refine r_iinc (nI (k + 1)) dX6_push_73 rfl (nI_1 k) (by decide) rfl ?_
          refine r_goto 50 dX6_push_76 (by decide) ?_
          rw [show cpO τ 370 c k 370 = τ 370 from setA_ne (by omega), cpO_s]; exact ih (k + 1) (by omega) (by omega)
    rw [← cpO_0 τ 370 c]
    exact L2 117 0 (by omega) (by omega)
  refine r_aload_n dX6_push_0 rfl ?_
  refine fX6_3 jX6_push_X6 lX6_push_103 dX6_push_1 ?_
  rw [h0.1]
  refine r_iconst 4 dX6_push_4 (by decide) ?_
  refine r_icmp_ne 48 dX6_push_5 (by decide) (fun c5 => ?_) (fun c5 => ?_)
  ·
    have n5 : ¬ qN S = 4 := fun q => c5 ((nI_eq (a := qN S) (b := 4) (by omega) (by omega)).mpr q)
    exact J1 σ (qN S) _ (ph1_new h0 n5)
  ·
    have n5 := (nI_eq (a := qN S) (b := 4) (by omega) (by omega)).mp c5
    refine r_iconst 0 dX6_push_8 (by decide) ?_
    refine r_istore_n dX6_push_9 (by decide) rfl ?_
    have L1 : ∀ (N : Nat) (k : Nat), k ≤ 348 → 348 < k + N → AtW mX6_push Γ Ω (shO σ k) 10 [some (.ref (ad Ω 369)), some (.ref (ad Ω 370)), some (.int (nI k))] [] := by
      intro N
      induction N with
      | zero =>
        intro k hk hN
        exact absurd hN (by omega)
      | succ N ih =>
        intro k hk hN
        refine r_iload_n dX6_push_10 rfl ?_
        refine r_sipush 348 dX6_push_11 (by decide) ?_
        refine r_icmp_ge 38 dX6_push_14 (by decide) (fun c14 => ?_) (fun c14 => ?_)
        ·
          replace c14 := Int32.not_lt.mpr c14
          have n14 := Nat.not_lt.mp (fun q => c14 ((nI_ltI (a := k) (b := 348) (by omega) (by omega)).mpr q))
          have ek : k = 348 := by omega
          subst ek
          refine r_aload_n dX6_push_38 rfl ?_
          refine r_dup dX6_push_39 rfl ?_
          refine fX6_3 jX6_push_X6 lX6_push_103 dX6_push_40 ?_
          rw [show shO σ 348 369 = σ 369 from setA_ne (by omega), h0.1, n5]
          refine r_iconst 1 dX6_push_43 (by decide) ?_
          refine r_isub dX6_push_44 ?_
          rw [show nI 4 - 1 = nI 3 from by decide]
          refine pX6_3 jX6_push_X6 lX6_push_103 dX6_push_45 ?_
          exact J1 _ 3 _ (ph1_old h0 n5)
        ·
          replace c14 := Int32.not_le.mp c14
          have n14 := (nI_ltI (a := k) (b := 348) (by omega) (by omega)).mp c14
          refine r_aload_n dX6_push_17 rfl ?_
          refine fX6_2 jX6_push_X6 lX6_push_16 dX6_push_18 ?_
          refine r_iload_n dX6_push_21 rfl ?_
          refine r_aload_n dX6_push_22 rfl ?_
          refine fX6_2 jX6_push_X6 lX6_push_16 dX6_push_23 ?_
          refine r_bipush 116 dX6_push_26 (by decide) ?_
          refine r_iload_n dX6_push_28 rfl ?_
          refine r_iadd dX6_push_29 ?_
          rw [show (116 : Int32) + nI k = nI (116 + k) from nI_add 116 k]
          refine ldM372 (116 + k) rfl (by omega) dX6_push_30 ?_
          refine stM372 k rfl (by omega) dX6_push_31 ?_
          refine r_iinc (nI (k + 1)) dX6_push_32 rfl (nI_1 k) (by decide) rfl ?_
          refine r_goto 10 dX6_push_35 (by decide) ?_
          rw [shO_get, shO_s]; exact ih (k + 1) (by omega) (by omega)
    rw [← shO_0 σ]
    exact L1 349 0 (by omega) (by omega)

set_option maxRecDepth 100000 in
set_option maxHeartbeats 4000000 in
theorem ctX6_push_a (l : Launch) (Ω : Om) (σ : Sg) (S : StV) (h0 : hsM σ (qN S) (qH S)) (hz : isZ (σ 371) (qC S)) : CtW l yX6_push wsX6_push (rmD 0) Ω [.ref (ad Ω 369), .ref (ad Ω 371)] σ (reV (fun σ1 => phI S σ σ1)) := by
  refine ct_intro [some (.ref (ad Ω 369)), some (.ref (ad Ω 371)), none] (by decide) rfl rfl (Nat.le_of_ble_eq_true rfl) (fun Γ hL hQ => ?_)
  show AtW mX6_push Γ Ω σ 0 [some (.ref (ad Ω 369)), some (.ref (ad Ω 371)), none] []
  have hN4 := h0.2.1
  have J1 : ∀ (τ : Sg) (c : Nat) (v2 : Option Value) (h1 : ph1 S σ τ c), AtW mX6_push Γ Ω τ 48 [some (.ref (ad Ω 369)), some (.ref (ad Ω 371)), v2] [] := by
    intro τ c v2 h1
    have hc4 := h1.1
    have ht3 := h1.2.2.1
    refine r_iconst 0 dX6_push_48 (by decide) ?_
    refine r_istore_n dX6_push_49 (by decide) rfl ?_
    have L2 : ∀ (N : Nat) (k : Nat), k ≤ 116 → 116 < k + N → AtW mX6_push Γ Ω (cpO τ 371 c k) 50 [some (.ref (ad Ω 369)), some (.ref (ad Ω 371)), some (.int (nI k))] [] := by
      intro N
      induction N with
      | zero =>
        intro k hk hN
        exact absurd hN (by omega)
      | succ N ih =>
        intro k hk hN
        refine r_iload_n dX6_push_50 rfl ?_
        refine r_bipush 116 dX6_push_51 (by decide) ?_
        refine r_icmp_ge 79 dX6_push_53 (by decide) (fun c53 => ?_) (fun c53 => ?_)
        ·
          replace c53 := Int32.not_lt.mpr c53
          have n53 := Nat.not_lt.mp (fun q => c53 ((nI_ltI (a := k) (b := 116) (by omega) (by omega)).mpr q))
          have ek : k = 116 := by omega
          subst ek
          refine r_aload_n dX6_push_79 rfl ?_
          refine r_dup dX6_push_80 rfl ?_
          refine fX6_3 jX6_push_X6 lX6_push_103 dX6_push_81 ?_
          rw [show cpO τ 371 c 116 369 = τ 369 from setA_ne (by omega), ht3]
          refine r_iconst 1 dX6_push_84 (by decide) ?_
          refine r_iadd dX6_push_85 ?_
          rw [nI_1]
          refine pX6_3 jX6_push_X6 lX6_push_103 dX6_push_86 ?_
          exact r_vret hQ rfl dX6_push_89 (reV_of (phI_of h1 (by rw [h1.2.2.2.2.1 371 (by omega) (by omega)]; exact hz)))
        ·
          replace c53 := Int32.not_le.mp c53
          have n53 := (nI_ltI (a := k) (b := 116) (by omega) (by omega)).mp c53
          refine r_aload_n dX6_push_56 rfl ?_
          refine fX6_2 jX6_push_X6 lX6_push_16 dX6_push_57 ?_
          refine r_bipush 116 dX6_push_60 (by decide) ?_
          refine r_aload_n dX6_push_62 rfl ?_
          refine fX6_3 jX6_push_X6 lX6_push_103 dX6_push_63 ?_
          rw [show cpO τ 371 c k 369 = τ 369 from setA_ne (by omega), ht3]
          refine r_imul dX6_push_66 ?_
          refine r_iload_n dX6_push_67 rfl ?_
          refine r_iadd dX6_push_68 ?_
          rw [hix]
          refine r_aload_n dX6_push_69 rfl ?_
          refine r_iload_n dX6_push_70 rfl ?_
          refine ldM371 k rfl (by omega) dX6_push_71 ?_
          refine stM372 (116 * c + k) rfl (by omega) dX6_push_72 ?_
          refine r_iinc (nI (k + 1)) dX6_push_73 rfl (nI_1 k) (by decide) rfl ?_
          refine r_goto 50 dX6_push_76 (by decide) ?_
          rw [show cpO τ 371 c k 371 = τ 371 from setA_ne (by omega), cpO_s]; exact ih (k + 1) (by omega) (by omega)
    rw [← cpO_0 τ 371 c]
    exact L2 117 0 (by omega) (by omega)
  refine r_aload_n dX6_push_0 rfl ?_
  refine fX6_3 jX6_push_X6 lX6_push_103 dX6_push_1 ?_
  rw [h0.1]
  refine r_iconst 4 dX6_push_4 (by decide) ?_
  refine r_icmp_ne 48 dX6_push_5 (by decide) (fun c5 => ?_) (fun c5 => ?_)
  ·
    have n5 : ¬ qN S = 4 := fun q => c5 ((nI_eq (a := qN S) (b := 4) (by omega) (by omega)).mpr q)
    exact J1 σ (qN S) _ (ph1_new h0 n5)
  ·
    have n5 := (nI_eq (a := qN S) (b := 4) (by omega) (by omega)).mp c5
    refine r_iconst 0 dX6_push_8 (by decide) ?_
    refine r_istore_n dX6_push_9 (by decide) rfl ?_
    have L1 : ∀ (N : Nat) (k : Nat), k ≤ 348 → 348 < k + N → AtW mX6_push Γ Ω (shO σ k) 10 [some (.ref (ad Ω 369)), some (.ref (ad Ω 371)), some (.int (nI k))] [] := by
      intro N
      induction N with
      | zero =>
        intro k hk hN
        exact absurd hN (by omega)
      | succ N ih =>
        intro k hk hN
        refine r_iload_n dX6_push_10 rfl ?_
        refine r_sipush 348 dX6_push_11 (by decide) ?_
        refine r_icmp_ge 38 dX6_push_14 (by decide) (fun c14 => ?_) (fun c14 => ?_)
        ·
          replace c14 := Int32.not_lt.mpr c14
          have n14 := Nat.not_lt.mp (fun q => c14 ((nI_ltI (a := k) (b := 348) (by omega) (by omega)).mpr q))
          have ek : k = 348 := by omega
          subst ek
          refine r_aload_n dX6_push_38 rfl ?_
          refine r_dup dX6_push_39 rfl ?_
          refine fX6_3 jX6_push_X6 lX6_push_103 dX6_push_40 ?_
          rw [show shO σ 348 369 = σ 369 from setA_ne (by omega), h0.1, n5]
          refine r_iconst 1 dX6_push_43 (by decide) ?_
          refine r_isub dX6_push_44 ?_
          rw [show nI 4 - 1 = nI 3 from by decide]
          refine pX6_3 jX6_push_X6 lX6_push_103 dX6_push_45 ?_
          exact J1 _ 3 _ (ph1_old h0 n5)
        ·
          replace c14 := Int32.not_le.mp c14
          have n14 := (nI_ltI (a := k) (b := 348) (by omega) (by omega)).mp c14
          refine r_aload_n dX6_push_17 rfl ?_
          refine fX6_2 jX6_push_X6 lX6_push_16 dX6_push_18 ?_
          refine r_iload_n dX6_push_21 rfl ?_
          refine r_aload_n dX6_push_22 rfl ?_
          refine fX6_2 jX6_push_X6 lX6_push_16 dX6_push_23 ?_
          refine r_bipush 116 dX6_push_26 (by decide) ?_
          refine r_iload_n dX6_push_28 rfl ?_
          refine r_iadd dX6_push_29 ?_
          rw [show (116 : Int32) + nI k = nI (116 + k) from nI_add 116 k]
          refine ldM372 (116 + k) rfl (by omega) dX6_push_30 ?_
          refine stM372 k rfl (by omega) dX6_push_31 ?_
          refine r_iinc (nI (k + 1)) dX6_push_32 rfl (nI_1 k) (by decide) rfl ?_
          refine r_goto 10 dX6_push_35 (by decide) ?_
          rw [shO_get, shO_s]; exact ih (k + 1) (by omega) (by omega)
    rw [← shO_0 σ]
    exact L1 349 0 (by omega) (by omega)

set_option maxRecDepth 100000 in
set_option maxHeartbeats 4000000 in
theorem ctX6_putAside (l : Launch) (Ω : Om) (σ : Sg) : CtW l yX6_putAside wsX6_putAside (rmD 0) Ω [.ref (ad Ω 369)] σ (reV (fun σ1 => σ1 = cpyA σ 371 370 116)) := by
  refine ct_intro [some (.ref (ad Ω 369)), none] (by decide) rfl rfl (Nat.le_of_ble_eq_true rfl) (fun Γ hL hQ => ?_)
  show AtW mX6_putAside Γ Ω σ 0 [some (.ref (ad Ω 369)), none] []
  refine r_iconst 0 dX6_putAside_0 (by decide) ?_
  refine r_istore_n dX6_putAside_1 (by decide) rfl ?_
  have L1 : ∀ (N : Nat) (k : Nat), k ≤ 116 → 116 < k + N → AtW mX6_putAside Γ Ω (cpyA σ 371 370 k) 2 [some (.ref (ad Ω 369)), some (.int (nI k))] [] := by
    intro N
    induction N with
    | zero =>
      intro k hk hN
      exact absurd hN (by omega)
    | succ N ih =>
      intro k hk hN
      refine r_iload_n dX6_putAside_2 rfl ?_
      refine r_bipush 116 dX6_putAside_3 (by decide) ?_
      refine r_icmp_ge 26 dX6_putAside_5 (by decide) (fun c5 => ?_) (fun c5 => ?_)
      ·
        replace c5 := Int32.not_lt.mpr c5
        have n5 := Nat.not_lt.mp (fun q => c5 ((nI_ltI (a := k) (b := 116) (by omega) (by omega)).mpr q))
        have ek : k = 116 := by omega
        subst ek
        exact r_vret hQ rfl dX6_putAside_26 (reV_of rfl)
      ·
        replace c5 := Int32.not_le.mp c5
        have n5 := (nI_ltI (a := k) (b := 116) (by omega) (by omega)).mp c5
        refine r_aload_n dX6_putAside_8 rfl ?_
        refine fX6_1 jX6_putAside_X6 lX6_putAside_13 dX6_putAside_9 ?_
        refine r_iload_n dX6_putAside_12 rfl ?_
        refine r_aload_n dX6_putAside_13 rfl ?_
        refine fX6_0 jX6_putAside_X6 lX6_putAside_7 dX6_putAside_14 ?_
        refine r_iload_n dX6_putAside_17 rfl ?_
        refine ldM370 k rfl (by omega) dX6_putAside_18 ?_
        refine stM371 k rfl (by omega) dX6_putAside_19 ?_
        refine r_iinc (nI (k + 1)) dX6_putAside_20 rfl (nI_1 k) (by decide) rfl ?_
        refine r_goto 2 dX6_putAside_23 (by decide) ?_
        rw [show cpyA σ 371 370 k 370 = σ 370 from cpyA_ne (by omega), cpyA_s]; exact ih (k + 1) (by omega) (by omega)
  rw [← cpyA_0 σ 371 370]
  exact L1 117 0 (by omega) (by omega)

set_option maxRecDepth 100000 in
set_option maxHeartbeats 4000000 in
theorem ctX6_putBack (l : Launch) (Ω : Om) (σ : Sg) : CtW l yX6_putBack wsX6_putBack (rmD 0) Ω [.ref (ad Ω 369)] σ (reV (fun σ1 => σ1 = cpyA σ 370 371 116)) := by
  refine ct_intro [some (.ref (ad Ω 369)), none] (by decide) rfl rfl (Nat.le_of_ble_eq_true rfl) (fun Γ hL hQ => ?_)
  show AtW mX6_putBack Γ Ω σ 0 [some (.ref (ad Ω 369)), none] []
  refine r_iconst 0 dX6_putBack_0 (by decide) ?_
  refine r_istore_n dX6_putBack_1 (by decide) rfl ?_
  have L1 : ∀ (N : Nat) (k : Nat), k ≤ 116 → 116 < k + N → AtW mX6_putBack Γ Ω (cpyA σ 370 371 k) 2 [some (.ref (ad Ω 369)), some (.int (nI k))] [] := by
    intro N
    induction N with
    | zero =>
      intro k hk hN
      exact absurd hN (by omega)
    | succ N ih =>
      intro k hk hN
      refine r_iload_n dX6_putBack_2 rfl ?_
      refine r_bipush 116 dX6_putBack_3 (by decide) ?_
      refine r_icmp_ge 26 dX6_putBack_5 (by decide) (fun c5 => ?_) (fun c5 => ?_)
      ·
        replace c5 := Int32.not_lt.mpr c5
        have n5 := Nat.not_lt.mp (fun q => c5 ((nI_ltI (a := k) (b := 116) (by omega) (by omega)).mpr q))
        have ek : k = 116 := by omega
        subst ek
        exact r_vret hQ rfl dX6_putBack_26 (reV_of rfl)
      ·
        replace c5 := Int32.not_le.mp c5
        have n5 := (nI_ltI (a := k) (b := 116) (by omega) (by omega)).mp c5
        refine r_aload_n dX6_putBack_8 rfl ?_
        refine fX6_0 jX6_putBack_X6 lX6_putBack_7 dX6_putBack_9 ?_
        refine r_iload_n dX6_putBack_12 rfl ?_
        refine r_aload_n dX6_putBack_13 rfl ?_
        refine fX6_1 jX6_putBack_X6 lX6_putBack_13 dX6_putBack_14 ?_
        refine r_iload_n dX6_putBack_17 rfl ?_
        refine ldM371 k rfl (by omega) dX6_putBack_18 ?_
        refine stM370 k rfl (by omega) dX6_putBack_19 ?_
        refine r_iinc (nI (k + 1)) dX6_putBack_20 rfl (nI_1 k) (by decide) rfl ?_
        refine r_goto 2 dX6_putBack_23 (by decide) ?_
        rw [show cpyA σ 370 371 k 371 = σ 371 from cpyA_ne (by omega), cpyA_s]; exact ih (k + 1) (by omega) (by omega)
  rw [← cpyA_0 σ 370 371]
  exact L1 117 0 (by omega) (by omega)

set_option maxRecDepth 100000 in
set_option maxHeartbeats 4000000 in
theorem ctX6_undo (l : Launch) (Ω : Om) (σ : Sg) (S : StV) (h : isMd σ S) : CtW l yX6_undo wsX6_undo (rmD 0) Ω [.ref (ad Ω 369)] σ (reJ (fun r σ1 => okMd σ (oUndo S) r σ1)) := by
  refine ct_intro [some (.ref (ad Ω 369)), none] (by decide) rfl rfl (Nat.le_of_ble_eq_true rfl) (fun Γ hL hQ => ?_)
  show AtW mX6_undo Γ Ω σ 0 [some (.ref (ad Ω 369)), none] []
  have hz := h.1
  have hn := h.1.1
  have hz0 := h.1.2.1
  have h4 := h.2.1.2.1
  refine r_aload_n dX6_undo_0 rfl ?_
  refine fX6_3 jX6_undo_X6 lX6_undo_103 dX6_undo_1 ?_
  rw [h.2.1.1]
  refine r_if_ne 10 dX6_undo_4 (by decide) (fun c4 => ?_) (fun c4 => ?_)
  ·
    have n4 : ¬ qN S = 0 := fun q => c4 ((nI_eq (a := qN S) (b := 0) (by omega) (by omega)).mpr q)
    refine r_aload_n dX6_undo_10 rfl ?_
    refine r_dup dX6_undo_11 rfl ?_
    refine fX6_3 jX6_undo_X6 lX6_undo_103 dX6_undo_12 ?_
    rw [h.2.1.1, show nI (qN S) = nI (qN S - 1 + 1) from by rw [Nat.sub_add_cancel (by omega)]]
    refine r_iconst 1 dX6_undo_15 (by decide) ?_
    refine r_isub dX6_undo_16 ?_
    rw [nI_pred]
    refine pX6_3 jX6_undo_X6 lX6_undo_103 dX6_undo_17 ?_
    refine r_iconst 0 dX6_undo_20 (by decide) ?_
    refine r_istore_n dX6_undo_21 (by decide) rfl ?_
    have L1 : ∀ (N : Nat) (k : Nat), k ≤ 116 → 116 < k + N → AtW mX6_undo Γ Ω (cpH (upS σ 369 3 (nI (qN S - 1))) (qN S - 1) k) 22 [some (.ref (ad Ω 369)), some (.int (nI k))] [] := by
      intro N
      induction N with
      | zero =>
        intro k hk hN
        exact absurd hN (by omega)
      | succ N ih =>
        intro k hk hN
        have e9 : cpH (upS σ 369 3 (nI (qN S - 1))) (qN S - 1) k 369 3 = nI (qN S - 1) := by rw [cpH_ne (by omega), up_get, if_pos ⟨rfl, rfl⟩]
        refine r_iload_n dX6_undo_22 rfl ?_
        refine r_bipush 116 dX6_undo_23 (by decide) ?_
        refine r_icmp_ge 54 dX6_undo_25 (by decide) (fun c25 => ?_) (fun c25 => ?_)
        ·
          replace c25 := Int32.not_lt.mpr c25
          have n25 := Nat.not_lt.mp (fun q => c25 ((nI_ltI (a := k) (b := 116) (by omega) (by omega)).mpr q))
          refine r_aload_n dX6_undo_54 rfl ?_
          have ek : k = 116 := by omega
          subst ek
          refine fX6_3 jX6_undo_X6 lX6_undo_103 dX6_undo_55 ?_
          rw [e9]
          exact r_iret hQ rfl dX6_undo_58 (reJ_of (undo_md h (by omega)))
        ·
          replace c25 := Int32.not_le.mp c25
          have n25 := (nI_ltI (a := k) (b := 116) (by omega) (by omega)).mp c25
          refine r_aload_n dX6_undo_28 rfl ?_
          refine fX6_0 jX6_undo_X6 lX6_undo_7 dX6_undo_29 ?_
          refine r_iload_n dX6_undo_32 rfl ?_
          refine r_aload_n dX6_undo_33 rfl ?_
          refine fX6_2 jX6_undo_X6 lX6_undo_16 dX6_undo_34 ?_
          refine r_bipush 116 dX6_undo_37 (by decide) ?_
          refine r_aload_n dX6_undo_39 rfl ?_
          refine fX6_3 jX6_undo_X6 lX6_undo_103 dX6_undo_40 ?_
          rw [e9]
          refine r_imul dX6_undo_43 ?_
          refine r_iload_n dX6_undo_44 rfl ?_
          refine r_iadd dX6_undo_45 ?_
          rw [hix]
          refine ldM372 (116 * (qN S - 1) + k) rfl (by omega) dX6_undo_46 ?_
          refine stM370 k rfl (by omega) dX6_undo_47 ?_
          refine r_iinc (nI (k + 1)) dX6_undo_48 rfl (nI_1 k) (by decide) rfl ?_
          refine r_goto 22 dX6_undo_51 (by decide) ?_
          rw [show cpH (upS σ 369 3 (nI (qN S - 1))) (qN S - 1) k 372 = upS σ 369 3 (nI (qN S - 1)) 372 from cpH_ne (by omega), cpH_s]; exact ih (k + 1) (by omega) (by omega)
    rw [← cpH_0 (upS σ 369 3 (nI (qN S - 1))) (qN S - 1)]
    exact L1 117 0 (by omega) (by omega)
  ·
    have n4 := (nI_eq (a := qN S) (b := 0) (by omega) (by omega)).mp c4
    refine r_bipush (-5) dX6_undo_7 (by decide) ?_
    exact r_iret hQ rfl dX6_undo_9 (reJ_of (okMd_of (by rw [oUndo, if_pos n4]) h (keepLw_rfl σ)))

set_option maxRecDepth 100000 in
set_option maxHeartbeats 4000000 in
theorem ctX6_keep (l : Launch) (Ω : Om) (σ : Sg) (S : StV) (h : isMd σ S) : CtW l yX6_keep wsX6_keep (rmD 0) Ω [.ref (ad Ω 369)] σ (reJ (fun r σ1 => okMd σ (oKeep S) r σ1)) := by
  refine ct_intro [some (.ref (ad Ω 369)), none] (by decide) rfl rfl (Nat.le_of_ble_eq_true rfl) (fun Γ hL hQ => ?_)
  show AtW mX6_keep Γ Ω σ 0 [some (.ref (ad Ω 369)), none] []
  have hz := h.1
  have hn := h.1.1
  have hz0 := h.1.2.1
  refine r_iconst 0 dX6_keep_0 (by decide) ?_
  refine r_istore_n dX6_keep_1 (by decide) rfl ?_
  have L1 : ∀ (N : Nat) (k : Nat), k ≤ 116 → 116 < k + N → AtW mX6_keep Γ Ω (cpyA σ 373 370 k) 2 [some (.ref (ad Ω 369)), some (.int (nI k))] [] := by
    intro N
    induction N with
    | zero =>
      intro k hk hN
      exact absurd hN (by omega)
    | succ N ih =>
      intro k hk hN
      refine r_iload_n dX6_keep_2 rfl ?_
      refine r_bipush 116 dX6_keep_3 (by decide) ?_
      refine r_icmp_ge 26 dX6_keep_5 (by decide) (fun c5 => ?_) (fun c5 => ?_)
      ·
        replace c5 := Int32.not_lt.mpr c5
        have n5 := Nat.not_lt.mp (fun q => c5 ((nI_ltI (a := k) (b := 116) (by omega) (by omega)).mpr q))
        have ek : k = 116 := by omega
        subst ek
        refine r_aload_n dX6_keep_26 rfl ?_
        refine r_iconst 1 dX6_keep_27 (by decide) ?_
        refine pX6_5 (Or.inr rfl) jX6_keep_X6 lX6_keep_106 dX6_keep_28 ?_
        refine r_aload_n dX6_keep_31 rfl ?_
        refine fX6_0 jX6_keep_X6 lX6_keep_7 dX6_keep_32 ?_
        refine r_iconst 0 dX6_keep_35 (by decide) ?_
        refine ldM370 0 rfl (by omega) dX6_keep_36 ?_
        rw [up_ne (by omega), cpyA_ne (by omega), hz0]
        exact r_iret hQ rfl dX6_keep_37 (reJ_of (keep_md h))
      ·
        replace c5 := Int32.not_le.mp c5
        have n5 := (nI_ltI (a := k) (b := 116) (by omega) (by omega)).mp c5
        refine r_aload_n dX6_keep_8 rfl ?_
        refine fX6_4 jX6_keep_X6 lX6_keep_19 dX6_keep_9 ?_
        refine r_iload_n dX6_keep_12 rfl ?_
        refine r_aload_n dX6_keep_13 rfl ?_
        refine fX6_0 jX6_keep_X6 lX6_keep_7 dX6_keep_14 ?_
        refine r_iload_n dX6_keep_17 rfl ?_
        refine ldM370 k rfl (by omega) dX6_keep_18 ?_
        refine stM373 k rfl (by omega) dX6_keep_19 ?_
        refine r_iinc (nI (k + 1)) dX6_keep_20 rfl (nI_1 k) (by decide) rfl ?_
        refine r_goto 2 dX6_keep_23 (by decide) ?_
        rw [show cpyA σ 373 370 k 370 = σ 370 from cpyA_ne (by omega), cpyA_s]; exact ih (k + 1) (by omega) (by omega)
  rw [← cpyA_0 σ 373 370]
  exact L1 117 0 (by omega) (by omega)
