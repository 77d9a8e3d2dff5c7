set_option maxRecDepth 100000 in
set_option maxHeartbeats 4000000 in
theorem ctX5_ofBox (l : Launch) (Ω : Om) (σ : Sg) (S : StV) (h : isC σ S) (hY : ∀ k, k < vN (qC S) → vLo (qC S) k 1 = nI (yA (qC S) k) ∧ vHi (qC S) k 1 = nI (yA (qC S) k + yM (qC S) k) ∧ yA (qC S) k + yM (qC S) k ≤ 64) (x w : Int32) : CtW l yX5_ofBox wsX5_ofBox (rmD 7) Ω [.ref (ad Ω 368), .int x, .int w] σ (reJ (okC σ (oOf S x w))) := by
  refine ct_intro [some (.ref (ad Ω 368)), some (.int x), some (.int w), none] (by decide) rfl rfl (Nat.le_of_ble_eq_true rfl) (fun Γ hL hQ => ?_)
  show AtW mX5_ofBox Γ Ω σ 0 [some (.ref (ad Ω 368)), some (.int x), some (.int w), none] []
  obtain ⟨hv, ⟨pm, h0, hh⟩, hp, ht⟩ := id h
  have hn : vN (qC S) ≤ 16 := hv.1
  have hc : σ (iS 0) 1 = nI (vN (qC S)) := hv.2.1
  refine r_aload_n dX5_ofBox_0 rfl ?_
  refine fX5_0 jX5_ofBox_X5 lX5_ofBox_10 dX5_ofBox_1 ?_
  refine r_iload_n dX5_ofBox_4 rfl ?_
  refine r_callVI (iS 0) hL (ctX3_slotOf l Ω _ 0 (vN (qC S)) (by omega) hn hc _) kX5_ofBox_68 (iS_lt (by omega)) ⟨_, _, _, cel_sp (by omega), rfl, rfl⟩ rfl rfl (Nat.le_of_ble_eq_true rfl) dX5_ofBox_5 ?_
  rw [v_slot hv]
  refine r_istore_n dX5_ofBox_8 (by decide) rfl ?_
  refine r_iload_n dX5_ofBox_9 rfl ?_
  refine r_iconst (-1) dX5_ofBox_10 (by decide) ?_
  refine r_icmp_ne 16 dX5_ofBox_11 (by decide) (fun c11 => ?_) (fun c11 => ?_)
  ·
    obtain ⟨k, hk, ek, e2⟩ := loc_some c11
    rw [e2]
    refine r_iload_n dX5_ofBox_16 rfl ?_
    by_cases w0 : w = 0
    ·
      subst w0
      refine r_tableIn 51 68 dX5_ofBox_17 (by decide) (by decide) (by decide) (by decide) ?_
      refine r_aload_n dX5_ofBox_68 rfl ?_
      refine fX5_0 jX5_ofBox_X5 lX5_ofBox_10 dX5_ofBox_69 ?_
      refine fX3_0 0 (by omega) jX5_ofBox_X3 lX5_ofBox_72 dX5_ofBox_72 ?_
      refine r_iload_n dX5_ofBox_75 rfl ?_
      refine r_aaldB 0 (by omega) k rfl (by omega) dX5_ofBox_76 ?_
      refine r_callVI (iBo (bx 0 k)) hL (ctX0_volume l Ω _ (bx 0 k) (bx_lt (by omega) (by omega))) kX5_ofBox_76 (iB_lt (bx_lt (by omega) (by omega))) ⟨_, _, _, cel_box (bx_lt (by omega) (by omega)), rfl, rfl⟩ rfl rfl (Nat.le_of_ble_eq_true rfl) dX5_ofBox_77 ?_
      rw [v_vo hv hk]
      exact r_iret hQ rfl dX5_ofBox_80 (reJ_of (okC_of (by rw [oOf, ek]; exact congrArg (fun z => (z, S)) (ofA_0 _ _)) h (fun _ _ => rfl)))
    by_cases w1 : w = 1
    ·
      subst w1
      refine r_tableIn 64 81 dX5_ofBox_17 (by decide) (by decide) (by decide) (by decide) ?_
      refine r_aload_n dX5_ofBox_81 rfl ?_
      refine r_callVA (368) hL (ctX5_look l Ω _ _ hv) kX5_ofBox_159 (by omega) ⟨_, _, _, rfl, rfl, rfl⟩ rfl rfl (Nat.le_of_ble_eq_true rfl) dX5_ofBox_82 ?_
      intro σ1 hσ1
      refine r_iload_n dX5_ofBox_85 rfl ?_
      refine r_callVI (iP 0) hL (ctX2_hiddenBy l Ω _ 0 k (by omega) (by omega)) kX5_ofBox_162 (iP_lt (by omega)) ⟨_, _, _, cel_pic (by omega), rfl, rfl⟩ rfl rfl (Nat.le_of_ble_eq_true rfl) dX5_ofBox_86 ?_
      rw [(hσ1.1.2.1 k hk).1]
      exact r_iret hQ rfl dX5_ofBox_89 (reJ_of (okC_of (by rw [oOf, ek]; exact congrArg (fun z => (z, S)) (ofA_1 _ _)) (isC_kc h hσ1.2) (keepM_kc hσ1.2)))
    by_cases w2 : w = 2
    ·
      subst w2
      refine r_tableIn 73 90 dX5_ofBox_17 (by decide) (by decide) (by decide) (by decide) ?_
      refine r_aload_n dX5_ofBox_90 rfl ?_
      refine r_callVA (368) hL (ctX5_look l Ω _ _ hv) kX5_ofBox_159 (by omega) ⟨_, _, _, rfl, rfl, rfl⟩ rfl rfl (Nat.le_of_ble_eq_true rfl) dX5_ofBox_91 ?_
      intro σ1 hσ1
      refine r_iload_n dX5_ofBox_94 rfl ?_
      refine r_callVI (iP 0) hL (ctX2_hidersOf l Ω _ 0 (vN (qC S)) (by omega) hn hσ1.1.1 k (by omega)) kX5_ofBox_165 (iP_lt (by omega)) ⟨_, _, _, cel_pic (by omega), rfl, rfl⟩ rfl rfl (Nat.le_of_ble_eq_true rfl) dX5_ofBox_95 ?_
      rw [cntI_c (q := fun j => hasB (HV (qC S) j) k) (fun j hj => by rw [(hσ1.1.2.1 j hj).1])]
      exact r_iret hQ rfl dX5_ofBox_98 (reJ_of (okC_of (by rw [oOf, ek]; exact congrArg (fun z => (z, S)) (ofA_2 _ _)) (isC_kc h hσ1.2) (keepM_kc hσ1.2)))
    by_cases w3 : w = 3
    ·
      subst w3
      refine r_tableIn 82 99 dX5_ofBox_17 (by decide) (by decide) (by decide) (by decide) ?_
      refine r_aload_n dX5_ofBox_99 rfl ?_
      refine r_callVA (368) hL (ctX5_look l Ω _ _ hv) kX5_ofBox_159 (by omega) ⟨_, _, _, rfl, rfl, rfl⟩ rfl rfl (Nat.le_of_ble_eq_true rfl) dX5_ofBox_100 ?_
      intro σ1 hσ1
      refine fX2_6 0 (by omega) jX5_ofBox_X2 lX5_ofBox_168 dX5_ofBox_103 ?_
      refine r_iload_n dX5_ofBox_106 rfl ?_
      refine ldP4 0 (by omega) k rfl (by omega) dX5_ofBox_107 ?_
      rw [(hσ1.1.2.1 k hk).2.2]
      exact r_iret hQ rfl dX5_ofBox_108 (reJ_of (okC_of (by rw [oOf, ek]; exact congrArg (fun z => (z, S)) (ofA_3 _ _)) (isC_kc h hσ1.2) (keepM_kc hσ1.2)))
    by_cases w4 : w = 4
    ·
      subst w4
      refine r_tableIn 92 109 dX5_ofBox_17 (by decide) (by decide) (by decide) (by decide) ?_
      refine r_aload_n dX5_ofBox_109 rfl ?_
      refine r_callVA (368) hL (ctX5_look l Ω _ _ hv) kX5_ofBox_159 (by omega) ⟨_, _, _, rfl, rfl, rfl⟩ rfl rfl (Nat.le_of_ble_eq_true rfl) dX5_ofBox_110 ?_
      intro σ1 hσ1
      refine r_iload_n dX5_ofBox_113 rfl ?_
      refine r_callVI (iP 0) hL (ctX2_shortestRingOf l Ω _ 0 (vN (qC S)) (by omega) hn hσ1.1.1 k (by omega)) kX5_ofBox_171 (iP_lt (by omega)) ⟨_, _, _, cel_pic (by omega), rfl, rfl⟩ rfl rfl (Nat.le_of_ble_eq_true rfl) dX5_ofBox_114 ?_
      rw [srO_c hk (fun j hj => (hσ1.1.2.1 j hj).1)]
      exact r_iret hQ rfl dX5_ofBox_117 (reJ_of (okC_of (by rw [oOf, ek]; exact congrArg (fun z => (z, S)) (ofA_4 _ _)) (isC_kc h hσ1.2) (keepM_kc hσ1.2)))
    by_cases w5 : w = 5
    ·
      subst w5
      refine r_tableIn 101 118 dX5_ofBox_17 (by decide) (by decide) (by decide) (by decide) ?_
      refine r_aload_n dX5_ofBox_118 rfl ?_
      refine fX5_0 jX5_ofBox_X5 lX5_ofBox_10 dX5_ofBox_119 ?_
      refine r_iload_n dX5_ofBox_122 rfl ?_
      refine r_callVI (iS 0) hL (ctX3_supportsOf l Ω _ 0 (vN (qC S)) (by omega) hn hc k (by omega)) kX5_ofBox_174 (iS_lt (by omega)) ⟨_, _, _, cel_sp (by omega), rfl, rfl⟩ rfl rfl (Nat.le_of_ble_eq_true rfl) dX5_ofBox_123 ?_
      rw [v_sup hv hk]
      exact r_iret hQ rfl dX5_ofBox_126 (reJ_of (okC_of (by rw [oOf, ek]; exact congrArg (fun z => (z, S)) (ofA_5 _ _)) h (fun _ _ => rfl)))
    by_cases w6 : w = 6
    ·
      subst w6
      refine r_tableIn 110 127 dX5_ofBox_17 (by decide) (by decide) (by decide) (by decide) ?_
      refine r_aload_n dX5_ofBox_127 rfl ?_
      refine fX5_0 jX5_ofBox_X5 lX5_ofBox_10 dX5_ofBox_128 ?_
      refine r_iload_n dX5_ofBox_131 rfl ?_
      refine r_callVI (iS 0) hL (ctX3_boxesBelow l Ω _ 0 (vN (qC S)) (by omega) hn hc k (by omega)) kX5_ofBox_177 (iS_lt (by omega)) ⟨_, _, _, cel_sp (by omega), rfl, rfl⟩ rfl rfl (Nat.le_of_ble_eq_true rfl) dX5_ofBox_132 ?_
      rw [v_bel hv hk]
      exact r_iret hQ rfl dX5_ofBox_135 (reJ_of (okC_of (by rw [oOf, ek]; exact congrArg (fun z => (z, S)) (ofA_6 _ _)) h (fun _ _ => rfl)))
    by_cases w7 : w = 7
    ·
      subst w7
      refine r_tableIn 119 136 dX5_ofBox_17 (by decide) (by decide) (by decide) (by decide) ?_
      refine r_aload_n dX5_ofBox_136 rfl ?_
      refine fX5_0 jX5_ofBox_X5 lX5_ofBox_10 dX5_ofBox_137 ?_
      refine r_iload_n dX5_ofBox_140 rfl ?_
      refine r_callVI (iS 0) hL (ctX3_shadowOn l Ω _ 0 (vN (qC S)) (by omega) hn hc k (by omega) (yA (qC S) k) (yM (qC S) k) (hY k hk).2.2 (by rw [v_lo hv hk 1 (by omega)]; exact (hY k hk).1) (by rw [v_hi hv hk 1 (by omega)]; exact (hY k hk).2.1)) kX5_ofBox_180 (iS_lt (by omega)) ⟨_, _, _, cel_sp (by omega), rfl, rfl⟩ rfl rfl (Nat.le_of_ble_eq_true rfl) dX5_ofBox_141 ?_
      rw [sumI_c (q := fun i => bcI (shG (vLo (qC S)) (vHi (qC S)) k (vN (qC S)) (yA (qC S) k + i) &&& rwG (vLo (qC S)) (vHi (qC S)) k)) (fun i hi => by rw [v_shR hv hk, v_rw hv hk])]
      exact r_iret hQ rfl dX5_ofBox_144 (reJ_of (okC_of (by rw [oOf, ek]; exact congrArg (fun z => (z, S)) (ofA_7 _ _)) h (fun _ _ => rfl)))
    by_cases w8 : w = 8
    ·
      subst w8
      refine r_tableIn 128 145 dX5_ofBox_17 (by decide) (by decide) (by decide) (by decide) ?_
      refine r_aload_n dX5_ofBox_145 rfl ?_
      refine fX5_0 jX5_ofBox_X5 lX5_ofBox_10 dX5_ofBox_146 ?_
      refine fX3_0 0 (by omega) jX5_ofBox_X3 lX5_ofBox_72 dX5_ofBox_149 ?_
      refine r_iload_n dX5_ofBox_152 rfl ?_
      refine r_aaldB 0 (by omega) k rfl (by omega) dX5_ofBox_153 ?_
      refine fX0_1 (bx 0 k) (bx_lt (by omega) (by omega)) jX5_ofBox_X0 lX5_ofBox_88 dX5_ofBox_154 ?_
      refine r_iconst 2 dX5_ofBox_157 (by decide) ?_
      refine ldL (bx 0 k) (bx_lt (by omega) (by omega)) 2 rfl (by omega) dX5_ofBox_158 ?_
      rw [v_lo hv hk 2 (by omega)]
      refine r_if_eq 173 dX5_ofBox_159 (by decide) (fun c159 => ?_) (fun c159 => ?_)
      ·
        refine r_iconst 1 dX5_ofBox_173 (by decide) ?_
        refine r_goto 178 dX5_ofBox_174 (by decide) ?_
        exact r_iret hQ rfl dX5_ofBox_178 (reJ_of (okC_of (by rw [oOf, ek]; exact congrArg (fun z => (z, S)) ((ofA_8 _ _).trans (if_pos c159))) h (fun _ _ => rfl)))
      ·
        refine r_aload_n dX5_ofBox_162 rfl ?_
        refine fX5_0 jX5_ofBox_X5 lX5_ofBox_10 dX5_ofBox_163 ?_
        refine r_iload_n dX5_ofBox_166 rfl ?_
        refine r_callVI (iS 0) hL (ctX3_supportsOf l Ω _ 0 (vN (qC S)) (by omega) hn hc k (by omega)) kX5_ofBox_174 (iS_lt (by omega)) ⟨_, _, _, cel_sp (by omega), rfl, rfl⟩ rfl rfl (Nat.le_of_ble_eq_true rfl) dX5_ofBox_167 ?_
        rw [v_sup hv hk]
        refine r_if_le 177 dX5_ofBox_170 (by decide) (fun c170 => ?_) (fun c170 => ?_)
        ·
          replace c170 := Int32.not_lt.mpr c170
          refine r_iconst 0 dX5_ofBox_177 (by decide) ?_
          exact r_iret hQ rfl dX5_ofBox_178 (reJ_of (okC_of (by rw [oOf, ek]; exact congrArg (fun z => (z, S)) ((ofA_8 _ _).trans ((if_neg c159).trans (if_neg c170)))) h (fun _ _ => rfl)))
        ·
          replace c170 := Int32.not_le.mp c170
          refine r_iconst 1 dX5_ofBox_173 (by decide) ?_
          refine r_goto 178 dX5_ofBox_174 (by decide) ?_
          exact r_iret hQ rfl dX5_ofBox_178 (reJ_of (okC_of (by rw [oOf, ek]; exact congrArg (fun z => (z, S)) ((ofA_8 _ _).trans ((if_neg c159).trans (if_pos c170)))) h (fun _ _ => rfl)))
    have hw : ∀ j, j ≤ 8 → ¬ w = nI j := by
      intro j hj
      rcases (show j = 0 ∨ j = 1 ∨ j = 2 ∨ j = 3 ∨ j = 4 ∨ j = 5 ∨ j = 6 ∨ j = 7 ∨ j = 8 by omega) with rfl | rfl | rfl | rfl | rfl | rfl | rfl | rfl | rfl
      · exact w0
      · exact w1
      · exact w2
      · exact w3
      · exact w4
      · exact w5
      · exact w6
      · exact w7
      · exact w8
    refine r_tableOut 179 dX5_ofBox_17 (by simpa using sw_out (m := 8) (by omega) hw) (by decide) ?_
    refine r_bipush (-2) dX5_ofBox_179 (by decide) ?_
    exact r_iret hQ rfl dX5_ofBox_181 (reJ_of (okC_of (by rw [oOf, ek]; exact congrArg (fun z => (z, S)) (ofA_d hw)) h (fun _ _ => rfl)))
  ·
    have ek := loc_none hn c11
    refine r_iconst (-1) dX5_ofBox_14 (by decide) ?_
    exact r_iret hQ rfl dX5_ofBox_15 (reJ_of (okC_of (by rw [oOf, ek]) h (fun _ _ => rfl)))

set_option maxRecDepth 100000 in
set_option maxHeartbeats 4000000 in
theorem ctX5_total (l : Launch) (Ω : Om) (σ : Sg) (S : StV) (h : isC σ S) (hY : ∀ k, k < vN (qC S) → vLo (qC S) k 1 = nI (yA (qC S) k) ∧ vHi (qC S) k 1 = nI (yA (qC S) k + yM (qC S) k) ∧ yA (qC S) k + yM (qC S) k ≤ 64) (w : Int32) : CtW l yX5_total wsX5_total (rmD 7) Ω [.ref (ad Ω 368), .int w] σ (reJ (okC σ (oTotal S w))) := by
  refine ct_intro [some (.ref (ad Ω 368)), some (.int w)] (by decide) rfl rfl (Nat.le_of_ble_eq_true rfl) (fun Γ hL hQ => ?_)
  show AtW mX5_total Γ Ω σ 0 [some (.ref (ad Ω 368)), some (.int w)] []
  obtain ⟨hv, ⟨pm, h0, hh⟩, hp, ht⟩ := id h
  have hn : vN (qC S) ≤ 16 := hv.1
  have hc : σ (iS 0) 1 = nI (vN (qC S)) := hv.2.1
  refine r_iload_n dX5_total_0 rfl ?_
  by_cases w0 : w = 0
  ·
    subst w0
    refine r_tableIn 67 68 dX5_total_1 (by decide) (by decide) (by decide) (by decide) ?_
    refine r_aload_n dX5_total_68 rfl ?_
    refine fX5_0 jX5_total_X5 lX5_total_10 dX5_total_69 ?_
    refine fX3_1 0 (by omega) jX5_total_X3 lX5_total_118 dX5_total_72 ?_
    rw [hc]
    exact r_iret hQ rfl dX5_total_75 (reJ_of (okC_of (congrArg (fun z => (z, S)) (toA_0 S)) h (fun _ _ => rfl)))
  by_cases w1 : w = 1
  ·
    subst w1
    refine r_tableIn 75 76 dX5_total_1 (by decide) (by decide) (by decide) (by decide) ?_
    refine r_aload_n dX5_total_76 rfl ?_
    refine fX5_0 jX5_total_X5 lX5_total_10 dX5_total_77 ?_
    refine fX3_2 0 (by omega) jX5_total_X3 lX5_total_190 dX5_total_80 ?_
    rw [show σ (iS 0) 2 = vX (qC S) from hv.2.2.1]
    exact r_iret hQ rfl dX5_total_83 (reJ_of (okC_of (congrArg (fun z => (z, S)) (toA_1 S)) h (fun _ _ => rfl)))
  by_cases w2 : w = 2
  ·
    subst w2
    refine r_tableIn 83 84 dX5_total_1 (by decide) (by decide) (by decide) (by decide) ?_
    refine r_aload_n dX5_total_84 rfl ?_
    refine r_callVA (368) hL (ctX5_look l Ω _ _ hv) kX5_total_159 (by omega) ⟨_, _, _, rfl, rfl, rfl⟩ rfl rfl (Nat.le_of_ble_eq_true rfl) dX5_total_85 ?_
    intro σ1 hσ1
    refine r_callVI (iP 0) hL (ctX2_hidings l Ω _ 0 (vN (qC S)) (by omega) hn hσ1.1.1) kX5_total_193 (iP_lt (by omega)) ⟨_, _, _, cel_pic (by omega), rfl, rfl⟩ rfl rfl (Nat.le_of_ble_eq_true rfl) dX5_total_88 ?_
    rw [sumI_c (q := fun k => bcI (HV (qC S) k)) (fun j hj => by rw [(hσ1.1.2.1 j hj).1])]
    exact r_iret hQ rfl dX5_total_91 (reJ_of (okC_of (congrArg (fun z => (z, S)) (toA_2 S)) (isC_kc h hσ1.2) (keepM_kc hσ1.2)))
  by_cases w3 : w = 3
  ·
    subst w3
    refine r_tableIn 91 92 dX5_total_1 (by decide) (by decide) (by decide) (by decide) ?_
    refine r_aload_n dX5_total_92 rfl ?_
    refine r_callVA (368) hL (ctX5_look l Ω _ _ hv) kX5_total_159 (by omega) ⟨_, _, _, rfl, rfl, rfl⟩ rfl rfl (Nat.le_of_ble_eq_true rfl) dX5_total_93 ?_
    intro σ1 hσ1
    refine fX2_5 0 (by omega) jX5_total_X2 lX5_total_196 dX5_total_96 ?_
    rw [hσ1.1.2.2.2.1]
    exact r_iret hQ rfl dX5_total_99 (reJ_of (okC_of (congrArg (fun z => (z, S)) (toA_3 S)) (isC_kc h hσ1.2) (keepM_kc hσ1.2)))
  by_cases w4 : w = 4
  ·
    subst w4
    refine r_tableIn 99 100 dX5_total_1 (by decide) (by decide) (by decide) (by decide) ?_
    refine r_aload_n dX5_total_100 rfl ?_
    refine r_callVA (368) hL (ctX5_look l Ω _ _ hv) kX5_total_159 (by omega) ⟨_, _, _, rfl, rfl, rfl⟩ rfl rfl (Nat.le_of_ble_eq_true rfl) dX5_total_101 ?_
    intro σ1 hσ1
    refine r_callVI (iP 0) hL (ctX2_boxesInRings l Ω _ 0 (vN (qC S)) (by omega) hn hσ1.1.1) kX5_total_199 (iP_lt (by omega)) ⟨_, _, _, cel_pic (by omega), rfl, rfl⟩ rfl rfl (Nat.le_of_ble_eq_true rfl) dX5_total_104 ?_
    rw [cntI_c (q := fun k => hasB (CVv (qC S) k) k) (fun j hj => by rw [(hσ1.1.2.1 j hj).2.1])]
    exact r_iret hQ rfl dX5_total_107 (reJ_of (okC_of (congrArg (fun z => (z, S)) (toA_4 S)) (isC_kc h hσ1.2) (keepM_kc hσ1.2)))
  by_cases w5 : w = 5
  ·
    subst w5
    refine r_tableIn 107 108 dX5_total_1 (by decide) (by decide) (by decide) (by decide) ?_
    refine r_aload_n dX5_total_108 rfl ?_
    refine r_callVA (368) hL (ctX5_look l Ω _ _ hv) kX5_total_159 (by omega) ⟨_, _, _, rfl, rfl, rfl⟩ rfl rfl (Nat.le_of_ble_eq_true rfl) dX5_total_109 ?_
    intro σ1 hσ1
    refine r_callVI (iP 0) hL (ctX2_shortestRing l Ω _ 0 (vN (qC S)) (by omega) hn hσ1.1.1) kX5_total_202 (iP_lt (by omega)) ⟨_, _, _, cel_pic (by omega), rfl, rfl⟩ rfl rfl (Nat.le_of_ble_eq_true rfl) dX5_total_112 ?_
    rw [srI_c (fun j hj => (hσ1.1.2.1 j hj).1) _ (Nat.le_refl _)]
    exact r_iret hQ rfl dX5_total_115 (reJ_of (okC_of (congrArg (fun z => (z, S)) (toA_5 S)) (isC_kc h hσ1.2) (keepM_kc hσ1.2)))
  by_cases w6 : w = 6
  ·
    subst w6
    refine r_tableIn 115 116 dX5_total_1 (by decide) (by decide) (by decide) (by decide) ?_
    refine r_aload_n dX5_total_116 rfl ?_
    refine r_callVA (368) hL (ctX5_look l Ω _ _ hv) kX5_total_159 (by omega) ⟨_, _, _, rfl, rfl, rfl⟩ rfl rfl (Nat.le_of_ble_eq_true rfl) dX5_total_117 ?_
    intro σ1 hσ1
    refine r_callVI (iP 0) hL (ctX2_greatestLayer l Ω _ 0 (vN (qC S)) (by omega) hn hσ1.1.1) kX5_total_205 (iP_lt (by omega)) ⟨_, _, _, cel_pic (by omega), rfl, rfl⟩ rfl rfl (Nat.le_of_ble_eq_true rfl) dX5_total_120 ?_
    rw [glI_c (fun j hj => (hσ1.1.2.1 j hj).2.2)]
    exact r_iret hQ rfl dX5_total_123 (reJ_of (okC_of (congrArg (fun z => (z, S)) (toA_6 S)) (isC_kc h hσ1.2) (keepM_kc hσ1.2)))
  by_cases w7 : w = 7
  ·
    subst w7
    refine r_tableIn 123 124 dX5_total_1 (by decide) (by decide) (by decide) (by decide) ?_
    refine r_aload_n dX5_total_124 rfl ?_
    refine fX5_0 jX5_total_X5 lX5_total_10 dX5_total_125 ?_
    refine fX3_3 0 (by omega) jX5_total_X3 lX5_total_208 dX5_total_128 ?_
    rw [show σ (iS 0) 3 = vSp (qC S) from hv.2.2.2.1]
    exact r_iret hQ rfl dX5_total_131 (reJ_of (okC_of (congrArg (fun z => (z, S)) (toA_7 S)) h (fun _ _ => rfl)))
  by_cases w8 : w = 8
  ·
    subst w8
    refine r_tableIn 131 132 dX5_total_1 (by decide) (by decide) (by decide) (by decide) ?_
    refine r_aload_n dX5_total_132 rfl ?_
    refine fX5_0 jX5_total_X5 lX5_total_10 dX5_total_133 ?_
    refine r_callVI (iS 0) hL (ctX3_volume l Ω _ 0 (vN (qC S)) (by omega) hn hc) kX5_total_211 (iS_lt (by omega)) ⟨_, _, _, cel_sp (by omega), rfl, rfl⟩ rfl rfl (Nat.le_of_ble_eq_true rfl) dX5_total_136 ?_
    rw [v_vol hv]
    exact r_iret hQ rfl dX5_total_139 (reJ_of (okC_of (congrArg (fun z => (z, S)) (toA_8 S)) h (fun _ _ => rfl)))
  by_cases w9 : w = 9
  ·
    subst w9
    refine r_tableIn 139 140 dX5_total_1 (by decide) (by decide) (by decide) (by decide) ?_
    refine r_aload_n dX5_total_140 rfl ?_
    refine fX5_0 jX5_total_X5 lX5_total_10 dX5_total_141 ?_
    refine r_callVI (iS 0) hL (ctX3_shadow l Ω _ 0 (vN (qC S)) (by omega) hn hc (yA (qC S)) (yM (qC S)) (fun u hu => ⟨(hY u hu).2.2, by rw [v_lo hv hu 1 (by omega)]; exact (hY u hu).1, by rw [v_hi hv hu 1 (by omega)]; exact (hY u hu).2.1⟩)) kX5_total_212 (iS_lt (by omega)) ⟨_, _, _, cel_sp (by omega), rfl, rfl⟩ rfl rfl (Nat.le_of_ble_eq_true rfl) dX5_total_144 ?_
    rw [sumI_c (q := shaV (qC S)) (fun u hu => sumI_c (fun i hi => by rw [v_shR hv hu, v_rw hv hu]))]
    exact r_iret hQ rfl dX5_total_147 (reJ_of (okC_of (congrArg (fun z => (z, S)) (toA_9 S)) h (fun _ _ => rfl)))
  by_cases w10 : w = 10
  ·
    subst w10
    refine r_tableIn 147 148 dX5_total_1 (by decide) (by decide) (by decide) (by decide) ?_
    refine r_aload_n dX5_total_148 rfl ?_
    refine fX5_0 jX5_total_X5 lX5_total_10 dX5_total_149 ?_
    refine fX3_4 0 (by omega) jX5_total_X3 lX5_total_132 dX5_total_152 ?_
    rw [show σ (iS 0) 4 = vRu (qC S) from hv.2.2.2.2.1]
    exact r_iret hQ rfl dX5_total_155 (reJ_of (okC_of (congrArg (fun z => (z, S)) (toA_10 S)) h (fun _ _ => rfl)))
  by_cases w11 : w = 11
  ·
    subst w11
    refine r_tableIn 155 156 dX5_total_1 (by decide) (by decide) (by decide) (by decide) ?_
    refine r_aload_n dX5_total_156 rfl ?_
    refine fX5_4 jX5_total_X5 lX5_total_25 dX5_total_157 ?_
    refine fX1_1 jX5_total_X1 lX5_total_152 dX5_total_160 ?_
    rw [h0.1]
    exact r_iret hQ rfl dX5_total_163 (reJ_of (okC_of (congrArg (fun z => (z, S)) (toA_11 S)) h (fun _ _ => rfl)))
  by_cases w12 : w = 12
  ·
    subst w12
    refine r_tableIn 163 164 dX5_total_1 (by decide) (by decide) (by decide) (by decide) ?_
    refine r_aload_n dX5_total_164 rfl ?_
    refine fX5_5 jX5_total_X5 lX5_total_32 dX5_total_165 ?_
    refine fX4_1 jX5_total_X4 lX5_total_139 dX5_total_168 ?_
    rw [ht.1]
    exact r_iret hQ rfl dX5_total_171 (reJ_of (okC_of (congrArg (fun z => (z, S)) (toA_12 S)) h (fun _ _ => rfl)))
  have hw : ∀ j, j ≤ 12 → ¬ w = nI j := by
    intro j hj
    rcases (show j = 0 ∨ j = 1 ∨ j = 2 ∨ j = 3 ∨ j = 4 ∨ j = 5 ∨ j = 6 ∨ j = 7 ∨ j = 8 ∨ j = 9 ∨ j = 10 ∨ j = 11 ∨ j = 12 by omega) with rfl | rfl | rfl | rfl | rfl | rfl | rfl | rfl | rfl | rfl | rfl | rfl | rfl
    · exact w0
    · exact w1
    · exact w2
    · exact w3
    · exact w4
    · exact w5
    · exact w6
    · exact w7
    · exact w8
    · exact w9
    · exact w10
    · exact w11
    · exact w12
  refine r_tableOut 172 dX5_total_1 (by simpa using sw_out (m := 12) (by omega) hw) (by decide) ?_
  refine r_bipush (-2) dX5_total_172 (by decide) ?_
  exact r_iret hQ rfl dX5_total_174 (reJ_of (okC_of (congrArg (fun z => (z, S)) (toA_d hw)) h (fun _ _ => rfl)))
