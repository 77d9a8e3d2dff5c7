set_option maxRecDepth 100000 in
set_option maxHeartbeats 4000000 in
theorem ctX6_total (l : Launch) (Ω : Om) (σ : Sg) (S : StV) (h : isMd σ S) (hg : gdV (qC S)) (p1 : peOn (qC S)) (p2 : peLy (qC S)) (p3 : peSr (qC S)) (p3a : peSa (qC S)) (p4 : peSh (qC S)) (p5 : peRg (qC S)) (p6 : peDr (qC S)) (w : Int32) : CtW l yX6_total wsX6_total (rmD 7) Ω [.ref (ad Ω 369), .int w] σ (reJ (fun r σ1 => okMd σ (oTotal S w) r σ1)) := by
  refine ct_intro [some (.ref (ad Ω 369)), some (.int w), none, none, none, none, none] (by decide) rfl rfl (Nat.le_of_ble_eq_true rfl) (fun Γ hL hQ => ?_)
  show AtW mX6_total Γ Ω σ 0 [some (.ref (ad Ω 369)), some (.int w), none, none, none, none, none] []
  have hz := h.1
  have hn := h.1.1
  have hz0 := h.1.2.1
  have hu := hg.1
  have hru := hg.2.1
  have hl := gd_lt hg
  refine r_aload_n dX6_total_0 rfl ?_
  refine r_callVV (369) hL (ctX6_findHiding l Ω _ (qC S) hz) kX6_total_141 (by omega) ⟨_, _, _, rfl, rfl, rfl⟩ rfl rfl (Nat.le_of_ble_eq_true rfl) dX6_total_1 ?_
  intro σ1 hσ1
  have hz1 : isZ (σ1 370) (qC S) := by rw [hσ1.2 370 (by omega) (by omega)]; exact hz
  have hh1 : ∀ k, k < vN (qC S) → σ1 375 k = HV (qC S) k := fun k hk => (hσ1.1 k hk).1
  have hc1 : ∀ k, k < vN (qC S) → σ1 376 k = CVv (qC S) k := fun k hk => (hσ1.1 k hk).2
  have k1 := fhF_kr hσ1.2
  refine r_aload_n dX6_total_4 rfl ?_
  refine r_callVV (369) hL (ctX6_findLayers l Ω _ (qC S) hz1 hh1 hc1) kX6_total_193 (by omega) ⟨_, _, _, rfl, rfl, rfl⟩ rfl rfl (Nat.le_of_ble_eq_true rfl) dX6_total_5 ?_
  intro σ2 hσ2
  have hz2 : isZ (σ2 370) (qC S) := by rw [hσ2.2 370 (by omega)]; exact hz1
  have hh2 : ∀ k, k < vN (qC S) → σ2 375 k = HV (qC S) k := fun k hk => by rw [hσ2.2 375 (by omega)]; exact hh1 k hk
  have hc2 : ∀ k, k < vN (qC S) → σ2 376 k = CVv (qC S) k := fun k hk => by rw [hσ2.2 376 (by omega)]; exact hc1 k hk
  have k2 := keepRf_tr k1 (lyI_kr hσ2)
  have hl2 := hσ2.1
  refine r_aload_n dX6_total_8 rfl ?_
  refine r_iconst 0 dX6_total_9 (by decide) ?_
  refine r_callVV (369) hL (ctX6_drawAll l Ω _ (qC S) hz2 hh2 hru _) kX6_total_206 (by omega) ⟨_, _, _, rfl, rfl, rfl⟩ rfl rfl (Nat.le_of_ble_eq_true rfl) dX6_total_10 ?_
  intro σ3 hσ3
  have k3 := keepRf_tr k2 (daI_kr hσ3)
  have hz3 : isZ (σ3 370) (qC S) := keepRf_z hz k3
  have hd12 : σ3 369 12 = nI (DCv (qC S)) := by rw [hσ3.2.1, p6.1]
  have hst : σ3 369 3 = nI (qN S) := by rw [k3.2 3 (by omega) (by omega) (by omega)]; exact h.2.1.1
  have htx : σ3 369 7 = nI (qL S) := by rw [k3.2 7 (by omega) (by omega) (by omega)]; exact h.2.2.2.1
  refine r_iconst 0 dX6_total_13 (by decide) ?_
  refine r_istore_n dX6_total_14 (by decide) rfl ?_
  refine r_bipush (-5) dX6_total_15 (by decide) ?_
  refine r_istore_n dX6_total_17 (by decide) rfl ?_
  refine r_iconst 0 dX6_total_18 (by decide) ?_
  refine r_istore dX6_total_19 (by decide) rfl ?_
  refine r_iconst 0 dX6_total_21 (by decide) ?_
  refine r_istore dX6_total_22 (by decide) rfl ?_
  refine r_iconst 0 dX6_total_24 (by decide) ?_
  refine r_istore dX6_total_25 (by decide) rfl ?_
  have L1 : ∀ (N : Nat) (k : Nat) (x2 x3 x4 x5 : Int32), k ≤ vN (qC S) → x2 = sumI (fun k => onI (HV (qC S) k)) k → x3 = glI (lyX (qC S)) k → x4 = sumI (voG (vLo (qC S)) (vHi (qC S))) k → x5 = sumI (fun k => if w = 9 then shX (qC S) k else 0) k → vN (qC S) < k + N → AtW mX6_total Γ Ω σ3 27 [some (.ref (ad Ω 369)), some (.int w), some (.int x2), some (.int x3), some (.int x4), some (.int x5), some (.int (nI k))] [] := by
    intro N
    induction N with
    | zero =>
      intro k x2 x3 x4 x5 hk hx2 hx3 hx4 hx5 hN
      exact absurd hN (by omega)
    | succ N ih =>
      intro k x2 x3 x4 x5 hk hx2 hx3 hx4 hx5 hN
      refine r_iload dX6_total_27 rfl ?_
      refine r_aload_n dX6_total_29 rfl ?_
      refine fX6_0 jX6_total_X6 lX6_total_7 dX6_total_30 ?_
      refine r_iconst 0 dX6_total_33 (by decide) ?_
      refine ldM370 0 rfl (by omega) dX6_total_34 ?_
      rw [hz3.2.1]
      refine r_icmp_ge 112 dX6_total_35 (by decide) (fun c35 => ?_) (fun c35 => ?_)
      ·
        replace c35 := Int32.not_lt.mpr c35
        have n35 := Nat.not_lt.mp (fun q => c35 ((nI_ltI (a := k) (b := vN (qC S)) (by omega) (by omega)).mpr q))
        have ek : k = vN (qC S) := by omega
        subst ek
        refine r_iload_n dX6_total_112 rfl ?_
        by_cases w0 : w = 0
        ·
          subst w0
          refine r_tableIn 67 180 dX6_total_113 (by decide) (by decide) (by decide) (by decide) ?_
          refine r_aload_n dX6_total_180 rfl ?_
          refine fX6_0 jX6_total_X6 lX6_total_7 dX6_total_181 ?_
          refine r_iconst 0 dX6_total_184 (by decide) ?_
          refine ldM370 0 rfl (by omega) dX6_total_185 ?_
          rw [hz3.2.1]
          exact r_iret hQ rfl dX6_total_186 (reJ_of (okMd_ro h k3 ((toA_0 S).symm)))
        by_cases w1 : w = 1
        ·
          subst w1
          refine r_tableIn 74 187 dX6_total_113 (by decide) (by decide) (by decide) (by decide) ?_
          refine r_aload_n dX6_total_187 rfl ?_
          refine fX6_0 jX6_total_X6 lX6_total_7 dX6_total_188 ?_
          refine r_iconst 1 dX6_total_191 (by decide) ?_
          refine ldM370 1 rfl (by omega) dX6_total_192 ?_
          rw [hz3.2.2.1]
          exact r_iret hQ rfl dX6_total_193 (reJ_of (okMd_ro h k3 ((toA_1 S).symm)))
        by_cases w2 : w = 2
        ·
          subst w2
          refine r_tableIn 81 194 dX6_total_113 (by decide) (by decide) (by decide) (by decide) ?_
          refine r_iload_n dX6_total_194 rfl ?_
          exact r_iret hQ rfl dX6_total_195 (reJ_of (okMd_ro h k3 ((hx2.trans (sumI_cR p1)).trans (toA_2 S).symm)))
        by_cases w3 : w = 3
        ·
          subst w3
          refine r_tableIn 83 196 dX6_total_113 (by decide) (by decide) (by decide) (by decide) ?_
          refine r_aload_n dX6_total_196 rfl ?_
          refine fX6_12 jX6_total_X6 lX6_total_96 dX6_total_197 ?_
          rw [hd12]
          exact r_iret hQ rfl dX6_total_200 (reJ_of (okMd_ro h k3 ((toA_3 S).symm)))
        by_cases w4 : w = 4
        ·
          subst w4
          refine r_tableIn 88 201 dX6_total_113 (by decide) (by decide) (by decide) (by decide) ?_
          refine r_aload_n dX6_total_201 rfl ?_
          refine r_callVI (369) hL (ctX6_ringBoxes l Ω _ (qC S) hz3 (fun k hk => by rw [hσ3.2.2.2.1 376 (by omega) (by omega)]; exact hc2 k hk)) kX6_total_89 (by omega) ⟨_, _, _, rfl, rfl, rfl⟩ rfl rfl (Nat.le_of_ble_eq_true rfl) dX6_total_202 ?_
          refine r_callSI hL (ctX6_ones l Ω _ _) kX6_total_156 rfl rfl (Nat.le_of_ble_eq_true rfl) dX6_total_205 ?_
          exact r_iret hQ rfl dX6_total_208 (reJ_of (okMd_ro h k3 (p5.trans (toA_4 S).symm)))
        by_cases w5 : w = 5
        ·
          subst w5
          refine r_tableIn 96 209 dX6_total_113 (by decide) (by decide) (by decide) (by decide) ?_
          refine r_aload_n dX6_total_209 rfl ?_
          refine r_callVI (369) hL (ctX6_shortestOfAll l Ω _ (qC S) hz3 (fun k hk => by rw [hσ3.2.2.2.1 375 (by omega) (by omega)]; exact hh2 k hk) (fun k hk => by rw [hσ3.2.2.2.1 376 (by omega) (by omega)]; exact hc2 k hk) (fun k hk q => ((p3 k hk).1 q).1)) kX6_total_210 (by omega) ⟨_, _, _, rfl, rfl, rfl⟩ rfl rfl (Nat.le_of_ble_eq_true rfl) dX6_total_210 ?_
          exact r_iret hQ rfl dX6_total_213 (reJ_of (okMd_ro h k3 (p3a.trans (toA_5 S).symm)))
        by_cases w6 : w = 6
        ·
          subst w6
          refine r_tableIn 101 214 dX6_total_113 (by decide) (by decide) (by decide) (by decide) ?_
          refine r_iload_n dX6_total_214 rfl ?_
          exact r_iret hQ rfl dX6_total_215 (reJ_of (okMd_ro h k3 ((hx3.trans (glI_c p2)).trans (toA_6 S).symm)))
        by_cases w7 : w = 7
        ·
          subst w7
          refine r_tableIn 103 216 dX6_total_113 (by decide) (by decide) (by decide) (by decide) ?_
          refine r_aload_n dX6_total_216 rfl ?_
          refine fX6_0 jX6_total_X6 lX6_total_7 dX6_total_217 ?_
          refine r_iconst 2 dX6_total_220 (by decide) ?_
          refine ldM370 2 rfl (by omega) dX6_total_221 ?_
          rw [hz3.2.2.2.1]
          exact r_iret hQ rfl dX6_total_222 (reJ_of (okMd_ro h k3 ((toA_7 S).symm)))
        by_cases w8 : w = 8
        ·
          subst w8
          refine r_tableIn 110 223 dX6_total_113 (by decide) (by decide) (by decide) (by decide) ?_
          refine r_iload dX6_total_223 rfl ?_
          exact r_iret hQ rfl dX6_total_225 (reJ_of (okMd_ro h k3 (hx4.trans (toA_8 S).symm)))
        by_cases w9 : w = 9
        ·
          subst w9
          refine r_tableIn 113 226 dX6_total_113 (by decide) (by decide) (by decide) (by decide) ?_
          refine r_iload dX6_total_226 rfl ?_
          exact r_iret hQ rfl dX6_total_228 (reJ_of (okMd_ro h k3 ((hx5.trans (sumI_cR (fun k hk => (if_pos rfl).trans (p4 k hk)))).trans (toA_9 S).symm)))
        by_cases w10 : w = 10
        ·
          subst w10
          refine r_tableIn 116 229 dX6_total_113 (by decide) (by decide) (by decide) (by decide) ?_
          refine r_aload_n dX6_total_229 rfl ?_
          refine fX6_0 jX6_total_X6 lX6_total_7 dX6_total_230 ?_
          refine r_iconst 3 dX6_total_233 (by decide) ?_
          refine ldM370 3 rfl (by omega) dX6_total_234 ?_
          rw [hz3.2.2.2.2.1]
          exact r_iret hQ rfl dX6_total_235 (reJ_of (okMd_ro h k3 ((toA_10 S).symm)))
        by_cases w11 : w = 11
        ·
          subst w11
          refine r_tableIn 123 236 dX6_total_113 (by decide) (by decide) (by decide) (by decide) ?_
          refine r_aload_n dX6_total_236 rfl ?_
          refine fX6_3 jX6_total_X6 lX6_total_103 dX6_total_237 ?_
          rw [hst]
          exact r_iret hQ rfl dX6_total_240 (reJ_of (okMd_ro h k3 ((toA_11 S).symm)))
        by_cases w12 : w = 12
        ·
          subst w12
          refine r_tableIn 128 241 dX6_total_113 (by decide) (by decide) (by decide) (by decide) ?_
          refine r_aload_n dX6_total_241 rfl ?_
          refine fX6_7 jX6_total_X6 lX6_total_159 dX6_total_242 ?_
          rw [htx]
          exact r_iret hQ rfl dX6_total_245 (reJ_of (okMd_ro h k3 ((toA_12 S).symm)))
        have hw : ∀ j, j ≤ 12 → ¬ w = nI j := by
          intro j hj
          rcases (show j = 0 ∨ j = 1 ∨ j = 2 ∨ j = 3 ∨ j = 4 ∨ j = 5 ∨ j = 6 ∨ j = 7 ∨ j = 8 ∨ j = 9 ∨ j = 10 ∨ j = 11 ∨ j = 12 by omega) with rfl | rfl | rfl | rfl | rfl | rfl | rfl | rfl | rfl | rfl | rfl | rfl | rfl
          · exact w0
          · exact w1
          · exact w2
          · exact w3
          · exact w4
          · exact w5
          · exact w6
          · exact w7
          · exact w8
          · exact w9
          · exact w10
          · exact w11
          · exact w12
        refine r_tableOut 246 dX6_total_113 (by simpa using sw_out (m := 12) (by omega) hw) (by decide) ?_
        refine r_bipush (-2) dX6_total_246 (by decide) ?_
        exact r_iret hQ rfl dX6_total_248 (reJ_of (okMd_ro h k3 (toA_d hw).symm))
      ·
        replace c35 := Int32.not_le.mp c35
        have n35 := (nI_ltI (a := k) (b := vN (qC S)) (by omega) (by omega)).mp c35
        refine r_iload_n dX6_total_38 rfl ?_
        refine r_aload_n dX6_total_39 rfl ?_
        refine fX6_8 jX6_total_X6 lX6_total_25 dX6_total_40 ?_
        refine r_iload dX6_total_43 rfl ?_
        refine ldM375 k rfl (by omega) dX6_total_45 ?_
        rw [hσ3.2.2.2.1 375 (by omega) (by omega), hh2 k (by omega)]
        refine r_callSI hL (ctX6_ones l Ω _ _) kX6_total_156 rfl rfl (Nat.le_of_ble_eq_true rfl) dX6_total_46 ?_
        refine r_iadd dX6_total_49 ?_
        refine r_istore_n dX6_total_50 (by decide) rfl ?_
        refine r_aload_n dX6_total_51 rfl ?_
        refine fX6_10 jX6_total_X6 lX6_total_31 dX6_total_52 ?_
        refine r_iload dX6_total_55 rfl ?_
        refine ldM377 k rfl (by omega) dX6_total_57 ?_
        rw [hσ3.2.2.2.1 377 (by omega) (by omega), hl2 k (by omega)]
        refine r_iload_n dX6_total_58 rfl ?_
        refine r_icmp_le 72 dX6_total_59 (by decide) (fun c59 => ?_) (fun c59 => ?_)
        ·
          replace c59 := Int32.not_lt.mpr c59
          refine r_iload_n dX6_total_72 rfl ?_
          refine r_istore_n dX6_total_73 (by decide) rfl ?_
          refine r_iload dX6_total_74 rfl ?_
          refine r_aload_n dX6_total_76 rfl ?_
          refine r_iload dX6_total_77 rfl ?_
          refine r_callVI (369) hL (ctX6_volume l Ω _ (qC S) hz3 k (by omega)) kX6_total_93 (by omega) ⟨_, _, _, rfl, rfl, rfl⟩ rfl rfl (Nat.le_of_ble_eq_true rfl) dX6_total_79 ?_
          refine r_iadd dX6_total_82 ?_
          refine r_istore dX6_total_83 (by decide) rfl ?_
          refine r_iload dX6_total_85 rfl ?_
          refine r_iload_n dX6_total_87 rfl ?_
          refine r_bipush 9 dX6_total_88 (by decide) ?_
          refine r_icmp_ne 102 dX6_total_90 (by decide) (fun c90 => ?_) (fun c90 => ?_)
          ·
            refine r_iconst 0 dX6_total_102 (by decide) ?_
            refine r_iadd dX6_total_103 ?_
            refine r_istore dX6_total_104 (by decide) rfl ?_
            refine r_iinc (nI (k + 1)) dX6_total_106 rfl (nI_1 k) (by decide) rfl ?_
            refine r_goto 27 dX6_total_109 (by decide) ?_
            exact ih (k + 1) _ _ _ _ (by omega) (by rw [hx2]; rfl) (by rw [glI, ← hx3, if_neg c59]) (by rw [hx4]; rfl) (by rw [hx5, sumI, if_neg c90]) (by omega)
          ·
            refine r_aload_n dX6_total_93 rfl ?_
            refine r_iload dX6_total_94 rfl ?_
            refine r_callVI (369) hL (ctX6_shadows l Ω _ (qC S) hz3 k (by omega) hg) kX6_total_203 (by omega) ⟨_, _, _, rfl, rfl, rfl⟩ rfl rfl (Nat.le_of_ble_eq_true rfl) dX6_total_96 ?_
            refine r_goto 103 dX6_total_99 (by decide) ?_
            refine r_iadd dX6_total_103 ?_
            refine r_istore dX6_total_104 (by decide) rfl ?_
            refine r_iinc (nI (k + 1)) dX6_total_106 rfl (nI_1 k) (by decide) rfl ?_
            refine r_goto 27 dX6_total_109 (by decide) ?_
            exact ih (k + 1) _ _ _ _ (by omega) (by rw [hx2]; rfl) (by rw [glI, ← hx3, if_neg c59]) (by rw [hx4]; rfl) (by rw [hx5, sumI, if_pos c90]) (by omega)
        ·
          replace c59 := Int32.not_le.mp c59
          refine r_aload_n dX6_total_62 rfl ?_
          refine fX6_10 jX6_total_X6 lX6_total_31 dX6_total_63 ?_
          refine r_iload dX6_total_66 rfl ?_
          refine ldM377 k rfl (by omega) dX6_total_68 ?_
          rw [hσ3.2.2.2.1 377 (by omega) (by omega), hl2 k (by omega)]
          refine r_goto 73 dX6_total_69 (by decide) ?_
          refine r_istore_n dX6_total_73 (by decide) rfl ?_
          refine r_iload dX6_total_74 rfl ?_
          refine r_aload_n dX6_total_76 rfl ?_
          refine r_iload dX6_total_77 rfl ?_
          refine r_callVI (369) hL (ctX6_volume l Ω _ (qC S) hz3 k (by omega)) kX6_total_93 (by omega) ⟨_, _, _, rfl, rfl, rfl⟩ rfl rfl (Nat.le_of_ble_eq_true rfl) dX6_total_79 ?_
          refine r_iadd dX6_total_82 ?_
          refine r_istore dX6_total_83 (by decide) rfl ?_
          refine r_iload dX6_total_85 rfl ?_
          refine r_iload_n dX6_total_87 rfl ?_
          refine r_bipush 9 dX6_total_88 (by decide) ?_
          refine r_icmp_ne 102 dX6_total_90 (by decide) (fun c90 => ?_) (fun c90 => ?_)
          ·
            refine r_iconst 0 dX6_total_102 (by decide) ?_
            refine r_iadd dX6_total_103 ?_
            refine r_istore dX6_total_104 (by decide) rfl ?_
            refine r_iinc (nI (k + 1)) dX6_total_106 rfl (nI_1 k) (by decide) rfl ?_
            refine r_goto 27 dX6_total_109 (by decide) ?_
            exact ih (k + 1) _ _ _ _ (by omega) (by rw [hx2]; rfl) (by rw [glI, ← hx3, if_pos c59]) (by rw [hx4]; rfl) (by rw [hx5, sumI, if_neg c90]) (by omega)
          ·
            refine r_aload_n dX6_total_93 rfl ?_
            refine r_iload dX6_total_94 rfl ?_
            refine r_callVI (369) hL (ctX6_shadows l Ω _ (qC S) hz3 k (by omega) hg) kX6_total_203 (by omega) ⟨_, _, _, rfl, rfl, rfl⟩ rfl rfl (Nat.le_of_ble_eq_true rfl) dX6_total_96 ?_
            refine r_goto 103 dX6_total_99 (by decide) ?_
            refine r_iadd dX6_total_103 ?_
            refine r_istore dX6_total_104 (by decide) rfl ?_
            refine r_iinc (nI (k + 1)) dX6_total_106 rfl (nI_1 k) (by decide) rfl ?_
            refine r_goto 27 dX6_total_109 (by decide) ?_
            exact ih (k + 1) _ _ _ _ (by omega) (by rw [hx2]; rfl) (by rw [glI, ← hx3, if_pos c59]) (by rw [hx4]; rfl) (by rw [hx5, sumI, if_pos c90]) (by omega)
  exact L1 (vN (qC S) + 1) 0 _ _ _ _ (by omega) rfl rfl rfl rfl (by omega)

set_option maxRecDepth 100000 in
set_option maxHeartbeats 4000000 in
theorem ctX6_breaks (l : Launch) (Ω : Om) (σ : Sg) (S : StV) (h : isMd σ S) (hg : gdV (qC S)) (B : Nat) (hB : B + 20 < 2 ^ 31) (hnu : nuV B (qC S)) : CtW l yX6_breaks wsX6_breaks (rmD 8) Ω [.ref (ad Ω 369)] σ (reJ (fun r σ1 => okMd σ (oBreaks S) r σ1)) := by
  refine ct_intro [some (.ref (ad Ω 369)), none, none, none] (by decide) rfl rfl (Nat.le_of_ble_eq_true rfl) (fun Γ hL hQ => ?_)
  show AtW mX6_breaks Γ Ω σ 0 [some (.ref (ad Ω 369)), none, none, none] []
  have hz := h.1
  have hn := h.1.1
  have hz0 := h.1.2.1
  have hu := hg.1
  have hru := hg.2.1
  have hl := gd_lt hg
  refine r_aload_n dX6_breaks_0 rfl ?_
  refine r_callVV (369) hL (ctX6_putAside l Ω _) kX6_breaks_184 (by omega) ⟨_, _, _, rfl, rfl, rfl⟩ rfl rfl (Nat.le_of_ble_eq_true rfl) dX6_breaks_1 ?_
  intro σ0 e0
  subst e0
  have hz0a : isZ (cpyA σ 371 370 116 370) (qC S) := by rw [cpyA_ne (by omega)]; exact hz
  refine r_iconst 0 dX6_breaks_4 (by decide) ?_
  refine r_istore_n dX6_breaks_5 (by decide) rfl ?_
  refine r_aload_n dX6_breaks_6 rfl ?_
  refine r_callVJ (369) hL (ctX6_breakAt l Ω _ (qC S) hz0a) kX6_breaks_147 (by omega) ⟨_, _, _, rfl, rfl, rfl⟩ rfl rfl (Nat.le_of_ble_eq_true rfl) dX6_breaks_7 ?_
  intro x σ1 hσ1
  refine r_istore_n dX6_breaks_10 (by decide) rfl ?_
  have hz1 : isZ (σ1 370) (qC S) := by rw [hσ1.2 370 (by omega) (by omega)]; exact hz0a
  refine r_aload_n dX6_breaks_11 rfl ?_
  refine r_iload_n dX6_breaks_12 rfl ?_
  refine r_callVI (369) hL (ctX6_whyNoBreak l Ω _ (qC S) hz1 _ hσ1.1) kX6_breaks_150 (by omega) ⟨_, _, _, rfl, rfl, rfl⟩ rfl rfl (Nat.le_of_ble_eq_true rfl) dX6_breaks_13 ?_
  refine r_istore_n dX6_breaks_16 (by decide) rfl ?_
  have L1 : ∀ (N : Nat) (b : Nat) (w : SpV) (τ : Sg) (x2 x3 : Int32), bkJ B (qC S) b w → isZ (τ 370) w → (∀ q, q ≠ 370 → q ≠ 375 → q ≠ 376 → τ q = cpyA σ 371 370 116 q) → x2 = oI5 (grV w) → x3 = whA w → 17 < b + N → AtW mX6_breaks Γ Ω τ 17 [some (.ref (ad Ω 369)), some (.int (nI b)), some (.int x2), some (.int x3)] [] := by
    intro N
    induction N with
    | zero =>
      intro b w τ x2 x3 hw hzw hf hx2 hx3 hN
      exact absurd hN (by have := hw.1; have := hw.2.1; omega)
    | succ N ih =>
      intro b w τ x2 x3 hw hzw hf hx2 hx3 hN
      refine r_iload_n dX6_breaks_17 rfl ?_
      refine r_if_ne 44 dX6_breaks_18 (by decide) (fun c18 => ?_) (fun c18 => ?_)
      ·
        rw [hx3] at c18
        have hb := wh_br hw.2.2.1
        have hb2 := hb.resolve_right (fun q => c18 q.1)
        have hbe := bkJ_e hw hb2.2.2.1
        refine r_aload_n dX6_breaks_44 rfl ?_
        refine r_callVV (369) hL (ctX6_putBack l Ω _) kX6_breaks_187 (by omega) ⟨_, _, _, rfl, rfl, rfl⟩ rfl rfl (Nat.le_of_ble_eq_true rfl) dX6_breaks_45 ?_
        intro σ4 e4
        subst e4
        have hzz : isZ (cpyA τ 370 371 116 370) (qC S) := cpyA_z (by rw [hf 371 (by omega) (by omega) (by omega)]; exact cpyA_z hz)
        have hmb := md_back h (σ1 := cpyA τ 370 371 116) (fun q a c d e => by rw [cpyA_ne a, hf q a d e, cpyA_ne c]) hzz
        rw [hb2.2.2.2, ← hx3] at hbe
        refine r_iload_n dX6_breaks_48 rfl ?_
        refine r_bipush (-5) dX6_breaks_49 (by decide) ?_
        refine r_icmp_ne 58 dX6_breaks_51 (by decide) (fun c51 => ?_) (fun c51 => ?_)
        ·
          refine r_iload_n dX6_breaks_58 rfl ?_
          exact r_iret hQ rfl dX6_breaks_59 (reJ_of ⟨by rw [oBreaks, hbe]; exact (if_neg c51).symm, hmb⟩)
        ·
          refine r_iload_n dX6_breaks_54 rfl ?_
          refine r_goto 59 dX6_breaks_55 (by decide) ?_
          exact r_iret hQ rfl dX6_breaks_59 (reJ_of ⟨by rw [oBreaks, hbe]; exact (if_pos c51).symm, hmb⟩)
      ·
        rw [hx3] at c18
        have c18b : whA w = 0 := c18
        have hb := wh_br hw.2.2.1
        obtain ⟨_, k, hk, h16, ek, ea, eo, hs⟩ := hb.resolve_left (fun q => q.2.1 c18b)
        have h17 := hw.2.1
        have ex : x2 = nI k := by rw [hx2, ek]; rfl
        rw [ex]
        refine r_aload_n dX6_breaks_21 rfl ?_
        refine r_iload_n dX6_breaks_22 rfl ?_
        refine r_callVJ (369) hL (ctX6_doBreak l Ω _ w hzw (by omega) k hk) kX6_breaks_153 (by omega) ⟨_, _, _, rfl, rfl, rfl⟩ rfl rfl (Nat.le_of_ble_eq_true rfl) dX6_breaks_23 ?_
        intro r σ2 hσ2
        refine r_pop dX6_breaks_26 rfl ?_
        refine r_iinc (nI (b + 1)) dX6_breaks_27 rfl (nI_1 b) (by decide) rfl ?_
        refine r_aload_n dX6_breaks_30 rfl ?_
        refine r_callVJ (369) hL (ctX6_breakAt l Ω _ (brV w k) hσ2.2.1) kX6_breaks_147 (by omega) ⟨_, _, _, rfl, rfl, rfl⟩ rfl rfl (Nat.le_of_ble_eq_true rfl) dX6_breaks_31 ?_
        intro y σ3 hσ3
        refine r_istore_n dX6_breaks_34 (by decide) rfl ?_
        have hz3 : isZ (σ3 370) (brV w k) := by rw [hσ3.2 370 (by omega) (by omega)]; exact hσ2.2.1
        refine r_aload_n dX6_breaks_35 rfl ?_
        refine r_iload_n dX6_breaks_36 rfl ?_
        refine r_callVI (369) hL (ctX6_whyNoBreak l Ω _ (brV w k) hz3 _ hσ3.1) kX6_breaks_150 (by omega) ⟨_, _, _, rfl, rfl, rfl⟩ rfl rfl (Nat.le_of_ble_eq_true rfl) dX6_breaks_37 ?_
        refine r_istore_n dX6_breaks_40 (by decide) rfl ?_
        refine r_goto 17 dX6_breaks_41 (by decide) ?_
        exact ih (b + 1) _ _ _ _ (bkJ_s hw hB hk h16 eo hs) hz3 (fun q a c d => by rw [hσ3.2 q c d, hσ2.2.2 q a]; exact hf q a c d) hσ3.1 rfl (by omega)
  exact L1 18 0 (qC S) σ1 _ _ ⟨rfl, hn, hg, hnu, rfl⟩ hz1 (fun q _ a b => hσ1.2 q a b) hσ1.1 rfl (by omega)
