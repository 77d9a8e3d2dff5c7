set_option maxRecDepth 100000 in
set_option maxHeartbeats 4000000 in
theorem ctX6_addAll (l : Launch) (Ω : Om) (σ : Sg) (S : StV) (h : isMd σ S) : CtW l yX6_addAll wsX6_addAll (rmD 4) Ω [.ref (ad Ω 369)] σ (reJ (fun r σ1 => okMd σ (oAddAll S) r σ1)) := by
  refine ct_intro [some (.ref (ad Ω 369)), none, none, none] (by decide) rfl rfl (Nat.le_of_ble_eq_true rfl) (fun Γ hL hQ => ?_)
  show AtW mX6_addAll Γ Ω σ 0 [some (.ref (ad Ω 369)), none, none, none] []
  have hz := h.1
  have hn := h.1.1
  have hz0 := h.1.2.1
  have hL80 := h.2.2.2.2.1
  refine r_aload_n dX6_addAll_0 rfl ?_
  refine r_callVJ (369) hL (ctX6_findFault l Ω _ _ _ h.2.2.2) kX6_addAll_181 (by omega) ⟨_, _, _, rfl, rfl, rfl⟩ rfl rfl (Nat.le_of_ble_eq_true rfl) dX6_addAll_1 ?_
  intro r σ1 hσ1
  refine r_istore_n dX6_addAll_4 (by decide) rfl ?_
  have ea := hσ1.1
  subst ea
  have hm1 := isMd_kr h hσ1.2.1
  refine r_iload_n dX6_addAll_5 rfl ?_
  refine r_if_lt 14 dX6_addAll_6 (by decide) (fun c6 => ?_) (fun c6 => ?_)
  ·
    have hf := ff_neg hL80 c6
    refine r_aload_n dX6_addAll_14 rfl ?_
    refine r_callVV (369) hL (ctX6_putAside l Ω _) kX6_addAll_184 (by omega) ⟨_, _, _, rfl, rfl, rfl⟩ rfl rfl (Nat.le_of_ble_eq_true rfl) dX6_addAll_15 ?_
    intro σ2 e2
    subst e2
    refine r_iconst 0 dX6_addAll_18 (by decide) ?_
    refine r_istore_n dX6_addAll_19 (by decide) rfl ?_
    refine r_iconst 0 dX6_addAll_20 (by decide) ?_
    refine r_istore_n dX6_addAll_21 (by decide) rfl ?_
    have EJ : ∀ (τ : Sg) (x : Int32) (v2 : Option Value) (hE : aaE S σ x τ), AtW mX6_addAll Γ Ω τ 27 [some (.ref (ad Ω 369)), some (.int (ffA (qT S) (qL S))), v2, some (.int x)] [] := by
      intro τ x v2 hE
      have hx0 := hE.1
      have hxn : ¬ x = 0 := fun z => by rw [z] at hx0; exact absurd hx0 (by decide)
      refine r_aload_n dX6_addAll_27 rfl ?_
      refine fX6_15 jX6_addAll_X6 lX6_addAll_162 dX6_addAll_28 ?_
      refine r_aload_n dX6_addAll_31 rfl ?_
      refine fX6_7 jX6_addAll_X6 lX6_addAll_159 dX6_addAll_32 ?_
      refine r_icmp_ge 148 dX6_addAll_35 (by decide) (fun c35 => ?_) (fun c35 => ?_)
      ·
        replace c35 := Int32.not_lt.mpr c35
        refine r_iload_n dX6_addAll_148 rfl ?_
        refine r_if_ge 158 dX6_addAll_149 (by decide) (fun c149 => absurd c149 (Int32.not_le.mpr hx0)) (fun c149 => ?_)
        refine r_aload_n dX6_addAll_152 rfl ?_
        refine r_callVV (369) hL (ctX6_putBack l Ω _) kX6_addAll_187 (by omega) ⟨_, _, _, rfl, rfl, rfl⟩ rfl rfl (Nat.le_of_ble_eq_true rfl) dX6_addAll_153 ?_
        intro σ4 hσ4
        refine r_iload_n dX6_addAll_156 rfl ?_
        exact r_iret hQ rfl dX6_addAll_157 (reJ_of (by subst hσ4; exact okMd_of (aa_err hf hE.2.2.2) (md_kz (S := S) h (kz_tr hE.2.2.1 (kz_z (fun q a => cpyA_ne a))) (cpyA_z hE.2.1)) (fun q hq => by rw [cpyA_ne (by omega)]; exact hE.2.2.1.1 q (by omega))))
      ·
        replace c35 := Int32.not_le.mp c35
        refine r_iload_n dX6_addAll_38 rfl ?_
        refine r_if_ne 148 dX6_addAll_39 (by decide) (fun c39 => ?_) (fun c39 => absurd c39 (hxn))
        refine r_iload_n dX6_addAll_148 rfl ?_
        refine r_if_ge 158 dX6_addAll_149 (by decide) (fun c149 => absurd c149 (Int32.not_le.mpr hx0)) (fun c149 => ?_)
        refine r_aload_n dX6_addAll_152 rfl ?_
        refine r_callVV (369) hL (ctX6_putBack l Ω _) kX6_addAll_187 (by omega) ⟨_, _, _, rfl, rfl, rfl⟩ rfl rfl (Nat.le_of_ble_eq_true rfl) dX6_addAll_153 ?_
        intro σ4 hσ4
        refine r_iload_n dX6_addAll_156 rfl ?_
        exact r_iret hQ rfl dX6_addAll_157 (reJ_of (by subst hσ4; exact okMd_of (aa_err hf hE.2.2.2) (md_kz (S := S) h (kz_tr hE.2.2.1 (kz_z (fun q a => cpyA_ne a))) (cpyA_z hE.2.1)) (fun q hq => by rw [cpyA_ne (by omega)]; exact hE.2.2.1.1 q (by omega))))
    have L1 : ∀ (N : Nat) (b j : Nat) (w : SpV) (τ : Sg), aaL S σ b j w τ → qL S + 1 < j + N → AtW mX6_addAll Γ Ω τ 27 [some (.ref (ad Ω 369)), some (.int (ffA (qT S) (qL S))), some (.int (nI b)), some (.int 0)] [] := by
      intro N
      induction N with
      | zero =>
        intro b j w τ hA hN
        exact absurd hN (by have := hA.2.2.2.2.2.1; omega)
      | succ N ih =>
        intro b j w τ hA hN
        have hj1 := hA.2.2.2.2.2.1
        have hpl := hA.2.2.2.2.1
        have hlen : τ 369 7 = nI (qL S) := by rw [hA.2.2.2.1.2 7 (by omega) (by omega) (by omega)]; exact h.2.2.2.1
        refine r_aload_n dX6_addAll_27 rfl ?_
        refine fX6_15 jX6_addAll_X6 lX6_addAll_162 dX6_addAll_28 ?_
        rw [hpl]
        refine r_aload_n dX6_addAll_31 rfl ?_
        refine fX6_7 jX6_addAll_X6 lX6_addAll_159 dX6_addAll_32 ?_
        rw [hlen]
        refine r_icmp_ge 148 dX6_addAll_35 (by decide) (fun c35 => ?_) (fun c35 => ?_)
        ·
          replace c35 := Int32.not_lt.mpr c35
          have n35 := Nat.not_lt.mp (fun q => c35 ((nI_ltI (a := j) (b := qL S) (by omega) (by omega)).mpr q))
          obtain ⟨et, eo⟩ := aaL_end hA hL80 hf (by omega)
          have hmτ := md_kz h hA.2.2.2.1 hA.2.1
          refine r_iload_n dX6_addAll_148 rfl ?_
          refine r_if_ge 158 dX6_addAll_149 (by decide) (fun c149 => ?_) (fun c149 => absurd c149 (by decide))
          refine r_aload_n dX6_addAll_158 rfl ?_
          refine r_aload_n dX6_addAll_159 rfl ?_
          refine fX6_1 jX6_addAll_X6 lX6_addAll_13 dX6_addAll_160 ?_
          refine r_callVV (369) hL (ctX6_push_a l Ω _ S hmτ.2.1 hA.2.2.1) kX6_addAll_110 (by omega) ⟨_, _, _, rfl, rfl, rfl⟩ rfl rfl (Nat.le_of_ble_eq_true rfl) dX6_addAll_163 ?_
          intro σ4 hσ4
          refine r_iload_n dX6_addAll_166 rfl ?_
          exact r_iret hQ rfl dX6_addAll_167 (reJ_of (okMd_of eo (push_mdw hmτ.2.2.1 hmτ.2.2.2 hσ4 (by rw [phI_z hσ4]; exact hA.2.1)) (keepLw_tr (fun q hq => hA.2.2.2.1.1 q (by omega)) (phI_keepL hσ4))))
        ·
          replace c35 := Int32.not_le.mp c35
          have n35 := (nI_ltI (a := j) (b := qL S) (by omega) (by omega)).mp c35
          refine r_iload_n dX6_addAll_38 rfl ?_
          refine r_if_ne 148 dX6_addAll_39 (by decide) (fun c39 => absurd c39 (by decide)) (fun c39 => ?_)
          refine r_aload_n dX6_addAll_42 rfl ?_
          obtain ⟨hrp, vs, hrd⟩ := aaL_rp hA h n35
          refine r_callVV (369) hL (ctX6_readBox l Ω _ τ (qL S) (qT S) j (6 * b) vs (Or.inr (rbR_0 hrp hrd))) kX6_addAll_178 (by omega) ⟨_, _, _, rfl, rfl, rfl⟩ rfl rfl (Nat.le_of_ble_eq_true rfl) dX6_addAll_43 ?_
          intro σ3 hσ3
          obtain ⟨n0, u1, u2, u3, u4, u5, u6, u7, u8⟩ := aa_box hA hL80 hf hσ3
          refine r_aload_n dX6_addAll_46 rfl ?_
          refine r_dup dX6_addAll_47 rfl ?_
          refine fX6_15 jX6_addAll_X6 lX6_addAll_162 dX6_addAll_48 ?_
          rw [u3]
          refine r_iconst 1 dX6_addAll_51 (by decide) ?_
          refine r_iadd dX6_addAll_52 ?_
          rw [nI_1]
          refine pX6_15 jX6_addAll_X6 lX6_addAll_162 dX6_addAll_53 ?_
          obtain ⟨ρ, eρ⟩ : ∃ ρ, ρ = upS σ3 369 15 (nI (n0 + 1)) := ⟨_, rfl⟩
          rw [← eρ]
          have G0 : ρ 380 0 = bxT (txV S) b 0 := by rw [eρ, up_ne (by omega)]; exact u7 0 (by omega)
          have G1 : ρ 380 1 = bxT (txV S) b 1 := by rw [eρ, up_ne (by omega)]; exact u7 1 (by omega)
          have G2 : ρ 380 2 = bxT (txV S) b 2 := by rw [eρ, up_ne (by omega)]; exact u7 2 (by omega)
          have G3 : ρ 380 3 = bxT (txV S) b 3 := by rw [eρ, up_ne (by omega)]; exact u7 3 (by omega)
          have G4 : ρ 380 4 = bxT (txV S) b 4 := by rw [eρ, up_ne (by omega)]; exact u7 4 (by omega)
          have G5 : ρ 380 5 = bxT (txV S) b 5 := by rw [eρ, up_ne (by omega)]; exact u7 5 (by omega)
          have hzρ : isZ (ρ 370) w := by rw [eρ, up_ne (by omega), u5.1 370 (by omega) (by omega)]; exact hA.2.1
          refine r_aload_n dX6_addAll_56 rfl ?_
          refine r_aload_n dX6_addAll_57 rfl ?_
          refine fX6_14 jX6_addAll_X6 lX6_addAll_40 dX6_addAll_58 ?_
          refine r_iconst 0 dX6_addAll_61 (by decide) ?_
          refine ldM380 0 rfl (by omega) dX6_addAll_62 ?_
          rw [G0]
          refine r_aload_n dX6_addAll_63 rfl ?_
          refine fX6_14 jX6_addAll_X6 lX6_addAll_40 dX6_addAll_64 ?_
          refine r_iconst 1 dX6_addAll_67 (by decide) ?_
          refine ldM380 1 rfl (by omega) dX6_addAll_68 ?_
          rw [G1]
          refine r_aload_n dX6_addAll_69 rfl ?_
          refine fX6_14 jX6_addAll_X6 lX6_addAll_40 dX6_addAll_70 ?_
          refine r_iconst 2 dX6_addAll_73 (by decide) ?_
          refine ldM380 2 rfl (by omega) dX6_addAll_74 ?_
          rw [G2]
          refine r_aload_n dX6_addAll_75 rfl ?_
          refine fX6_14 jX6_addAll_X6 lX6_addAll_40 dX6_addAll_76 ?_
          refine r_iconst 3 dX6_addAll_79 (by decide) ?_
          refine ldM380 3 rfl (by omega) dX6_addAll_80 ?_
          rw [G3]
          refine r_aload_n dX6_addAll_81 rfl ?_
          refine fX6_14 jX6_addAll_X6 lX6_addAll_40 dX6_addAll_82 ?_
          refine r_iconst 4 dX6_addAll_85 (by decide) ?_
          refine ldM380 4 rfl (by omega) dX6_addAll_86 ?_
          rw [G4]
          refine r_aload_n dX6_addAll_87 rfl ?_
          refine fX6_14 jX6_addAll_X6 lX6_addAll_40 dX6_addAll_88 ?_
          refine r_iconst 5 dX6_addAll_91 (by decide) ?_
          refine ldM380 5 rfl (by omega) dX6_addAll_92 ?_
          rw [G5]
          refine r_callVI (369) hL (ctX6_tryBox l Ω _ w hzρ _ _ _ _ _ _) kX6_addAll_118 (by omega) ⟨_, _, _, rfl, rfl, rfl⟩ rfl rfl (Nat.le_of_ble_eq_true rfl) dX6_addAll_93 ?_
          refine r_istore_n dX6_addAll_96 (by decide) rfl ?_
          refine r_iload_n dX6_addAll_97 rfl ?_
          refine r_if_ne 27 dX6_addAll_98 (by decide) (fun c98 => ?_) (fun c98 => ?_)
          ·
            exact EJ _ _ _ (aa_fail hA u5 u6 eρ c98)
          ·
            have ct0 : tb6 w (txV S) b = 0 := c98
            have hn6 := (tb_nn (v := w) (x := bxT (txV S) b 0) (y := bxT (txV S) b 1) (z := bxT (txV S) b 2) (a := bxT (txV S) b 3) (b := bxT (txV S) b 4) (c := bxT (txV S) b 5) (by rw [c98]; decide)).2.1
            have hn7 := hzρ.1
            refine r_aload_n dX6_addAll_101 rfl ?_
            refine r_aload_n dX6_addAll_102 rfl ?_
            refine fX6_14 jX6_addAll_X6 lX6_addAll_40 dX6_addAll_103 ?_
            refine r_iconst 0 dX6_addAll_106 (by decide) ?_
            refine ldM380 0 rfl (by omega) dX6_addAll_107 ?_
            rw [G0]
            refine r_aload_n dX6_addAll_108 rfl ?_
            refine fX6_14 jX6_addAll_X6 lX6_addAll_40 dX6_addAll_109 ?_
            refine r_iconst 1 dX6_addAll_112 (by decide) ?_
            refine ldM380 1 rfl (by omega) dX6_addAll_113 ?_
            rw [G1]
            refine r_aload_n dX6_addAll_114 rfl ?_
            refine fX6_14 jX6_addAll_X6 lX6_addAll_40 dX6_addAll_115 ?_
            refine r_iconst 2 dX6_addAll_118 (by decide) ?_
            refine ldM380 2 rfl (by omega) dX6_addAll_119 ?_
            rw [G2]
            refine r_aload_n dX6_addAll_120 rfl ?_
            refine fX6_14 jX6_addAll_X6 lX6_addAll_40 dX6_addAll_121 ?_
            refine r_iconst 3 dX6_addAll_124 (by decide) ?_
            refine ldM380 3 rfl (by omega) dX6_addAll_125 ?_
            rw [G3]
            refine r_aload_n dX6_addAll_126 rfl ?_
            refine fX6_14 jX6_addAll_X6 lX6_addAll_40 dX6_addAll_127 ?_
            refine r_iconst 4 dX6_addAll_130 (by decide) ?_
            refine ldM380 4 rfl (by omega) dX6_addAll_131 ?_
            rw [G4]
            refine r_aload_n dX6_addAll_132 rfl ?_
            refine fX6_14 jX6_addAll_X6 lX6_addAll_40 dX6_addAll_133 ?_
            refine r_iconst 5 dX6_addAll_136 (by decide) ?_
            refine ldM380 5 rfl (by omega) dX6_addAll_137 ?_
            rw [G5]
            refine r_callVJ (369) hL (ctX6_putBox l Ω _ w hzρ (by omega) _ _ _ _ _ _) kX6_addAll_122 (by omega) ⟨_, _, _, rfl, rfl, rfl⟩ rfl rfl (Nat.le_of_ble_eq_true rfl) dX6_addAll_138 ?_
            intro r σ4 hσ4
            refine r_pop dX6_addAll_141 rfl ?_
            refine r_iinc (nI (b + 1)) dX6_addAll_142 rfl (nI_1 b) (by decide) rfl ?_
            refine r_goto 27 dX6_addAll_145 (by decide) ?_
            rw [c98]; exact ih (b + 1) (n0 + 1) _ _ (aa_put hA u1 u5 u4 u6 u8 eρ ct0 hσ4.2) (by omega)
    refine r_aload_n dX6_addAll_22 rfl ?_
    refine r_iconst 0 dX6_addAll_23 (by decide) ?_
    refine pX6_15 jX6_addAll_X6 lX6_addAll_162 dX6_addAll_24 ?_
    exact L1 (qL S + 2) 0 0 (qC S) _ (aaL_0 (by rw [up_ne (by omega), cpyA_ne (by omega)]; exact hm1.1) (by rw [up_ne (by omega)]; exact cpyA_z hm1.1) (kz_tr (kz_kr hσ1.2.1) (kz_kr (keepRf_tr (show keepRf σ1 (cpyA σ1 371 370 116) from ⟨fun q hq => cpyA_ne (by omega), fun i _ _ _ => by rw [cpyA_ne (by omega)]⟩) (keepRf_f (Or.inr (Or.inl rfl)))))) (by rw [up_get, if_pos ⟨rfl, rfl⟩]; rfl) (by rw [up_get, if_neg (by omega), cpyA_ne (by omega)]; exact hσ1.2.2 hf)) (by omega)
  ·
    refine r_bipush (-100) dX6_addAll_9 (by decide) ?_
    refine r_iload_n dX6_addAll_11 rfl ?_
    refine r_isub dX6_addAll_12 ?_
    exact r_iret hQ rfl dX6_addAll_13 (reJ_of (okMd_of (by rw [aa_flt (ff_nn c6).1, (ff_nn c6).2]) hm1 (keepLw_kr hσ1.2.1)))
