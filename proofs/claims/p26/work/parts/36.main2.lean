set_option maxRecDepth 100000 in
set_option maxHeartbeats 4000000 in
theorem ctX5_enter (l : Launch) (Ω : Om) (σ : Sg) (v : SpV) (hv : isV σ 1 v) (x y z a b c : Int32) : CtW l yX5_enter wsX5_enter (rmD 3) Ω [.ref (ad Ω 368), .ref (ad Ω (iS 1)), .int x, .int y, .int z, .int a, .int b, .int c] σ (reJ (enI σ v x y z a b c)) := by
  refine ct_intro [some (.ref (ad Ω 368)), some (.ref (ad Ω (iS 1))), some (.int x), some (.int y), some (.int z), some (.int a), some (.int b), some (.int c), none] (by decide) rfl rfl (Nat.le_of_ble_eq_true rfl) (fun Γ hL hQ => ?_)
  show AtW mX5_enter Γ Ω σ 0 [some (.ref (ad Ω 368)), some (.ref (ad Ω (iS 1))), some (.int x), some (.int y), some (.int z), some (.int a), some (.int b), some (.int c), none] []
  refine r_aload_n dX5_enter_0 rfl ?_
  refine fX5_8 jX5_enter_X5 lX5_enter_49 dX5_enter_1 ?_
  refine r_iconst 0 dX5_enter_4 (by decide) ?_
  refine r_iload_n dX5_enter_5 rfl ?_
  refine r_iload dX5_enter_6 rfl ?_
  refine r_callVJ (iBo 112) hL (ctX0_lay l Ω _ 112 0 _ _ (by omega) (by omega)) kX5_enter_221 (iB_lt (by omega)) ⟨_, _, _, cel_box (by omega), rfl, rfl⟩ rfl rfl (Nat.le_of_ble_eq_true rfl) dX5_enter_8 ?_
  intro r0 τ0 hτ0
  obtain ⟨rfl, rfl⟩ := hτ0
  refine r_if_eq 47 dX5_enter_11 (by decide) (fun c11 => ?_) (fun c11 => ?_)
  ·
    replace c11 := bI_f c11
    rw [if_neg (by simp [c11])]
    refine r_iconst 0 dX5_enter_47 (by decide) ?_
    refine r_istore dX5_enter_48 (by decide) rfl ?_
    refine r_iload dX5_enter_50 rfl ?_
    refine r_if_ne 58 dX5_enter_52 (by decide) (fun c52 => absurd c52 (by decide)) (fun c52 => ?_)
    refine r_bipush (-2) dX5_enter_55 (by decide) ?_
    exact r_iret hQ rfl dX5_enter_57 (reJ_of ⟨(ent_r1 (Or.inl c11)).1.symm, keepC_rfl σ, fun q => absurd q (by rw [(ent_r1 (Or.inl c11)).2]; decide)⟩)
  ·
    replace c11 := bI_t c11
    rw [if_pos c11]
    refine r_aload_n dX5_enter_14 rfl ?_
    refine fX5_8 jX5_enter_X5 lX5_enter_49 dX5_enter_15 ?_
    refine r_iconst 1 dX5_enter_18 (by decide) ?_
    refine r_iload_n dX5_enter_19 rfl ?_
    refine r_iload dX5_enter_20 rfl ?_
    refine r_callVJ (iBo 112) hL (ctX0_lay l Ω _ 112 1 _ _ (by omega) (by omega)) kX5_enter_221 (iB_lt (by omega)) ⟨_, _, _, cel_box (by omega), rfl, rfl⟩ rfl rfl (Nat.le_of_ble_eq_true rfl) dX5_enter_22 ?_
    intro r0 τ0 hτ0
    obtain ⟨rfl, rfl⟩ := hτ0
    refine r_if_eq 47 dX5_enter_25 (by decide) (fun c25 => ?_) (fun c25 => ?_)
    ·
      replace c25 := bI_f c25
      rw [if_neg (by simp [c25])]
      refine r_iconst 0 dX5_enter_47 (by decide) ?_
      refine r_istore dX5_enter_48 (by decide) rfl ?_
      refine r_iload dX5_enter_50 rfl ?_
      refine r_if_ne 58 dX5_enter_52 (by decide) (fun c52 => absurd c52 (by decide)) (fun c52 => ?_)
      refine r_bipush (-2) dX5_enter_55 (by decide) ?_
      exact r_iret hQ rfl dX5_enter_57 (reJ_of ⟨(ent_r1 (Or.inr (Or.inl c25))).1.symm, keepC_nc, fun q => absurd q (by rw [(ent_r1 (Or.inr (Or.inl c25))).2]; decide)⟩)
    ·
      replace c25 := bI_t c25
      rw [if_pos c25]
      refine r_aload_n dX5_enter_28 rfl ?_
      refine fX5_8 jX5_enter_X5 lX5_enter_49 dX5_enter_29 ?_
      refine r_iconst 2 dX5_enter_32 (by decide) ?_
      refine r_iload dX5_enter_33 rfl ?_
      refine r_iload dX5_enter_35 rfl ?_
      refine r_callVJ (iBo 112) hL (ctX0_lay l Ω _ 112 2 _ _ (by omega) (by omega)) kX5_enter_221 (iB_lt (by omega)) ⟨_, _, _, cel_box (by omega), rfl, rfl⟩ rfl rfl (Nat.le_of_ble_eq_true rfl) dX5_enter_37 ?_
      intro r0 τ0 hτ0
      obtain ⟨rfl, rfl⟩ := hτ0
      refine r_if_eq 47 dX5_enter_40 (by decide) (fun c40 => ?_) (fun c40 => ?_)
      ·
        replace c40 := bI_f c40
        rw [if_neg (by simp [c40])]
        refine r_iconst 0 dX5_enter_47 (by decide) ?_
        refine r_istore dX5_enter_48 (by decide) rfl ?_
        refine r_iload dX5_enter_50 rfl ?_
        refine r_if_ne 58 dX5_enter_52 (by decide) (fun c52 => absurd c52 (by decide)) (fun c52 => ?_)
        refine r_bipush (-2) dX5_enter_55 (by decide) ?_
        exact r_iret hQ rfl dX5_enter_57 (reJ_of ⟨(ent_r1 (Or.inr (Or.inr c40))).1.symm, keepC_tr keepC_nc keepC_nc, fun q => absurd q (by rw [(ent_r1 (Or.inr (Or.inr c40))).2]; decide)⟩)
      ·
        replace c40 := bI_t c40
        rw [if_pos c40]
        obtain ⟨τ, eτ, k0, v0, hl⟩ := lay3 hv x y z a b c
        rw [eτ]
        refine r_iconst 1 dX5_enter_43 (by decide) ?_
        refine r_goto 48 dX5_enter_44 (by decide) ?_
        refine r_istore dX5_enter_48 (by decide) rfl ?_
        refine r_iload dX5_enter_50 rfl ?_
        refine r_if_ne 58 dX5_enter_52 (by decide) (fun c52 => ?_) (fun c52 => absurd c52 (by decide))
        refine r_aload_n dX5_enter_58 rfl ?_
        refine r_aload_n dX5_enter_59 rfl ?_
        refine fX5_8 jX5_enter_X5 lX5_enter_49 dX5_enter_60 ?_
        refine r_iconst (-1) dX5_enter_63 (by decide) ?_
        refine r_callVI (iS 1) hL (ctX3_isCutBy l Ω τ 1 (vN v) (by omega) hv.1 v0.2.1 112 (by omega) _) kX5_enter_99 (iS_lt (by omega)) ⟨_, _, _, cel_sp (by omega), rfl, rfl⟩ rfl rfl (Nat.le_of_ble_eq_true rfl) dX5_enter_64 ?_
        rw [v_entcut v0 hl]
        have er : entR x y z a b c = true := by unfold entR; rw [c11, c25, c40]; rfl
        refine r_if_eq 73 dX5_enter_67 (by decide) (fun c67 => ?_) (fun c67 => ?_)
        ·
          replace c67 := bI_f c67
          refine r_aload_n dX5_enter_73 rfl ?_
          refine r_callVI (iS 1) hL (ctX3_isFull l Ω _ 1 (vN v) (by omega) hv.1 v0.2.1) kX5_enter_106 (iS_lt (by omega)) ⟨_, _, _, cel_sp (by omega), rfl, rfl⟩ rfl rfl (Nat.le_of_ble_eq_true rfl) dX5_enter_74 ?_
          refine r_if_eq 85 dX5_enter_77 (by decide) (fun c77 => ?_) (fun c77 => ?_)
          ·
            replace c77 := bI_f c77
            refine r_aload_n dX5_enter_85 rfl ?_
            refine r_aload_n dX5_enter_86 rfl ?_
            refine fX5_8 jX5_enter_X5 lX5_enter_49 dX5_enter_87 ?_
            refine r_callVJ (iS 1) hL (ctX3_append l Ω _ 1 (vN v) (by omega) hv.1 v0.2.1 112 (by omega)) kX5_enter_225 (iS_lt (by omega)) ⟨_, _, _, cel_sp (by omega), rfl, rfl⟩ rfl rfl (Nat.le_of_ble_eq_true rfl) dX5_enter_90 ?_
            intro r σ4 hσ4
            have h16 : vN v < 16 := by have h := of_decide_eq_false c77; have := hv.1; omega
            obtain ⟨rfl, v4⟩ := isV_ap v0 h16 hl hσ4 (by omega)
            exact r_iret hQ rfl dX5_enter_93 (reJ_of ⟨by unfold entA; simp [er, c67, of_decide_eq_false c77], keepC_tr k0 (keepC_ap h16 hσ4), fun _ => v4⟩)
          ·
            replace c77 := bI_t c77
            refine r_bipush (-3) dX5_enter_80 (by decide) ?_
            refine r_goto 93 dX5_enter_82 (by decide) ?_
            exact r_iret hQ rfl dX5_enter_93 (reJ_of ⟨by unfold entA; simp [er, c67, of_decide_eq_true c77], k0, fun q => by unfold entOk at q; simp [er, c67, of_decide_eq_true c77] at q⟩)
        ·
          replace c67 := bI_t c67
          refine r_bipush (-4) dX5_enter_70 (by decide) ?_
          exact r_iret hQ rfl dX5_enter_72 (reJ_of ⟨by unfold entA; simp [er, c67], k0, fun q => by unfold entOk at q; simp [er, c67] at q⟩)

set_option maxRecDepth 100000 in
set_option maxHeartbeats 4000000 in
theorem ctX5_add (l : Launch) (Ω : Om) (σ : Sg) (S : StV) (h : isC σ S) (hx0 : ¬ vX (qC S) < 0) (x y z a b c : Int32) : CtW l yX5_add wsX5_add (rmD 5) Ω [.ref (ad Ω 368), .int x, .int y, .int z, .int a, .int b, .int c] σ (reJ (okC σ (oAdd S x y z a b c))) := by
  refine ct_intro [some (.ref (ad Ω 368)), some (.int x), some (.int y), some (.int z), some (.int a), some (.int b), some (.int c), none] (by decide) rfl rfl (Nat.le_of_ble_eq_true rfl) (fun Γ hL hQ => ?_)
  show AtW mX5_add Γ Ω σ 0 [some (.ref (ad Ω 368)), some (.int x), some (.int y), some (.int z), some (.int a), some (.int b), some (.int c), none] []
  obtain ⟨hv, ⟨pm, h0, hh⟩, hp, ht⟩ := id h
  have hn : vN (qC S) ≤ 16 := hv.1
  have hc : σ (iS 0) 1 = nI (vN (qC S)) := hv.2.1
  refine r_aload_n dX5_add_0 rfl ?_
  refine fX5_1 jX5_add_X5 lX5_add_16 dX5_add_1 ?_
  refine r_aload_n dX5_add_4 rfl ?_
  refine fX5_0 jX5_add_X5 lX5_add_10 dX5_add_5 ?_
  refine r_callVV (iS 1) hL (ctX3_copyFrom l Ω σ 1 0 _ (by omega) (by omega) (by omega) hn hc) kX5_add_57 (iS_lt (by omega)) ⟨_, _, _, cel_sp (by omega), rfl, rfl⟩ rfl rfl (Nat.le_of_ble_eq_true rfl) dX5_add_8 ?_
  intro σ1 hσ1
  have k1 : keepC σ σ1 := keepC_fr hσ1.2
  have v1 : isV σ1 1 (qC S) := isV_sp hv hσ1.1
  refine r_aload_n dX5_add_11 rfl ?_
  refine r_aload_n dX5_add_12 rfl ?_
  refine fX5_1 jX5_add_X5 lX5_add_16 dX5_add_13 ?_
  refine r_iload_n dX5_add_16 rfl ?_
  refine r_iload_n dX5_add_17 rfl ?_
  refine r_iload_n dX5_add_18 rfl ?_
  refine r_iload dX5_add_19 rfl ?_
  refine r_iload dX5_add_21 rfl ?_
  refine r_iload dX5_add_23 rfl ?_
  refine r_callVJ (368) hL (ctX5_enter l Ω _ (qC S) v1 _ _ _ _ _ _) kX5_add_61 (by omega) ⟨_, _, _, rfl, rfl, rfl⟩ rfl rfl (Nat.le_of_ble_eq_true rfl) dX5_add_25 ?_
  intro r σ2 hσ2
  have k2 : keepC σ σ2 := keepC_tr k1 hσ2.2.1
  rw [hσ2.1]
  refine r_istore dX5_add_28 (by decide) rfl ?_
  refine r_iload dX5_add_30 rfl ?_
  refine r_if_lt 39 dX5_add_32 (by decide) (fun c32 => ?_) (fun c32 => ?_)
  ·
    refine r_iload dX5_add_39 rfl ?_
    exact r_iret hQ rfl dX5_add_41 (reJ_of (okC_of (by rw [oAdd, if_neg (by rw [ent_neg hx0 c32]; decide)]) (isC_kc h k2) (keepM_kc k2)))
  ·
    obtain ⟨eo, ea⟩ := ent_pos c32
    refine r_aload_n dX5_add_35 rfl ?_
    refine r_callVV (368) hL (ctX5_adoptTrial l Ω σ2 S (isC_kc h k2) _ (hσ2.2.2 eo)) kX5_add_65 (by omega) ⟨_, _, _, rfl, rfl, rfl⟩ rfl rfl (Nat.le_of_ble_eq_true rfl) dX5_add_36 ?_
    intro σ3 hσ3
    refine r_iload dX5_add_39 rfl ?_
    exact r_iret hQ rfl dX5_add_41 (reJ_of (okC_of (by rw [oAdd, if_pos eo, ea]) hσ3.1 (keepM_tr (keepM_kc k2) hσ3.2.2)))

set_option maxRecDepth 100000 in
set_option maxHeartbeats 4000000 in
theorem ctX5_look (l : Launch) (Ω : Om) (σ : Sg) (v : SpV) (hv : isV σ 0 v) : CtW l yX5_look wsX5_look (rmD 6) Ω [.ref (ad Ω 368)] σ (reA (ad Ω (iP 0)) (fun σ1 => pcV v 0 σ1 ∧ keepC σ σ1)) := by
  refine ct_intro [some (.ref (ad Ω 368))] (by decide) rfl rfl (Nat.le_of_ble_eq_true rfl) (fun Γ hL hQ => ?_)
  show AtW mX5_look Γ Ω σ 0 [some (.ref (ad Ω 368))] []
  refine r_aload_n dX5_look_0 rfl ?_
  refine fX5_6 jX5_look_X5 lX5_look_39 dX5_look_1 ?_
  refine r_aload_n dX5_look_4 rfl ?_
  refine fX5_0 jX5_look_X5 lX5_look_10 dX5_look_5 ?_
  refine r_callVV (iP 0) hL (ctX2_look l Ω _ 0 0 (vN v) (by omega) (by omega) hv.1 hv.2.1) kX5_look_125 (iP_lt (by omega)) ⟨_, _, _, cel_pic (by omega), rfl, rfl⟩ rfl rfl (Nat.le_of_ble_eq_true rfl) dX5_look_8 ?_
  intro σ1 hσ1
  refine r_aload_n dX5_look_11 rfl ?_
  refine fX5_6 jX5_look_X5 lX5_look_39 dX5_look_12 ?_
  exact r_aret hQ rfl dX5_look_15 (⟨rfl, (pcV_of hv hσ1).1, keepC_pic (by omega) (pcV_of hv hσ1).2⟩)

set_option maxRecDepth 100000 in
set_option maxHeartbeats 4000000 in
theorem ctX5_breakOne (l : Launch) (Ω : Om) (σ : Sg) (v : SpV) (hv : isV σ 1 v) (hx0 : ¬ vX v < 0) : CtW l yX5_breakOne wsX5_breakOne (rmD 6) Ω [.ref (ad Ω 368), .ref (ad Ω (iS 1))] σ (reJ (bkI σ v)) := by
  refine ct_intro [some (.ref (ad Ω 368)), some (.ref (ad Ω (iS 1))), none, none, none, none] (by decide) rfl rfl (Nat.le_of_ble_eq_true rfl) (fun Γ hL hQ => ?_)
  show AtW mX5_breakOne Γ Ω σ 0 [some (.ref (ad Ω 368)), some (.ref (ad Ω (iS 1))), none, none, none, none] []
  have hn : vN v ≤ 16 := hv.1
  refine r_aload_n dX5_breakOne_0 rfl ?_
  refine fX5_6 jX5_breakOne_X5 lX5_breakOne_39 dX5_breakOne_1 ?_
  refine r_aload_n dX5_breakOne_4 rfl ?_
  refine r_callVV (iP 0) hL (ctX2_look l Ω _ 0 1 (vN v) (by omega) (by omega) hv.1 hv.2.1) kX5_breakOne_125 (iP_lt (by omega)) ⟨_, _, _, cel_pic (by omega), rfl, rfl⟩ rfl rfl (Nat.le_of_ble_eq_true rfl) dX5_breakOne_5 ?_
  intro σ1 hσ1
  obtain ⟨hpv, hpf⟩ := pcV_of hv hσ1
  have v1 := isV_pic hv (by omega) hpf
  have k1 := keepC_pic (by omega) hpf
  refine r_aload_n dX5_breakOne_8 rfl ?_
  refine fX5_6 jX5_breakOne_X5 lX5_breakOne_39 dX5_breakOne_9 ?_
  refine r_aload_n dX5_breakOne_12 rfl ?_
  refine r_callVI (iP 0) hL (ctX2_greatestInRings l Ω σ1 0 1 (vN v) (by omega) (by omega) hv.1 hpv.1) kX5_breakOne_227 (iP_lt (by omega)) ⟨_, _, _, cel_pic (by omega), rfl, rfl⟩ rfl rfl (Nat.le_of_ble_eq_true rfl) dX5_breakOne_13 ?_
  rw [grO_v v1 (fun k hk => (hpv.2.1 k hk).2.1)]
  refine r_istore_n dX5_breakOne_16 (by decide) rfl ?_
  refine r_iload_n dX5_breakOne_17 rfl ?_
  refine r_iconst (-1) dX5_breakOne_18 (by decide) ?_
  refine r_icmp_ne 25 dX5_breakOne_19 (by decide) (fun c19 => ?_) (fun c19 => ?_)
  ·
    obtain ⟨k, hk, ek⟩ := gr_some c19
    rw [ek]
    have hd := brD_lt v k
    refine r_aload_n dX5_breakOne_25 rfl ?_
    refine fX3_0 1 (by omega) jX5_breakOne_X3 lX5_breakOne_72 dX5_breakOne_26 ?_
    refine r_iload_n dX5_breakOne_29 rfl ?_
    refine r_aaldB 1 (by omega) k rfl (by omega) dX5_breakOne_30 ?_
    refine r_astore_n dX5_breakOne_31 (by decide) rfl ?_
    refine r_aload_n dX5_breakOne_32 rfl ?_
    refine r_callVI (iBo (bx 1 k)) hL (ctX0_longestDirection l Ω _ (bx 1 k) (bx_lt (by omega) (by omega))) kX5_breakOne_230 (iB_lt (bx_lt (by omega) (by omega))) ⟨_, _, _, cel_box (bx_lt (by omega) (by omega)), rfl, rfl⟩ rfl rfl (Nat.le_of_ble_eq_true rfl) dX5_breakOne_33 ?_
    rw [v_lgd v1 hk]
    refine r_istore dX5_breakOne_36 (by decide) rfl ?_
    refine r_aload_n dX5_breakOne_38 rfl ?_
    refine r_iload dX5_breakOne_39 rfl ?_
    refine r_callVI (iBo (bx 1 k)) hL (ctX0_size l Ω _ (bx 1 k) (brD v k) (bx_lt (by omega) (by omega)) hd) kX5_breakOne_233 (iB_lt (bx_lt (by omega) (by omega))) ⟨_, _, _, cel_box (bx_lt (by omega) (by omega)), rfl, rfl⟩ rfl rfl (Nat.le_of_ble_eq_true rfl) dX5_breakOne_41 ?_
    rw [v_sz v1 hk hd]
    refine r_istore dX5_breakOne_44 (by decide) rfl ?_
    refine r_iload dX5_breakOne_46 rfl ?_
    refine r_iconst 1 dX5_breakOne_48 (by decide) ?_
    refine r_icmp_gt 55 dX5_breakOne_49 (by decide) (fun c49 => ?_) (fun c49 => ?_)
    ·
      refine r_aload_n dX5_breakOne_55 rfl ?_
      refine r_callVI (iS 1) hL (ctX3_isFull l Ω σ1 1 (vN v) (by omega) hv.1 v1.2.1) kX5_breakOne_106 (iS_lt (by omega)) ⟨_, _, _, cel_sp (by omega), rfl, rfl⟩ rfl rfl (Nat.le_of_ble_eq_true rfl) dX5_breakOne_56 ?_
      refine r_if_eq 65 dX5_breakOne_59 (by decide) (fun c59 => ?_) (fun c59 => ?_)
      ·
        replace c59 := bI_f c59
        refine r_aload_n dX5_breakOne_65 rfl ?_
        refine r_iload_n dX5_breakOne_66 rfl ?_
        refine r_iload dX5_breakOne_67 rfl ?_
        refine r_aload_n dX5_breakOne_69 rfl ?_
        refine fX0_1 (bx 1 k) (bx_lt (by omega) (by omega)) jX5_breakOne_X0 lX5_breakOne_88 dX5_breakOne_70 ?_
        refine r_iload dX5_breakOne_73 rfl ?_
        refine ldL (bx 1 k) (bx_lt (by omega) (by omega)) (brD v k) rfl (by omega) dX5_breakOne_75 ?_
        rw [v_lo v1 hk _ hd]
        refine r_iload dX5_breakOne_76 rfl ?_
        refine r_iconst 2 dX5_breakOne_78 (by decide) ?_
        refine r_idiv dX5_breakOne_79 (by decide) ?_
        refine r_iadd dX5_breakOne_80 ?_
        refine r_callVJ (iS 1) hL (ctX3_cutInTwo l Ω σ1 1 (vN v) (by omega) hv.1 v1.2.1 k (brD v k) _ hk hd (by rw [v1.2.2.1]; exact hx0)) kX5_breakOne_110 (iS_lt (by omega)) ⟨_, _, _, cel_sp (by omega), rfl, rfl⟩ rfl rfl (Nat.le_of_ble_eq_true rfl) dX5_breakOne_81 ?_
        intro r σ2 hσ2
        have h16 : vN v < 16 := by have h := of_decide_eq_false c59; have := hv.1; omega
        obtain ⟨rfl, v2⟩ := isV_cut v1 h16 hσ2 hk
        exact r_iret hQ rfl dX5_breakOne_84 (reJ_of ⟨(br_yes ek c49 (of_decide_eq_false c59)).1.symm, keepC_tr k1 (keepC_fr (hσ2.2 h16).2.2.2.2.2.2.2.2), Or.inr ⟨_, (br_yes ek c49 (of_decide_eq_false c59)).2, v2⟩⟩)
      ·
        replace c59 := bI_t c59
        refine r_bipush (-3) dX5_breakOne_62 (by decide) ?_
        exact r_iret hQ rfl dX5_breakOne_64 (reJ_of ⟨(br_full ek c49 (of_decide_eq_true c59)).1.symm, k1, Or.inl (br_full ek c49 (of_decide_eq_true c59)).2⟩)
    ·
      refine r_bipush (-4) dX5_breakOne_52 (by decide) ?_
      exact r_iret hQ rfl dX5_breakOne_54 (reJ_of ⟨(br_one ek c49).1.symm, k1, Or.inl (br_one ek c49).2⟩)
  ·
    refine r_bipush (-5) dX5_breakOne_22 (by decide) ?_
    exact r_iret hQ rfl dX5_breakOne_24 (reJ_of ⟨(br_none (gr_none hv.1 c19)).1.symm, k1, Or.inl (br_none (gr_none hv.1 c19)).2⟩)

set_option maxRecDepth 100000 in
set_option maxHeartbeats 4000000 in
theorem ctX5_breakRing (l : Launch) (Ω : Om) (σ : Sg) (S : StV) (h : isC σ S) (hx0 : ¬ vX (qC S) < 0) : CtW l yX5_breakRing wsX5_breakRing (rmD 7) Ω [.ref (ad Ω 368)] σ (reJ (okC σ (oBreak S))) := by
  refine ct_intro [some (.ref (ad Ω 368)), none] (by decide) rfl rfl (Nat.le_of_ble_eq_true rfl) (fun Γ hL hQ => ?_)
  show AtW mX5_breakRing Γ Ω σ 0 [some (.ref (ad Ω 368)), none] []
  obtain ⟨hv, ⟨pm, h0, hh⟩, hp, ht⟩ := id h
  have hn : vN (qC S) ≤ 16 := hv.1
  have hc : σ (iS 0) 1 = nI (vN (qC S)) := hv.2.1
  refine r_aload_n dX5_breakRing_0 rfl ?_
  refine fX5_1 jX5_breakRing_X5 lX5_breakRing_16 dX5_breakRing_1 ?_
  refine r_aload_n dX5_breakRing_4 rfl ?_
  refine fX5_0 jX5_breakRing_X5 lX5_breakRing_10 dX5_breakRing_5 ?_
  refine r_callVV (iS 1) hL (ctX3_copyFrom l Ω σ 1 0 _ (by omega) (by omega) (by omega) hn hc) kX5_breakRing_57 (iS_lt (by omega)) ⟨_, _, _, cel_sp (by omega), rfl, rfl⟩ rfl rfl (Nat.le_of_ble_eq_true rfl) dX5_breakRing_8 ?_
  intro σ1 hσ1
  have k1 : keepC σ σ1 := keepC_fr hσ1.2
  have v1 : isV σ1 1 (qC S) := isV_sp hv hσ1.1
  refine r_aload_n dX5_breakRing_11 rfl ?_
  refine r_aload_n dX5_breakRing_12 rfl ?_
  refine fX5_1 jX5_breakRing_X5 lX5_breakRing_16 dX5_breakRing_13 ?_
  refine r_callVJ (368) hL (ctX5_breakOne l Ω σ1 (qC S) v1 (by exact hx0)) kX5_breakRing_114 (by omega) ⟨_, _, _, rfl, rfl, rfl⟩ rfl rfl (Nat.le_of_ble_eq_true rfl) dX5_breakRing_16 ?_
  intro r σ2 hσ2
  obtain ⟨rfl, k2, hb⟩ := hσ2
  replace k2 := keepC_tr k1 k2
  refine r_istore_n dX5_breakRing_19 (by decide) rfl ?_
  refine r_iload_n dX5_breakRing_20 rfl ?_
  refine r_if_lt 28 dX5_breakRing_21 (by decide) (fun c21 => ?_) (fun c21 => ?_)
  ·
    have eo : brO (qC S) = none := by rcases br_cases (qC S) with q | ⟨k, _, _, _, e, _⟩; exact q.1; exact absurd (e ▸ c21) hx0
    refine r_iload_n dX5_breakRing_28 rfl ?_
    exact r_iret hQ rfl dX5_breakRing_29 (reJ_of (okC_of (by rw [oBreak, eo]) (isC_kc h k2) (keepM_kc k2)))
  ·
    obtain ⟨w, eo, v2⟩ : ∃ w, brO (qC S) = some w ∧ isV σ2 1 w := by rcases hb with q | q; exact absurd (br_neg q) c21; exact q
    refine r_aload_n dX5_breakRing_24 rfl ?_
    refine r_callVV (368) hL (ctX5_adoptTrial l Ω σ2 S (isC_kc h k2) w v2) kX5_breakRing_65 (by omega) ⟨_, _, _, rfl, rfl, rfl⟩ rfl rfl (Nat.le_of_ble_eq_true rfl) dX5_breakRing_25 ?_
    intro σ3 hσ3
    refine r_iload_n dX5_breakRing_28 rfl ?_
    exact r_iret hQ rfl dX5_breakRing_29 (reJ_of (okC_of (by rw [oBreak, eo]) hσ3.1 (keepM_tr (keepM_kc k2) hσ3.2.2)))

set_option maxRecDepth 100000 in
set_option maxHeartbeats 4000000 in
theorem ctX5_breaks (l : Launch) (Ω : Om) (σ : Sg) (S : StV) (h : isC σ S) (m0 : Nat) (hm0 : m0 < 2 ^ 30) (hx0 : vX (qC S) = nI m0) : CtW l yX5_breaks wsX5_breaks (rmD 7) Ω [.ref (ad Ω 368)] σ (reJ (okC σ (oBreaks S))) := by
  refine ct_intro [some (.ref (ad Ω 368)), none, none] (by decide) rfl rfl (Nat.le_of_ble_eq_true rfl) (fun Γ hL hQ => ?_)
  show AtW mX5_breaks Γ Ω σ 0 [some (.ref (ad Ω 368)), none, none] []
  obtain ⟨hv, ⟨pm, h0, hh⟩, hp, ht⟩ := id h
  have hn : vN (qC S) ≤ 16 := hv.1
  have hc : σ (iS 0) 1 = nI (vN (qC S)) := hv.2.1
  refine r_aload_n dX5_breaks_0 rfl ?_
  refine fX5_1 jX5_breaks_X5 lX5_breaks_16 dX5_breaks_1 ?_
  refine r_aload_n dX5_breaks_4 rfl ?_
  refine fX5_0 jX5_breaks_X5 lX5_breaks_10 dX5_breaks_5 ?_
  refine r_callVV (iS 1) hL (ctX3_copyFrom l Ω σ 1 0 _ (by omega) (by omega) (by omega) hn hc) kX5_breaks_57 (iS_lt (by omega)) ⟨_, _, _, cel_sp (by omega), rfl, rfl⟩ rfl rfl (Nat.le_of_ble_eq_true rfl) dX5_breaks_8 ?_
  intro σ1 hσ1
  have k1 : keepC σ σ1 := keepC_fr hσ1.2
  have v1 : isV σ1 1 (qC S) := isV_sp hv hσ1.1
  refine r_iconst 0 dX5_breaks_11 (by decide) ?_
  refine r_istore_n dX5_breaks_12 (by decide) rfl ?_
  have L1 : ∀ (N : Nat) (j : Nat) (τ : Sg) (w : SpV) (v2 : Option Value), j ≤ 17 → keepC σ τ → isV τ 1 w → vX w = nI (m0 + j) → bksA w j (17 - j) = bksA (qC S) 0 17 → 17 < j + N → AtW mX5_breaks Γ Ω τ 13 [some (.ref (ad Ω 368)), some (.int (nI j)), v2] [] := by
    intro N
    induction N with
    | zero =>
      intro j τ w v2 hj hk hw hxw hf hN
      exact absurd hN (by omega)
    | succ N ih =>
      intro j τ w v2 hj hk hw hxw hf hN
      refine r_iload_n dX5_breaks_13 rfl ?_
      refine r_bipush 16 dX5_breaks_14 (by decide) ?_
      refine r_icmp_gt 48 dX5_breaks_16 (by decide) (fun c16 => ?_) (fun c16 => ?_)
      ·
        have n16 := (nI_ltI (a := 16) (b := j) (by omega) (by omega)).mp c16
        refine r_bipush (-3) dX5_breaks_48 (by decide) ?_
        have ek : j = 17 := by omega
        subst ek
        exact r_iret hQ rfl dX5_breaks_50 (reJ_of (okC_of (by rw [oBreaks, ← hf]; rfl) (isC_kc h hk) (keepM_kc hk)))
      ·
        have n16 := Nat.not_lt.mp (fun q => c16 ((nI_ltI (a := 16) (b := j) (by omega) (by omega)).mpr q))
        have em : 17 - j = (16 - j) + 1 := by omega
        rw [em] at hf
        refine r_aload_n dX5_breaks_19 rfl ?_
        refine r_aload_n dX5_breaks_20 rfl ?_
        refine fX5_1 jX5_breaks_X5 lX5_breaks_16 dX5_breaks_21 ?_
        refine r_callVJ (368) hL (ctX5_breakOne l Ω τ w hw (by rw [hxw]; exact nI_pos (by omega))) kX5_breaks_114 (by omega) ⟨_, _, _, rfl, rfl, rfl⟩ rfl rfl (Nat.le_of_ble_eq_true rfl) dX5_breaks_24 ?_
        intro r σ2 hσ2
        obtain ⟨rfl, k2, hb⟩ := hσ2
        replace k2 := keepC_tr hk k2
        refine r_istore_n dX5_breaks_27 (by decide) rfl ?_
        refine r_iload_n dX5_breaks_28 rfl ?_
        refine r_bipush (-5) dX5_breaks_29 (by decide) ?_
        refine r_icmp_ne 36 dX5_breaks_31 (by decide) (fun c31 => ?_) (fun c31 => ?_)
        ·
          refine r_iload_n dX5_breaks_36 rfl ?_
          refine r_if_ge 42 dX5_breaks_37 (by decide) (fun c37 => ?_) (fun c37 => ?_)
          ·
            replace c37 := Int32.not_lt.mpr c37
            obtain ⟨k, ek, hk9, h16, e9, eo⟩ : ∃ k, grV w = some k ∧ k < vN w ∧ ¬ vN w = 16 ∧ brA w = vX w ∧ brO w = some (brV w k) := by rcases br_cases w with q | q; exact absurd (br_neg q.1) c37; exact q
            obtain ⟨w2, eo2, v2w⟩ : ∃ w2, brO w = some w2 ∧ isV σ2 1 w2 := by rcases hb with q | q; exact absurd (q.symm.trans eo) (by simp); exact q
            have e2 : w2 = brV w k := Option.some.inj (eo2.symm.trans eo)
            have hx2 : vX w2 = nI (m0 + (j + 1)) := by rw [e2]; show vX w + 1 = _; rw [hxw, nI_1]; rfl
            have hf2 : bksA w2 (j + 1) (17 - (j + 1)) = bksA (qC S) 0 17 := by rw [← hf, bksA, eo2, show 17 - (j + 1) = 16 - j by omega]
            refine r_iinc (nI (j + 1)) dX5_breaks_42 rfl (nI_1 j) (by decide) rfl ?_
            refine r_goto 13 dX5_breaks_45 (by decide) ?_
            exact ih (j + 1) σ2 w2 _ (by omega) k2 v2w hx2 hf2 (by omega)
          ·
            replace c37 := Int32.not_le.mp c37
            have eo : brO w = none := by rcases br_cases w with q | ⟨k, _, _, _, e, _⟩; exact q.1; exact absurd c37 (by rw [e, hxw]; exact nI_pos (by omega))
            refine r_iload_n dX5_breaks_40 rfl ?_
            exact r_iret hQ rfl dX5_breaks_41 (reJ_of (okC_of (by rw [oBreaks, ← hf, bksA, eo]; simp only; rw [if_neg c31]) (isC_kc h k2) (keepM_kc k2)))
        ·
          have eo : brO w = none := by rcases br_cases w with q | ⟨k, _, _, _, e, _⟩; exact q.1; exact absurd (e.symm.trans c31) (by rw [hxw]; exact nI_nm5 (by omega))
          refine r_iload_n dX5_breaks_34 rfl ?_
          exact r_iret hQ rfl dX5_breaks_35 (reJ_of (okC_of (by rw [oBreaks, ← hf, bksA, eo]; simp only; rw [if_pos c31]) (isC_kc h k2) (keepM_kc k2)))
  exact L1 18 0 σ1 _ none (by omega) k1 v1 hx0 rfl (by omega)

set_option maxRecDepth 100000 in
set_option maxHeartbeats 4000000 in
theorem ctX5_turn (l : Launch) (Ω : Om) (σ : Sg) (S : StV) (h : isC σ S) : CtW l yX5_turn wsX5_turn (rmD 6) Ω [.ref (ad Ω 368)] σ (reJ (okC σ (oTurn S))) := by
  refine ct_intro [some (.ref (ad Ω 368)), none] (by decide) rfl rfl (Nat.le_of_ble_eq_true rfl) (fun Γ hL hQ => ?_)
  show AtW mX5_turn Γ Ω σ 0 [some (.ref (ad Ω 368)), none] []
  obtain ⟨hv, ⟨pm, h0, hh⟩, hp, ht⟩ := id h
  have hn : vN (qC S) ≤ 16 := hv.1
  have hc : σ (iS 0) 1 = nI (vN (qC S)) := hv.2.1
  refine r_aload_n dX5_turn_0 rfl ?_
  refine fX5_0 jX5_turn_X5 lX5_turn_10 dX5_turn_1 ?_
  refine fX3_1 0 (by omega) jX5_turn_X3 lX5_turn_118 dX5_turn_4 ?_
  rw [hc]
  refine r_if_ne 13 dX5_turn_7 (by decide) (fun c7 => ?_) (fun c7 => ?_)
  ·
    refine r_aload_n dX5_turn_13 rfl ?_
    refine fX5_1 jX5_turn_X5 lX5_turn_16 dX5_turn_14 ?_
    refine r_aload_n dX5_turn_17 rfl ?_
    refine fX5_0 jX5_turn_X5 lX5_turn_10 dX5_turn_18 ?_
    refine r_callVV (iS 1) hL (ctX3_copyFrom l Ω σ 1 0 _ (by omega) (by omega) (by omega) hn hc) kX5_turn_57 (iS_lt (by omega)) ⟨_, _, _, cel_sp (by omega), rfl, rfl⟩ rfl rfl (Nat.le_of_ble_eq_true rfl) dX5_turn_21 ?_
    intro σ1 hσ1
    have k1 : keepC σ σ1 := keepC_fr hσ1.2
    have v1 : isV σ1 1 (qC S) := isV_sp hv hσ1.1
    refine r_aload_n dX5_turn_24 rfl ?_
    refine fX5_1 jX5_turn_X5 lX5_turn_16 dX5_turn_25 ?_
    refine r_callVV (iS 1) hL (ctX3_quarterTurn l Ω _ 1 (vN (qC S)) (by omega) hn v1.2.1) kX5_turn_122 (iS_lt (by omega)) ⟨_, _, _, cel_sp (by omega), rfl, rfl⟩ rfl rfl (Nat.le_of_ble_eq_true rfl) dX5_turn_28 ?_
    intro σ2 hσ2
    have v2 : isV σ2 1 (qtV (qC S)) := isV_qt (by omega) v1 hσ2
    have k2 : keepC σ σ2 := keepC_tr k1 (keepC_qt hσ2)
    have u2 : isV σ2 0 (qC S) := isV_kc (by omega) (by omega) hv k2
    refine r_aload_n dX5_turn_31 rfl ?_
    refine fX5_6 jX5_turn_X5 lX5_turn_39 dX5_turn_32 ?_
    refine r_aload_n dX5_turn_35 rfl ?_
    refine fX5_0 jX5_turn_X5 lX5_turn_10 dX5_turn_36 ?_
    refine r_callVV (iP 0) hL (ctX2_look l Ω σ2 0 0 _ (by omega) (by omega) hn u2.2.1) kX5_turn_125 (iP_lt (by omega)) ⟨_, _, _, cel_pic (by omega), rfl, rfl⟩ rfl rfl (Nat.le_of_ble_eq_true rfl) dX5_turn_39 ?_
    intro σ3 hσ3
    obtain ⟨p3, f3⟩ := pcV_of u2 hσ3
    have v3w := isV_pic v2 (by omega) f3
    refine r_aload_n dX5_turn_42 rfl ?_
    refine fX5_7 jX5_turn_X5 lX5_turn_43 dX5_turn_43 ?_
    refine r_aload_n dX5_turn_46 rfl ?_
    refine fX5_1 jX5_turn_X5 lX5_turn_16 dX5_turn_47 ?_
    refine r_callVV (iP 1) hL (ctX2_look l Ω σ3 1 1 _ (by omega) (by omega) v3w.1 v3w.2.1) kX5_turn_125 (iP_lt (by omega)) ⟨_, _, _, cel_pic (by omega), rfl, rfl⟩ rfl rfl (Nat.le_of_ble_eq_true rfl) dX5_turn_50 ?_
    intro σ4 hσ4
    obtain ⟨p4, f4⟩ := pcV_of v3w hσ4
    have k4 : keepC σ σ4 := keepC_tr k2 (keepC_tr (keepC_pic (by omega) f3) (keepC_pic (by omega) f4))
    have v4 := isV_pic v3w (by omega) f4
    refine r_aload_n dX5_turn_53 rfl ?_
    refine fX5_6 jX5_turn_X5 lX5_turn_39 dX5_turn_54 ?_
    refine r_aload_n dX5_turn_57 rfl ?_
    refine fX5_7 jX5_turn_X5 lX5_turn_43 dX5_turn_58 ?_
    refine r_callVI (iP 0) hL (ctX2_hidingsNotIn l Ω σ4 0 (vN (qC S)) (by omega) hn (by rw [f4 _ (by unfold iP; omega)]; exact p3.1) 1 (by omega)) kX5_turn_128 (iP_lt (by omega)) ⟨_, _, _, cel_pic (by omega), rfl, rfl⟩ rfl rfl (Nat.le_of_ble_eq_true rfl) dX5_turn_61 ?_
    rw [sumI_c (q := fun k => bcI (HV (qC S) k &&& (HV (qtV (qC S)) k ^^^ -1))) (fun k hk => by rw [f4 (iP 0 + 1) (by unfold iP; omega), (p3.2.1 k hk).1, (p4.2.1 k hk).1])]
    refine r_istore_n dX5_turn_64 (by decide) rfl ?_
    refine r_aload_n dX5_turn_65 rfl ?_
    refine r_callVV (368) hL (ctX5_adoptTrial l Ω σ4 S (isC_kc h k4) _ v4) kX5_turn_65 (by omega) ⟨_, _, _, rfl, rfl, rfl⟩ rfl rfl (Nat.le_of_ble_eq_true rfl) dX5_turn_66 ?_
    intro σ3 hσ3
    refine r_iload_n dX5_turn_69 rfl ?_
    exact r_iret hQ rfl dX5_turn_70 (reJ_of (okC_of (by rw [oTurn, if_neg (fun q => c7 (by rw [q]; rfl))]) hσ3.1 (keepM_tr (keepM_kc k4) hσ3.2.2)))
  ·
    refine r_bipush (-5) dX5_turn_10 (by decide) ?_
    exact r_iret hQ rfl dX5_turn_12 (reJ_of (okC_of (by rw [oTurn, if_pos (by by_cases q : vN (qC S) = 0; exact q; exact absurd c7 (nI_ne0 (by omega) (by omega)))]) h (fun _ _ => rfl)))

set_option maxRecDepth 100000 in
set_option maxHeartbeats 4000000 in
theorem ctX5_drawn (l : Launch) (Ω : Om) (σ : Sg) (S : StV) (h : isC σ S) (x : Int32) : CtW l yX5_drawn wsX5_drawn (rmD 7) Ω [.ref (ad Ω 368), .int x] σ (reJ (okC σ (oDrawn S x))) := by
  refine ct_intro [some (.ref (ad Ω 368)), some (.int x), none] (by decide) rfl rfl (Nat.le_of_ble_eq_true rfl) (fun Γ hL hQ => ?_)
  show AtW mX5_drawn Γ Ω σ 0 [some (.ref (ad Ω 368)), some (.int x), none] []
  obtain ⟨hv, ⟨pm, h0, hh⟩, hp, ht⟩ := id h
  have hn : vN (qC S) ≤ 16 := hv.1
  have hc : σ (iS 0) 1 = nI (vN (qC S)) := hv.2.1
  refine r_iload_n dX5_drawn_0 rfl ?_
  refine r_if_ge 7 dX5_drawn_1 (by decide) (fun c1 => ?_) (fun c1 => ?_)
  ·
    replace c1 := Int32.not_lt.mpr c1
    refine r_aload_n dX5_drawn_7 rfl ?_
    refine r_callVA (368) hL (ctX5_look l Ω _ _ hv) kX5_drawn_159 (by omega) ⟨_, _, _, rfl, rfl, rfl⟩ rfl rfl (Nat.le_of_ble_eq_true rfl) dX5_drawn_8 ?_
    intro σ1 hσ1
    have hle : DCv (qC S) ≤ vN (qC S) := ffi_le _ _
    have u1 : isV σ1 0 (qC S) := isV_kc (by omega) (by omega) hv hσ1.2
    refine r_iload_n dX5_drawn_11 rfl ?_
    refine r_callVI (iP 0) hL (ctX2_slotDrawn l Ω _ 0 (DCv (qC S)) (by omega) (by omega) hσ1.1.2.2.2.1 _) kX5_drawn_187 (iP_lt (by omega)) ⟨_, _, _, cel_pic (by omega), rfl, rfl⟩ rfl rfl (Nat.le_of_ble_eq_true rfl) dX5_drawn_12 ?_
    refine r_istore_n dX5_drawn_15 (by decide) rfl ?_
    refine r_iload_n dX5_drawn_16 rfl ?_
    refine r_iconst (-1) dX5_drawn_17 (by decide) ?_
    refine r_icmp_ne 26 dX5_drawn_18 (by decide) (fun c18 => ?_) (fun c18 => ?_)
    ·
      obtain ⟨j, b, hj, hb, rfl, eo, e2⟩ := dr_some hn hσ1.1.2.2.2.2 c1 c18
      rw [e2]
      refine r_aload_n dX5_drawn_26 rfl ?_
      refine fX5_0 jX5_drawn_X5 lX5_drawn_10 dX5_drawn_27 ?_
      refine fX3_0 0 (by omega) jX5_drawn_X3 lX5_drawn_72 dX5_drawn_30 ?_
      refine r_iload_n dX5_drawn_33 rfl ?_
      refine r_aaldB 0 (by omega) b rfl (by omega) dX5_drawn_34 ?_
      refine fX0_0 (bx 0 b) (bx_lt (by omega) (by omega)) jX5_drawn_X0 lX5_drawn_156 dX5_drawn_35 ?_
      rw [(u1.2.2.2.2.2 b hb).1]
      exact r_iret hQ rfl dX5_drawn_38 (reJ_of (okC_of (by rw [oDrawn, if_neg c1, if_pos (nI_lt hj (by omega)), nI_clamp (by omega), eo, nI_clamp (by omega)]) (isC_kc h hσ1.2) (keepM_kc hσ1.2)))
    ·
      have n18 := dr_none hn hσ1.1.2.2.2.2 c1 c18
      refine r_bipush (-5) dX5_drawn_21 (by decide) ?_
      refine r_goto 38 dX5_drawn_23 (by decide) ?_
      exact r_iret hQ rfl dX5_drawn_38 (reJ_of (okC_of (by rw [oDrawn, if_neg c1, if_neg n18]) (isC_kc h hσ1.2) (keepM_kc hσ1.2)))
  ·
    replace c1 := Int32.not_le.mp c1
    refine r_bipush (-2) dX5_drawn_4 (by decide) ?_
    exact r_iret hQ rfl dX5_drawn_6 (reJ_of (okC_of (by rw [oDrawn, if_pos c1]) h (fun _ _ => rfl)))

set_option maxRecDepth 100000 in
set_option maxHeartbeats 4000000 in
theorem ctX5_waitsFor (l : Launch) (Ω : Om) (σ : Sg) (S : StV) (h : isC σ S) (x : Int32) : CtW l yX5_waitsFor wsX5_waitsFor (rmD 7) Ω [.ref (ad Ω 368), .int x] σ (reJ (okC σ (oWaits S x))) := by
  refine ct_intro [some (.ref (ad Ω 368)), some (.int x), none, none] (by decide) rfl rfl (Nat.le_of_ble_eq_true rfl) (fun Γ hL hQ => ?_)
  show AtW mX5_waitsFor Γ Ω σ 0 [some (.ref (ad Ω 368)), some (.int x), none, none] []
  obtain ⟨hv, ⟨pm, h0, hh⟩, hp, ht⟩ := id h
  have hn : vN (qC S) ≤ 16 := hv.1
  have hc : σ (iS 0) 1 = nI (vN (qC S)) := hv.2.1
  refine r_aload_n dX5_waitsFor_0 rfl ?_
  refine fX5_0 jX5_waitsFor_X5 lX5_waitsFor_10 dX5_waitsFor_1 ?_
  refine r_iload_n dX5_waitsFor_4 rfl ?_
  refine r_callVI (iS 0) hL (ctX3_slotOf l Ω _ 0 (vN (qC S)) (by omega) hn hc _) kX5_waitsFor_68 (iS_lt (by omega)) ⟨_, _, _, cel_sp (by omega), rfl, rfl⟩ rfl rfl (Nat.le_of_ble_eq_true rfl) dX5_waitsFor_5 ?_
  rw [v_slot hv]
  refine r_istore_n dX5_waitsFor_8 (by decide) rfl ?_
  refine r_iload_n dX5_waitsFor_9 rfl ?_
  refine r_iconst (-1) dX5_waitsFor_10 (by decide) ?_
  refine r_icmp_ne 16 dX5_waitsFor_11 (by decide) (fun c11 => ?_) (fun c11 => ?_)
  ·
    obtain ⟨k, hk, ek, e2⟩ := loc_some c11
    rw [e2]
    refine r_aload_n dX5_waitsFor_16 rfl ?_
    refine r_callVA (368) hL (ctX5_look l Ω _ _ hv) kX5_waitsFor_159 (by omega) ⟨_, _, _, rfl, rfl, rfl⟩ rfl rfl (Nat.le_of_ble_eq_true rfl) dX5_waitsFor_17 ?_
    intro σ1 hσ1
    have u1 : isV σ1 0 (qC S) := isV_kc (by omega) (by omega) hv hσ1.2
    refine r_iload_n dX5_waitsFor_20 rfl ?_
    refine r_callVI (iP 0) hL (ctX2_firstNotDrawnUnder l Ω _ 0 (vN (qC S)) (by omega) hn hσ1.1.1 k (by omega)) kX5_waitsFor_215 (iP_lt (by omega)) ⟨_, _, _, cel_pic (by omega), rfl, rfl⟩ rfl rfl (Nat.le_of_ble_eq_true rfl) dX5_waitsFor_21 ?_
    rw [waI_v hσ1.1 hk]
    refine r_istore_n dX5_waitsFor_24 (by decide) rfl ?_
    refine r_iload_n dX5_waitsFor_25 rfl ?_
    refine r_iconst (-1) dX5_waitsFor_26 (by decide) ?_
    refine r_icmp_ne 35 dX5_waitsFor_27 (by decide) (fun c27 => ?_) (fun c27 => ?_)
    ·
      obtain ⟨b, hb, e3⟩ : ∃ b, b < vN (qC S) ∧ waI (qC S) k = nI b := fI_some c27
      rw [e3]
      refine r_aload_n dX5_waitsFor_35 rfl ?_
      refine fX5_0 jX5_waitsFor_X5 lX5_waitsFor_10 dX5_waitsFor_36 ?_
      refine fX3_0 0 (by omega) jX5_waitsFor_X3 lX5_waitsFor_72 dX5_waitsFor_39 ?_
      refine r_iload_n dX5_waitsFor_42 rfl ?_
      refine r_aaldB 0 (by omega) b rfl (by omega) dX5_waitsFor_43 ?_
      refine fX0_0 (bx 0 b) (bx_lt (by omega) (by omega)) jX5_waitsFor_X0 lX5_waitsFor_156 dX5_waitsFor_44 ?_
      rw [(u1.2.2.2.2.2 b hb).1]
      exact r_iret hQ rfl dX5_waitsFor_47 (reJ_of (okC_of (by rw [oWaits, ek]; simp only; rw [if_neg c27, e3, nI_clamp (by omega)]) (isC_kc h hσ1.2) (keepM_kc hσ1.2)))
    ·
      refine r_bipush (-5) dX5_waitsFor_30 (by decide) ?_
      refine r_goto 47 dX5_waitsFor_32 (by decide) ?_
      exact r_iret hQ rfl dX5_waitsFor_47 (reJ_of (okC_of (by rw [oWaits, ek]; simp only; rw [if_pos c27]) (isC_kc h hσ1.2) (keepM_kc hσ1.2)))
  ·
    have ek := loc_none hn c11
    refine r_iconst (-1) dX5_waitsFor_14 (by decide) ?_
    exact r_iret hQ rfl dX5_waitsFor_15 (reJ_of (okC_of (by rw [oWaits, ek]) h (fun _ _ => rfl)))

set_option maxRecDepth 100000 in
set_option maxHeartbeats 4000000 in
theorem ctX5_drawnWithout (l : Launch) (Ω : Om) (σ : Sg) (S : StV) (h : isC σ S) (x : Int32) : CtW l yX5_drawnWithout wsX5_drawnWithout (rmD 6) Ω [.ref (ad Ω 368), .int x] σ (reJ (okC σ (oWithout S x))) := by
  refine ct_intro [some (.ref (ad Ω 368)), some (.int x), none] (by decide) rfl rfl (Nat.le_of_ble_eq_true rfl) (fun Γ hL hQ => ?_)
  show AtW mX5_drawnWithout Γ Ω σ 0 [some (.ref (ad Ω 368)), some (.int x), none] []
  obtain ⟨hv, ⟨pm, h0, hh⟩, hp, ht⟩ := id h
  have hn : vN (qC S) ≤ 16 := hv.1
  have hc : σ (iS 0) 1 = nI (vN (qC S)) := hv.2.1
  refine r_aload_n dX5_drawnWithout_0 rfl ?_
  refine fX5_0 jX5_drawnWithout_X5 lX5_drawnWithout_10 dX5_drawnWithout_1 ?_
  refine r_iload_n dX5_drawnWithout_4 rfl ?_
  refine r_callVI (iS 0) hL (ctX3_slotOf l Ω _ 0 (vN (qC S)) (by omega) hn hc _) kX5_drawnWithout_68 (iS_lt (by omega)) ⟨_, _, _, cel_sp (by omega), rfl, rfl⟩ rfl rfl (Nat.le_of_ble_eq_true rfl) dX5_drawnWithout_5 ?_
  rw [v_slot hv]
  refine r_istore_n dX5_drawnWithout_8 (by decide) rfl ?_
  refine r_iload_n dX5_drawnWithout_9 rfl ?_
  refine r_iconst (-1) dX5_drawnWithout_10 (by decide) ?_
  refine r_icmp_ne 16 dX5_drawnWithout_11 (by decide) (fun c11 => ?_) (fun c11 => ?_)
  ·
    obtain ⟨k, hk, ek, e2⟩ := loc_some c11
    rw [e2]
    refine r_aload_n dX5_drawnWithout_16 rfl ?_
    refine fX5_1 jX5_drawnWithout_X5 lX5_drawnWithout_16 dX5_drawnWithout_17 ?_
    refine r_aload_n dX5_drawnWithout_20 rfl ?_
    refine fX5_0 jX5_drawnWithout_X5 lX5_drawnWithout_10 dX5_drawnWithout_21 ?_
    refine r_callVV (iS 1) hL (ctX3_copyFrom l Ω σ 1 0 _ (by omega) (by omega) (by omega) hn hc) kX5_drawnWithout_57 (iS_lt (by omega)) ⟨_, _, _, cel_sp (by omega), rfl, rfl⟩ rfl rfl (Nat.le_of_ble_eq_true rfl) dX5_drawnWithout_24 ?_
    intro σ1 hσ1
    have k1 : keepC σ σ1 := keepC_fr hσ1.2
    have v1 : isV σ1 1 (qC S) := isV_sp hv hσ1.1
    refine r_aload_n dX5_drawnWithout_27 rfl ?_
    refine fX5_1 jX5_drawnWithout_X5 lX5_drawnWithout_16 dX5_drawnWithout_28 ?_
    refine r_iload_n dX5_drawnWithout_31 rfl ?_
    refine r_callVV (iS 1) hL (ctX3_takeOut l Ω _ 1 (vN (qC S)) (by omega) hn v1.2.1 k hk) kX5_drawnWithout_80 (iS_lt (by omega)) ⟨_, _, _, cel_sp (by omega), rfl, rfl⟩ rfl rfl (Nat.le_of_ble_eq_true rfl) dX5_drawnWithout_32 ?_
    intro σ2 hσ2
    have v2 := isV_take v1 hk hσ2
    have k2 := keepC_tr k1 (keepC_fr hσ2.2.2.2)
    refine r_aload_n dX5_drawnWithout_35 rfl ?_
    refine fX5_6 jX5_drawnWithout_X5 lX5_drawnWithout_39 dX5_drawnWithout_36 ?_
    refine r_aload_n dX5_drawnWithout_39 rfl ?_
    refine fX5_1 jX5_drawnWithout_X5 lX5_drawnWithout_16 dX5_drawnWithout_40 ?_
    refine r_callVV (iP 0) hL (ctX2_look l Ω σ2 0 1 _ (by omega) (by omega) v2.1 v2.2.1) kX5_drawnWithout_125 (iP_lt (by omega)) ⟨_, _, _, cel_pic (by omega), rfl, rfl⟩ rfl rfl (Nat.le_of_ble_eq_true rfl) dX5_drawnWithout_43 ?_
    intro σ3 hσ3
    obtain ⟨p3, f3⟩ := pcV_of v2 hσ3
    have k3 := keepC_tr k2 (keepC_pic (by omega) f3)
    refine r_aload_n dX5_drawnWithout_46 rfl ?_
    refine fX5_6 jX5_drawnWithout_X5 lX5_drawnWithout_39 dX5_drawnWithout_47 ?_
    refine fX2_5 0 (by omega) jX5_drawnWithout_X2 lX5_drawnWithout_196 dX5_drawnWithout_50 ?_
    rw [p3.2.2.2.1]
    exact r_iret hQ rfl dX5_drawnWithout_53 (reJ_of (okC_of (by rw [oWithout, ek]) (isC_kc h k3) (keepM_kc k3)))
  ·
    have ek := loc_none hn c11
    refine r_iconst (-1) dX5_drawnWithout_14 (by decide) ?_
    exact r_iret hQ rfl dX5_drawnWithout_15 (reJ_of (okC_of (by rw [oWithout, ek]) h (fun _ _ => rfl)))

set_option maxRecDepth 100000 in
set_option maxHeartbeats 4000000 in
theorem ctX5_pair (l : Launch) (Ω : Om) (σ : Sg) (S : StV) (h : isC σ S) (x y : Int32) : CtW l yX5_pair wsX5_pair (rmD 3) Ω [.ref (ad Ω 368), .int x, .int y] σ (reJ (okC σ (oPair S x y))) := by
  refine ct_intro [some (.ref (ad Ω 368)), some (.int x), some (.int y), none, none, none, none] (by decide) rfl rfl (Nat.le_of_ble_eq_true rfl) (fun Γ hL hQ => ?_)
  show AtW mX5_pair Γ Ω σ 0 [some (.ref (ad Ω 368)), some (.int x), some (.int y), none, none, none, none] []
  obtain ⟨hv, ⟨pm, h0, hh⟩, hp, ht⟩ := id h
  have hn : vN (qC S) ≤ 16 := hv.1
  have hc : σ (iS 0) 1 = nI (vN (qC S)) := hv.2.1
  refine r_aload_n dX5_pair_0 rfl ?_
  refine fX5_0 jX5_pair_X5 lX5_pair_10 dX5_pair_1 ?_
  refine r_iload_n dX5_pair_4 rfl ?_
  refine r_callVI (iS 0) hL (ctX3_slotOf l Ω _ 0 (vN (qC S)) (by omega) hn hc _) kX5_pair_68 (iS_lt (by omega)) ⟨_, _, _, cel_sp (by omega), rfl, rfl⟩ rfl rfl (Nat.le_of_ble_eq_true rfl) dX5_pair_5 ?_
  rw [v_slot hv]
  refine r_istore_n dX5_pair_8 (by decide) rfl ?_
  refine r_aload_n dX5_pair_9 rfl ?_
  refine fX5_0 jX5_pair_X5 lX5_pair_10 dX5_pair_10 ?_
  refine r_iload_n dX5_pair_13 rfl ?_
  refine r_callVI (iS 0) hL (ctX3_slotOf l Ω _ 0 (vN (qC S)) (by omega) hn hc _) kX5_pair_68 (iS_lt (by omega)) ⟨_, _, _, cel_sp (by omega), rfl, rfl⟩ rfl rfl (Nat.le_of_ble_eq_true rfl) dX5_pair_14 ?_
  rw [v_slot hv]
  refine r_istore dX5_pair_17 (by decide) rfl ?_
  refine r_iload_n dX5_pair_19 rfl ?_
  refine r_iconst (-1) dX5_pair_20 (by decide) ?_
  refine r_icmp_eq 30 dX5_pair_21 (by decide) (fun c21 => ?_) (fun c21 => ?_)
  ·
    have ek := loc_none hn c21
    refine r_iconst (-1) dX5_pair_30 (by decide) ?_
    exact r_iret hQ rfl dX5_pair_31 (reJ_of (okC_of (by rw [oPair, ek]) h (fun _ _ => rfl)))
  ·
    obtain ⟨a, ha, ek, e2⟩ := loc_some c21
    rw [e2]
    refine r_iload dX5_pair_24 rfl ?_
    refine r_iconst (-1) dX5_pair_26 (by decide) ?_
    refine r_icmp_ne 32 dX5_pair_27 (by decide) (fun c27 => ?_) (fun c27 => ?_)
    ·
      obtain ⟨b, hb, ek2, e3⟩ := loc_some c27
      rw [e3]
      refine r_iload_n dX5_pair_32 rfl ?_
      refine r_iload dX5_pair_33 rfl ?_
      refine r_icmp_ne 41 dX5_pair_35 (by decide) (fun c35 => ?_) (fun c35 => ?_)
      ·
        have n35 : ¬ a = b := fun q => c35 ((nI_eq (a := a) (b := b) (by omega) (by omega)).mpr q)
        refine r_aload_n dX5_pair_41 rfl ?_
        refine fX5_0 jX5_pair_X5 lX5_pair_10 dX5_pair_42 ?_
        refine fX3_0 0 (by omega) jX5_pair_X3 lX5_pair_72 dX5_pair_45 ?_
        refine r_iload_n dX5_pair_48 rfl ?_
        refine r_aaldB 0 (by omega) a rfl (by omega) dX5_pair_49 ?_
        refine r_aload_n dX5_pair_50 rfl ?_
        refine fX5_0 jX5_pair_X5 lX5_pair_10 dX5_pair_51 ?_
        refine fX3_0 0 (by omega) jX5_pair_X3 lX5_pair_72 dX5_pair_54 ?_
        refine r_iload dX5_pair_57 rfl ?_
        refine r_aaldB 0 (by omega) b rfl (by omega) dX5_pair_59 ?_
        refine r_callVI (iBo (bx 0 a)) hL (ctX0_directionOfHiding l Ω _ (bx 0 a) (bx 0 b) (bx_lt (by omega) (by omega)) (bx_lt (by omega) (by omega))) kX5_pair_183 (iB_lt (bx_lt (by omega) (by omega))) ⟨_, _, _, cel_box (bx_lt (by omega) (by omega)), rfl, rfl⟩ rfl rfl (Nat.le_of_ble_eq_true rfl) dX5_pair_60 ?_
        rw [show dhB (σ (iL (bx 0 a))) (σ (iH (bx 0 a))) (σ (iL (bx 0 b))) (σ (iH (bx 0 b))) = dhV (qC S) a b from dhB_c (v_lo hv ha) (v_hi hv ha) (v_lo hv hb) (v_hi hv hb)]
        refine r_istore dX5_pair_63 (by decide) rfl ?_
        refine r_iload dX5_pair_65 rfl ?_
        refine r_iconst (-1) dX5_pair_67 (by decide) ?_
        refine r_icmp_eq 76 dX5_pair_68 (by decide) (fun c68 => ?_) (fun c68 => ?_)
        ·
          refine r_aload_n dX5_pair_76 rfl ?_
          refine fX5_0 jX5_pair_X5 lX5_pair_10 dX5_pair_77 ?_
          refine fX3_0 0 (by omega) jX5_pair_X3 lX5_pair_72 dX5_pair_80 ?_
          refine r_iload dX5_pair_83 rfl ?_
          refine r_aaldB 0 (by omega) b rfl (by omega) dX5_pair_85 ?_
          refine r_aload_n dX5_pair_86 rfl ?_
          refine fX5_0 jX5_pair_X5 lX5_pair_10 dX5_pair_87 ?_
          refine fX3_0 0 (by omega) jX5_pair_X3 lX5_pair_72 dX5_pair_90 ?_
          refine r_iload_n dX5_pair_93 rfl ?_
          refine r_aaldB 0 (by omega) a rfl (by omega) dX5_pair_94 ?_
          refine r_callVI (iBo (bx 0 b)) hL (ctX0_directionOfHiding l Ω _ (bx 0 b) (bx 0 a) (bx_lt (by omega) (by omega)) (bx_lt (by omega) (by omega))) kX5_pair_183 (iB_lt (bx_lt (by omega) (by omega))) ⟨_, _, _, cel_box (bx_lt (by omega) (by omega)), rfl, rfl⟩ rfl rfl (Nat.le_of_ble_eq_true rfl) dX5_pair_95 ?_
          rw [show dhB (σ (iL (bx 0 b))) (σ (iH (bx 0 b))) (σ (iL (bx 0 a))) (σ (iH (bx 0 a))) = dhV (qC S) b a from dhB_c (v_lo hv hb) (v_hi hv hb) (v_lo hv ha) (v_hi hv ha)]
          refine r_istore dX5_pair_98 (by decide) rfl ?_
          refine r_iload dX5_pair_100 rfl ?_
          refine r_iconst (-1) dX5_pair_102 (by decide) ?_
          refine r_icmp_eq 113 dX5_pair_103 (by decide) (fun c103 => ?_) (fun c103 => ?_)
          ·
            refine r_iconst 0 dX5_pair_113 (by decide) ?_
            exact r_iret hQ rfl dX5_pair_114 (reJ_of (okC_of (by rw [oPair, ek, ek2]; simp only; rw [if_neg n35, if_neg (fun q => q c68), if_neg (fun q => q c103)]) h (fun _ _ => rfl)))
          ·
            refine r_iconst 4 dX5_pair_106 (by decide) ?_
            refine r_iload dX5_pair_107 rfl ?_
            refine r_iadd dX5_pair_109 ?_
            refine r_goto 114 dX5_pair_110 (by decide) ?_
            exact r_iret hQ rfl dX5_pair_114 (reJ_of (okC_of (by rw [oPair, ek, ek2]; simp only; rw [if_neg n35, if_neg (fun q => q c68), if_pos c103]) h (fun _ _ => rfl)))
        ·
          refine r_iconst 1 dX5_pair_71 (by decide) ?_
          refine r_iload dX5_pair_72 rfl ?_
          refine r_iadd dX5_pair_74 ?_
          exact r_iret hQ rfl dX5_pair_75 (reJ_of (okC_of (by rw [oPair, ek, ek2]; simp only; rw [if_neg n35, if_pos c68]) h (fun _ _ => rfl)))
      ·
        have n35 := (nI_eq (a := a) (b := b) (by omega) (by omega)).mp c35
        refine r_bipush (-2) dX5_pair_38 (by decide) ?_
        exact r_iret hQ rfl dX5_pair_40 (reJ_of (okC_of (by rw [oPair, ek, ek2]; simp only; rw [if_pos n35]) h (fun _ _ => rfl)))
    ·
      have ek2 := loc_none hn c27
      refine r_iconst (-1) dX5_pair_30 (by decide) ?_
      exact r_iret hQ rfl dX5_pair_31 (reJ_of (okC_of (by rw [oPair, ek, ek2]) h (fun _ _ => rfl)))
