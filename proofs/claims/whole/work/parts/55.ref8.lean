set_option maxRecDepth 100000 in
set_option maxHeartbeats 4000000 in
theorem ctX6_sign (l : Launch) (Ω : Om) (σ : Sg) (L : Nat) (t : Nat → Int32) (ht : txM σ L t) (j : Nat) (hp : σ 369 15 = nI j) (hj : j ≤ L) : CtW l yX6_sign wsX6_sign (rmD 0) Ω [.ref (ad Ω 369)] σ (roI (sgT t L j) σ) := by
  refine ct_intro [some (.ref (ad Ω 369))] (by decide) rfl rfl (Nat.le_of_ble_eq_true rfl) (fun Γ hL hQ => ?_)
  show AtW mX6_sign Γ Ω σ 0 [some (.ref (ad Ω 369))] []
  have hL80 := ht.2.1
  refine r_aload_n dX6_sign_0 rfl ?_
  refine fX6_15 jX6_sign_X6 lX6_sign_162 dX6_sign_1 ?_
  rw [hp]
  refine r_aload_n dX6_sign_4 rfl ?_
  refine fX6_7 jX6_sign_X6 lX6_sign_159 dX6_sign_5 ?_
  rw [ht.1]
  refine r_icmp_ge 23 dX6_sign_8 (by decide) (fun c8 => ?_) (fun c8 => ?_)
  ·
    replace c8 := Int32.not_lt.mpr c8
    have n8 := Nat.not_lt.mp (fun q => c8 ((nI_ltI (a := j) (b := L) (by omega) (by omega)).mpr q))
    refine r_iconst 0 dX6_sign_23 (by decide) ?_
    exact r_iret hQ rfl dX6_sign_24 (roI_of (by rw [sgT, if_neg (by omega)]))
  ·
    replace c8 := Int32.not_le.mp c8
    have n8 := (nI_ltI (a := j) (b := L) (by omega) (by omega)).mp c8
    refine r_aload_n dX6_sign_11 rfl ?_
    refine fX6_6 jX6_sign_X6 lX6_sign_22 dX6_sign_12 ?_
    refine r_aload_n dX6_sign_15 rfl ?_
    refine fX6_15 jX6_sign_X6 lX6_sign_162 dX6_sign_16 ?_
    rw [hp]
    refine ldM374 j rfl (by omega) dX6_sign_19 ?_
    rw [ht.2.2 j (by omega)]
    refine r_goto 24 dX6_sign_20 (by decide) ?_
    exact r_iret hQ rfl dX6_sign_24 (roI_of (by rw [sgT, if_pos (by omega)]))

set_option maxRecDepth 100000 in
set_option maxHeartbeats 4000000 in
theorem ctX6_take (l : Launch) (Ω : Om) (σ : Sg) (j : Nat) (hp : σ 369 15 = nI j) (w : Bool) (hw : σ 369 16 = bI w) (b : Bool) : CtW l yX6_take wsX6_take (rmD 0) Ω [.ref (ad Ω 369), .int (bI b)] σ (reV (fun σ1 => tkT σ j w b σ1)) := by
  refine ct_intro [some (.ref (ad Ω 369)), some (.int (bI b))] (by decide) rfl rfl (Nat.le_of_ble_eq_true rfl) (fun Γ hL hQ => ?_)
  show AtW mX6_take Γ Ω σ 0 [some (.ref (ad Ω 369)), some (.int (bI b))] []
  have J1 : ∀ (x : Int32) (y : Bool) (hy : y = (w || !b)) (hx : x = bI y), AtW mX6_take Γ Ω σ 17 [some (.ref (ad Ω 369)), some (.int (bI b))] [.int x, .ref (ad Ω 369)] := by
    intro x y hy hx
    refine pX6_16 (by rw [hx]; exact bI_01 _) jX6_take_X6 lX6_take_165 dX6_take_17 ?_
    refine r_aload_n dX6_take_20 rfl ?_
    refine r_dup dX6_take_21 rfl ?_
    refine fX6_15 jX6_take_X6 lX6_take_162 dX6_take_22 ?_
    rw [up_get, if_neg (by omega), hp]
    refine r_aload_n dX6_take_25 rfl ?_
    refine fX6_16 jX6_take_X6 lX6_take_165 dX6_take_26 ?_
    rw [up_get, if_pos ⟨rfl, rfl⟩, hx]
    refine r_if_eq 36 dX6_take_29 (by decide) (fun c29 => ?_) (fun c29 => ?_)
    ·
      refine r_iconst 1 dX6_take_36 (by decide) ?_
      refine r_iadd dX6_take_37 ?_
      refine pX6_15 jX6_take_X6 lX6_take_162 dX6_take_38 ?_
      exact r_vret hQ rfl dX6_take_41 (reV_of (by rw [tkT, ← hy, bI_f c29, if_neg (by decide), nI_1]))
    ·
      refine r_iconst 0 dX6_take_32 (by decide) ?_
      refine r_goto 37 dX6_take_33 (by decide) ?_
      refine r_iadd dX6_take_37 ?_
      refine pX6_15 jX6_take_X6 lX6_take_162 dX6_take_38 ?_
      exact r_vret hQ rfl dX6_take_41 (reV_of (by rw [tkT, ← hy, bI_t c29, if_pos rfl, Int32.add_zero]))
  refine r_aload_n dX6_take_0 rfl ?_
  refine r_aload_n dX6_take_1 rfl ?_
  refine fX6_16 jX6_take_X6 lX6_take_165 dX6_take_2 ?_
  rw [hw]
  refine r_if_ne 12 dX6_take_5 (by decide) (fun c5 => ?_) (fun c5 => ?_)
  ·
    refine r_iconst 1 dX6_take_12 (by decide) ?_
    refine r_goto 17 dX6_take_13 (by decide) ?_
    exact J1 1 (w || !b) rfl (by rw [bI_t c5]; rfl)
  ·
    refine r_iload_n dX6_take_8 rfl ?_
    refine r_if_ne 16 dX6_take_9 (by decide) (fun c9 => ?_) (fun c9 => ?_)
    ·
      refine r_iconst 0 dX6_take_16 (by decide) ?_
      exact J1 0 (w || !b) rfl (by rw [bI_f c5, bI_t c9]; rfl)
    ·
      refine r_iconst 1 dX6_take_12 (by decide) ?_
      refine r_goto 17 dX6_take_13 (by decide) ?_
      exact J1 1 (w || !b) rfl (by rw [bI_f c5, bI_f c9]; rfl)

set_option maxRecDepth 100000 in
set_option maxHeartbeats 4000000 in
theorem ctX6_readNumber (l : Launch) (Ω : Om) (σ σ0 : Sg) (L : Nat) (t : Nat → Int32) (j pl c : Nat) (vs : Nat → Int32) (lo hi : Int32) (elo : lo = if 3 ≤ pl then 1 else 0) (ehi : hi = if 3 ≤ pl then 12 else 31) (h : rpI σ0 L t σ j false) (hr : rdS t j = some (pl, -1, c, vs)) : CtW l yX6_readNumber wsX6_readNumber (rmD 1) Ω [.ref (ad Ω 369), .int lo, .int hi] σ (reJ (fun r σ1 => rnI σ0 L t j pl c vs r σ1 ∧ σ1 380 = σ 380)) := by
  refine ct_intro [some (.ref (ad Ω 369)), some (.int lo), some (.int hi), none] (by decide) rfl rfl (Nat.le_of_ble_eq_true rfl) (fun Γ hL hQ => ?_)
  show AtW mX6_readNumber Γ Ω σ 0 [some (.ref (ad Ω 369)), some (.int lo), some (.int hi), none] []
  have J0 : ∀ (τ : Sg) (x : Int32) (h1 : rpI σ0 L t τ j true) (hf : rdF t L = nI j) (hG : τ 380 = σ 380), AtW mX6_readNumber Γ Ω τ 20 [some (.ref (ad Ω 369)), some (.int lo), some (.int hi), some (.int x)] [] := by
    intro τ x h1 hf hG
    have e16 := h1.2.2.2.1
    refine r_aload_n dX6_readNumber_20 rfl ?_
    refine fX6_16 jX6_readNumber_X6 lX6_readNumber_165 dX6_readNumber_21 ?_
    rw [e16]
    refine r_if_ne 88 dX6_readNumber_24 (by decide) (fun c24 => ?_) (fun c24 => absurd c24 (by decide))
    refine r_iload_n dX6_readNumber_88 rfl ?_
    exact r_iret hQ rfl dX6_readNumber_89 (reJ_of ⟨Or.inl ⟨h1, hf⟩, hG⟩)
  have L1 : ∀ (N : Nat) (q d : Nat) (τ : Sg), j < q → d ≤ 31 → rpI σ0 L t τ q false → rdS t q = some (pl, nI d, c, vs) → τ 380 = σ 380 → L < q + N → AtW mX6_readNumber Γ Ω τ 20 [some (.ref (ad Ω 369)), some (.int lo), some (.int hi), some (.int (nI d))] [] := by
    intro N
    induction N with
    | zero =>
      intro q d τ hq hd hrp hrd hG hN
      exact absurd hN (by have := hrp.2.2.2.2; omega)
    | succ N ih =>
      intro q d τ hq hd hrp hrd hG hN
      have hqL := hrp.2.2.2.2
      have e16 := hrp.2.2.2.1
      refine r_aload_n dX6_readNumber_20 rfl ?_
      refine fX6_16 jX6_readNumber_X6 lX6_readNumber_165 dX6_readNumber_21 ?_
      rw [e16]
      refine r_if_ne 88 dX6_readNumber_24 (by decide) (fun c24 => absurd c24 (by decide)) (fun c24 => ?_)
      refine r_iload_n dX6_readNumber_27 rfl ?_
      refine r_if_le 88 dX6_readNumber_28 (by decide) (fun c28 => ?_) (fun c28 => ?_)
      ·
        replace c28 := Int32.not_lt.mpr c28
        have n28 := Nat.not_lt.mp (fun q => c28 ((nI_ltI (a := 0) (b := d) (by omega) (by omega)).mpr q))
        refine r_iload_n dX6_readNumber_88 rfl ?_
        exact r_iret hQ rfl dX6_readNumber_89 (reJ_of ⟨Or.inr ⟨q, d, hq, hd, rfl, hrp, hrd, num_stop0 c28 (by omega)⟩, hG⟩)
      ·
        replace c28 := Int32.not_le.mp c28
        have n28 := (nI_ltI (a := 0) (b := d) (by omega) (by omega)).mp c28
        refine r_aload_n dX6_readNumber_31 rfl ?_
        refine r_callVI (369) hL (ctX6_sign l Ω _ L t hrp.2.1 q hrp.2.2.1 hrp.2.2.2.2) kX6_readNumber_168 (by omega) ⟨_, _, _, rfl, rfl, rfl⟩ rfl rfl (Nat.le_of_ble_eq_true rfl) dX6_readNumber_32 ?_
        refine r_i2l dX6_readNumber_35 ?_
        refine r_bipush 48 dX6_readNumber_36 (by decide) ?_
        refine r_bipush 57 dX6_readNumber_38 (by decide) ?_
        refine r_callSI hL (ctX6_in l Ω _ _ _ _) kX6_readNumber_53 rfl rfl (Nat.le_of_ble_eq_true rfl) dX6_readNumber_40 ?_
        refine r_if_eq 88 dX6_readNumber_43 (by decide) (fun c43 => ?_) (fun c43 => ?_)
        ·
          replace c43 := bI_f c43
          rw [inL_W] at c43
          refine r_iload_n dX6_readNumber_88 rfl ?_
          exact r_iret hQ rfl dX6_readNumber_89 (reJ_of ⟨Or.inr ⟨q, d, hq, hd, rfl, hrp, hrd, num_stopd c43⟩, hG⟩)
        ·
          replace c43 := bI_t c43
          rw [inL_W] at c43
          refine r_bipush 10 dX6_readNumber_46 (by decide) ?_
          refine r_iload_n dX6_readNumber_48 rfl ?_
          refine r_imul dX6_readNumber_49 ?_
          refine r_aload_n dX6_readNumber_50 rfl ?_
          refine r_callVI (369) hL (ctX6_sign l Ω _ L t hrp.2.1 q hrp.2.2.1 hrp.2.2.2.2) kX6_readNumber_168 (by omega) ⟨_, _, _, rfl, rfl, rfl⟩ rfl rfl (Nat.le_of_ble_eq_true rfl) dX6_readNumber_51 ?_
          refine r_iadd dX6_readNumber_54 ?_
          refine r_bipush 48 dX6_readNumber_55 (by decide) ?_
          refine r_isub dX6_readNumber_57 ?_
          refine r_iload_n dX6_readNumber_58 rfl ?_
          refine r_icmp_gt 88 dX6_readNumber_59 (by decide) (fun c59 => ?_) (fun c59 => ?_)
          ·
            refine r_iload_n dX6_readNumber_88 rfl ?_
            exact r_iret hQ rfl dX6_readNumber_89 (reJ_of ⟨Or.inr ⟨q, d, hq, hd, rfl, hrp, hrd, num_stopm c28 (by omega) (by rw [← ehi]; exact c59)⟩, hG⟩)
          ·
            obtain ⟨hqL2, e, he, ee, hre⟩ := num_step c28 hd c43 (by rw [← ehi]; exact c59) hrd
            refine r_bipush 10 dX6_readNumber_62 (by decide) ?_
            refine r_iload_n dX6_readNumber_64 rfl ?_
            refine r_imul dX6_readNumber_65 ?_
            refine r_aload_n dX6_readNumber_66 rfl ?_
            refine r_callVI (369) hL (ctX6_sign l Ω _ L t hrp.2.1 q hrp.2.2.1 hrp.2.2.2.2) kX6_readNumber_168 (by omega) ⟨_, _, _, rfl, rfl, rfl⟩ rfl rfl (Nat.le_of_ble_eq_true rfl) dX6_readNumber_67 ?_
            refine r_iadd dX6_readNumber_70 ?_
            refine r_bipush 48 dX6_readNumber_71 (by decide) ?_
            refine r_isub dX6_readNumber_73 ?_
            rw [ee]
            refine r_istore_n dX6_readNumber_74 (by decide) rfl ?_
            refine r_aload_n dX6_readNumber_75 rfl ?_
            refine r_dup dX6_readNumber_76 rfl ?_
            refine fX6_15 jX6_readNumber_X6 lX6_readNumber_162 dX6_readNumber_77 ?_
            rw [hrp.2.2.1]
            refine r_iconst 1 dX6_readNumber_80 (by decide) ?_
            refine r_iadd dX6_readNumber_81 ?_
            rw [nI_1]
            refine pX6_15 jX6_readNumber_X6 lX6_readNumber_162 dX6_readNumber_82 ?_
            refine r_goto 20 dX6_readNumber_85 (by decide) ?_
            exact ih (q + 1) e _ (by omega) he (rp_inc hrp hqL2) hre (by rw [up_ne (by omega)]; exact hG) (by omega)
  refine r_aload_n dX6_readNumber_0 rfl ?_
  refine r_callVI (369) hL (ctX6_sign l Ω _ L t h.2.1 j h.2.2.1 h.2.2.2.2) kX6_readNumber_168 (by omega) ⟨_, _, _, rfl, rfl, rfl⟩ rfl rfl (Nat.le_of_ble_eq_true rfl) dX6_readNumber_1 ?_
  refine r_bipush 48 dX6_readNumber_4 (by decide) ?_
  refine r_isub dX6_readNumber_6 ?_
  refine r_istore_n dX6_readNumber_7 (by decide) rfl ?_
  refine r_aload_n dX6_readNumber_8 rfl ?_
  refine r_iload_n dX6_readNumber_9 rfl ?_
  refine r_i2l dX6_readNumber_10 ?_
  refine r_iload_n dX6_readNumber_11 rfl ?_
  refine r_bipush 9 dX6_readNumber_12 (by decide) ?_
  refine r_callSI hL (ctX6_in l Ω _ _ _ _) kX6_readNumber_53 rfl rfl (Nat.le_of_ble_eq_true rfl) dX6_readNumber_14 ?_
  refine r_callVV (369) hL (ctX6_take l Ω _ j h.2.2.1 false h.2.2.2.1 _) kX6_readNumber_171 (by omega) ⟨_, _, _, rfl, rfl, rfl⟩ rfl rfl (Nat.le_of_ble_eq_true rfl) dX6_readNumber_17 ?_
  intro σ1 hσ1
  rw [show inL (sgT t L j - 48).toInt64 lo 9 = inW (sgT t L j - 48) (if 3 ≤ pl then 1 else 0) 9 from by rw [inL_W, elo]] at hσ1
  cases hb : inW (sgT t L j - 48) (if 3 ≤ pl then 1 else 0) 9 with
  | false =>
    rw [hb] at hσ1
    exact J0 σ1 _ (rp_take h hσ1 (fun z => by cases z)) (num_bad h.2.2.2.2 hr hb) (by rw [hσ1, up_ne (by omega), up_ne (by omega)])
  | true =>
    rw [hb] at hσ1
    obtain ⟨u1, k, u2, u3, u4, u5⟩ := num_ok h.2.2.2.2 hr hb
    rw [u4]
    exact L1 (L + 1) (j + 1) k σ1 (by omega) (by omega) (rp_take h hσ1 (fun _ => u1)) u5 (by rw [hσ1, up_ne (by omega), up_ne (by omega)]) (by omega)
