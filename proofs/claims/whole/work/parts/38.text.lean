set_option maxRecDepth 100000 in
set_option maxHeartbeats 4000000 in
theorem ctX4_withDigit (l : Launch) (Ω : Om) (σ : Sg) (v d : Int32) (pl : Nat) (hpl : pl < 6) : CtW l yX4_withDigit wsX4_withDigit (rmD 0) Ω [.int v, .int d, .int (nI pl)] σ (roI (wdG v d (decide (3 ≤ pl))) σ) := by
  refine ct_intro [some (.int v), some (.int d), some (.int (nI pl)), none, none, none] (by decide) rfl rfl (Nat.le_of_ble_eq_true rfl) (fun Γ hL hQ => ?_)
  show AtW mX4_withDigit Γ Ω σ 0 [some (.int v), some (.int d), some (.int (nI pl)), none, none, none] []
  refine r_iload_n dX4_withDigit_0 rfl ?_
  refine r_iconst 3 dX4_withDigit_1 (by decide) ?_
  refine r_icmp_lt 9 dX4_withDigit_2 (by decide) (fun c2 => ?_) (fun c2 => ?_)
  ·
    have n2 := (nI_ltI (a := pl) (b := 3) (by omega) (by omega)).mp c2
    have e3 : decide (3 ≤ pl) = false := decide_eq_false (by omega)
    refine r_iconst 0 dX4_withDigit_9 (by decide) ?_
    refine r_istore_n dX4_withDigit_10 (by decide) rfl ?_
    refine r_iload_n dX4_withDigit_11 rfl ?_
    refine r_iconst (-1) dX4_withDigit_12 (by decide) ?_
    refine r_icmp_ne 31 dX4_withDigit_13 (by decide) (fun c13 => ?_) (fun c13 => ?_)
    ·
      refine r_iload_n dX4_withDigit_31 rfl ?_
      refine r_bipush 10 dX4_withDigit_32 (by decide) ?_
      refine r_imul dX4_withDigit_34 ?_
      refine r_iload_n dX4_withDigit_35 rfl ?_
      refine r_iadd dX4_withDigit_36 ?_
      refine r_istore dX4_withDigit_37 (by decide) rfl ?_
      refine r_iload dX4_withDigit_39 rfl ?_
      refine r_iload_n dX4_withDigit_41 rfl ?_
      refine r_if_eq 50 dX4_withDigit_42 (by decide) (fun c42 => ?_) (fun c42 => absurd c42 (by decide))
      refine r_bipush 31 dX4_withDigit_50 (by decide) ?_
      refine r_icmp_le 59 dX4_withDigit_52 (by decide) (fun c52 => ?_) (fun c52 => ?_)
      ·
        replace c52 := Int32.not_lt.mpr c52
        refine r_iconst 0 dX4_withDigit_59 (by decide) ?_
        refine r_istore dX4_withDigit_60 (by decide) rfl ?_
        refine r_iload_n dX4_withDigit_62 rfl ?_
        refine r_if_eq 71 dX4_withDigit_63 (by decide) (fun c63 => ?_) (fun c63 => ?_)
        ·
          refine r_bipush (-2) dX4_withDigit_71 (by decide) ?_
          refine r_goto 78 dX4_withDigit_73 (by decide) ?_
          exact r_iret hQ rfl dX4_withDigit_78 (roI_of (by unfold wdG; rw [e3]; simp [c13, *]))
        ·
          refine r_iload dX4_withDigit_66 rfl ?_
          refine r_if_eq 76 dX4_withDigit_68 (by decide) (fun c68 => ?_) (fun c68 => absurd c68 (by decide))
          refine r_iload dX4_withDigit_76 rfl ?_
          exact r_iret hQ rfl dX4_withDigit_78 (roI_of (by unfold wdG; rw [e3]; simp [c13, *]))
      ·
        replace c52 := Int32.not_le.mp c52
        refine r_iconst 1 dX4_withDigit_55 (by decide) ?_
        refine r_goto 60 dX4_withDigit_56 (by decide) ?_
        refine r_istore dX4_withDigit_60 (by decide) rfl ?_
        refine r_iload_n dX4_withDigit_62 rfl ?_
        refine r_if_eq 71 dX4_withDigit_63 (by decide) (fun c63 => ?_) (fun c63 => ?_)
        ·
          refine r_bipush (-2) dX4_withDigit_71 (by decide) ?_
          refine r_goto 78 dX4_withDigit_73 (by decide) ?_
          exact r_iret hQ rfl dX4_withDigit_78 (roI_of (by unfold wdG; rw [e3]; simp [c13, *]))
        ·
          refine r_iload dX4_withDigit_66 rfl ?_
          refine r_if_eq 76 dX4_withDigit_68 (by decide) (fun c68 => absurd c68 (by decide)) (fun c68 => ?_)
          refine r_bipush (-2) dX4_withDigit_71 (by decide) ?_
          refine r_goto 78 dX4_withDigit_73 (by decide) ?_
          exact r_iret hQ rfl dX4_withDigit_78 (roI_of (by unfold wdG; rw [e3]; simp [c13, *]))
    ·
      refine r_iload_n dX4_withDigit_16 rfl ?_
      refine r_if_eq 29 dX4_withDigit_17 (by decide) (fun c17 => ?_) (fun c17 => absurd c17 (by decide))
      refine r_iload_n dX4_withDigit_29 rfl ?_
      exact r_iret hQ rfl dX4_withDigit_30 (roI_of (by unfold wdG; rw [e3]; simp [c13, *]))
  ·
    have n2 := Nat.not_lt.mp (fun q => c2 ((nI_ltI (a := pl) (b := 3) (by omega) (by omega)).mpr q))
    have e3 : decide (3 ≤ pl) = true := decide_eq_true n2
    refine r_iconst 1 dX4_withDigit_5 (by decide) ?_
    refine r_goto 10 dX4_withDigit_6 (by decide) ?_
    refine r_istore_n dX4_withDigit_10 (by decide) rfl ?_
    refine r_iload_n dX4_withDigit_11 rfl ?_
    refine r_iconst (-1) dX4_withDigit_12 (by decide) ?_
    refine r_icmp_ne 31 dX4_withDigit_13 (by decide) (fun c13 => ?_) (fun c13 => ?_)
    ·
      refine r_iload_n dX4_withDigit_31 rfl ?_
      refine r_bipush 10 dX4_withDigit_32 (by decide) ?_
      refine r_imul dX4_withDigit_34 ?_
      refine r_iload_n dX4_withDigit_35 rfl ?_
      refine r_iadd dX4_withDigit_36 ?_
      refine r_istore dX4_withDigit_37 (by decide) rfl ?_
      refine r_iload dX4_withDigit_39 rfl ?_
      refine r_iload_n dX4_withDigit_41 rfl ?_
      refine r_if_eq 50 dX4_withDigit_42 (by decide) (fun c42 => absurd c42 (by decide)) (fun c42 => ?_)
      refine r_bipush 12 dX4_withDigit_45 (by decide) ?_
      refine r_goto 52 dX4_withDigit_47 (by decide) ?_
      refine r_icmp_le 59 dX4_withDigit_52 (by decide) (fun c52 => ?_) (fun c52 => ?_)
      ·
        replace c52 := Int32.not_lt.mpr c52
        refine r_iconst 0 dX4_withDigit_59 (by decide) ?_
        refine r_istore dX4_withDigit_60 (by decide) rfl ?_
        refine r_iload_n dX4_withDigit_62 rfl ?_
        refine r_if_eq 71 dX4_withDigit_63 (by decide) (fun c63 => ?_) (fun c63 => ?_)
        ·
          refine r_bipush (-2) dX4_withDigit_71 (by decide) ?_
          refine r_goto 78 dX4_withDigit_73 (by decide) ?_
          exact r_iret hQ rfl dX4_withDigit_78 (roI_of (by unfold wdG; rw [e3]; simp [c13, *]))
        ·
          refine r_iload dX4_withDigit_66 rfl ?_
          refine r_if_eq 76 dX4_withDigit_68 (by decide) (fun c68 => ?_) (fun c68 => absurd c68 (by decide))
          refine r_iload dX4_withDigit_76 rfl ?_
          exact r_iret hQ rfl dX4_withDigit_78 (roI_of (by unfold wdG; rw [e3]; simp [c13, *]))
      ·
        replace c52 := Int32.not_le.mp c52
        refine r_iconst 1 dX4_withDigit_55 (by decide) ?_
        refine r_goto 60 dX4_withDigit_56 (by decide) ?_
        refine r_istore dX4_withDigit_60 (by decide) rfl ?_
        refine r_iload_n dX4_withDigit_62 rfl ?_
        refine r_if_eq 71 dX4_withDigit_63 (by decide) (fun c63 => ?_) (fun c63 => ?_)
        ·
          refine r_bipush (-2) dX4_withDigit_71 (by decide) ?_
          refine r_goto 78 dX4_withDigit_73 (by decide) ?_
          exact r_iret hQ rfl dX4_withDigit_78 (roI_of (by unfold wdG; rw [e3]; simp [c13, *]))
        ·
          refine r_iload dX4_withDigit_66 rfl ?_
          refine r_if_eq 76 dX4_withDigit_68 (by decide) (fun c68 => absurd c68 (by decide)) (fun c68 => ?_)
          refine r_bipush (-2) dX4_withDigit_71 (by decide) ?_
          refine r_goto 78 dX4_withDigit_73 (by decide) ?_
          exact r_iret hQ rfl dX4_withDigit_78 (roI_of (by unfold wdG; rw [e3]; simp [c13, *]))
    ·
      refine r_iload_n dX4_withDigit_16 rfl ?_
      refine r_if_eq 29 dX4_withDigit_17 (by decide) (fun c17 => absurd c17 (by decide)) (fun c17 => ?_)
      refine r_iload_n dX4_withDigit_20 rfl ?_
      refine r_if_ne 29 dX4_withDigit_21 (by decide) (fun c21 => ?_) (fun c21 => ?_)
      ·
        refine r_iload_n dX4_withDigit_29 rfl ?_
        exact r_iret hQ rfl dX4_withDigit_30 (roI_of (by unfold wdG; rw [e3]; simp [c13, *]))
      ·
        refine r_bipush (-2) dX4_withDigit_24 (by decide) ?_
        refine r_goto 30 dX4_withDigit_26 (by decide) ?_
        exact r_iret hQ rfl dX4_withDigit_30 (roI_of (by unfold wdG; rw [e3]; simp [c13, *]))

set_option maxRecDepth 100000 in
set_option maxHeartbeats 4000000 in
theorem ctX4_signBehind (l : Launch) (Ω : Om) (σ : Sg) (pl : Nat) (hpl : pl < 6) : CtW l yX4_signBehind wsX4_signBehind (rmD 0) Ω [.int (nI pl)] σ (roI (sgB pl) σ) := by
  refine ct_intro [some (.int (nI pl))] (by decide) rfl rfl (Nat.le_of_ble_eq_true rfl) (fun Γ hL hQ => ?_)
  show AtW mX4_signBehind Γ Ω σ 0 [some (.int (nI pl))] []
  refine r_iload_n dX4_signBehind_0 rfl ?_
  refine r_iconst 2 dX4_signBehind_1 (by decide) ?_
  refine r_icmp_ne 8 dX4_signBehind_2 (by decide) (fun c2 => ?_) (fun c2 => ?_)
  ·
    have n2 : ¬ pl = 2 := fun q => c2 ((nI_eq (a := pl) (b := 2) (by omega) (by omega)).mpr q)
    refine r_iload_n dX4_signBehind_8 rfl ?_
    refine r_iconst 5 dX4_signBehind_9 (by decide) ?_
    refine r_icmp_ne 18 dX4_signBehind_10 (by decide) (fun c10 => ?_) (fun c10 => ?_)
    ·
      have n10 : ¬ pl = 5 := fun q => c10 ((nI_eq (a := pl) (b := 5) (by omega) (by omega)).mpr q)
      refine r_bipush 44 dX4_signBehind_18 (by decide) ?_
      exact r_cret hQ rfl (by decide) dX4_signBehind_20 (roI_of (by unfold sgB; simp [*]))
    ·
      have n10 := (nI_eq (a := pl) (b := 5) (by omega) (by omega)).mp c10
      refine r_bipush 59 dX4_signBehind_13 (by decide) ?_
      refine r_goto 20 dX4_signBehind_15 (by decide) ?_
      exact r_cret hQ rfl (by decide) dX4_signBehind_20 (roI_of (by unfold sgB; simp [*]))
  ·
    have n2 := (nI_eq (a := pl) (b := 2) (by omega) (by omega)).mp c2
    refine r_bipush 58 dX4_signBehind_5 (by decide) ?_
    exact r_cret hQ rfl (by decide) dX4_signBehind_7 (roI_of (by unfold sgB; simp [*]))

set_option maxRecDepth 100000 in
set_option maxHeartbeats 4000000 in
theorem ctX4_append (l : Launch) (Ω : Om) (σ : Sg) (L : Nat) (hL : L ≤ 80) (hl : σ 365 1 = nI L) (x : Int32) (hx : vp_nar .char x = x) : CtW l yX4_append wsX4_append (rmD 0) Ω [.ref (ad Ω 365), .int x] σ (reJ (fun r σ1 => (L < 80 → r = 1 ∧ σ1 = upS (upS σ 366 L x) 365 1 (nI (L + 1))) ∧ (¬ L < 80 → r = 0 ∧ σ1 = σ))) := by
  refine ct_intro [some (.ref (ad Ω 365)), some (.int x)] (by decide) rfl rfl (Nat.le_of_ble_eq_true rfl) (fun Γ hL hQ => ?_)
  show AtW mX4_append Γ Ω σ 0 [some (.ref (ad Ω 365)), some (.int x)] []
  refine r_aload_n dX4_append_0 rfl ?_
  refine fX4_1 jX4_append_X4 lX4_append_19 dX4_append_1 ?_
  rw [hl]
  refine r_bipush 80 dX4_append_4 (by decide) ?_
  refine r_icmp_lt 11 dX4_append_6 (by decide) (fun c6 => ?_) (fun c6 => ?_)
  ·
    have n6 := (nI_ltI (a := L) (b := 80) (by omega) (by omega)).mp c6
    refine r_aload_n dX4_append_11 rfl ?_
    refine fX4_0 jX4_append_X4 lX4_append_9 dX4_append_12 ?_
    refine r_aload_n dX4_append_15 rfl ?_
    refine fX4_1 jX4_append_X4 lX4_append_19 dX4_append_16 ?_
    rw [hl]
    refine r_iload_n dX4_append_19 rfl ?_
    refine r_cast L rfl (by omega) (hx) dX4_append_20 ?_
    refine r_aload_n dX4_append_21 rfl ?_
    refine r_dup dX4_append_22 rfl ?_
    refine fX4_1 jX4_append_X4 lX4_append_19 dX4_append_23 ?_
    rw [up_ne (show 365 ≠ 366 by omega), hl]
    refine r_iconst 1 dX4_append_26 (by decide) ?_
    refine r_iadd dX4_append_27 ?_
    rw [nI_1]
    refine pX4_1 jX4_append_X4 lX4_append_19 dX4_append_28 ?_
    refine r_iconst 1 dX4_append_31 (by decide) ?_
    exact r_zret hQ rfl ((by decide)) dX4_append_32 (reJ_of ⟨fun _ => ⟨rfl, rfl⟩, fun q => absurd n6 q⟩)
  ·
    have n6 := Nat.not_lt.mp (fun q => c6 ((nI_ltI (a := L) (b := 80) (by omega) (by omega)).mpr q))
    refine r_iconst 0 dX4_append_9 (by decide) ?_
    exact r_zret hQ rfl ((by decide)) dX4_append_10 (reJ_of ⟨fun q => absurd q (by omega), fun _ => ⟨rfl, rfl⟩⟩)

set_option maxRecDepth 100000 in
set_option maxHeartbeats 4000000 in
theorem ctX4_store (l : Launch) (Ω : Om) (σ : Sg) (c : Nat) (hc : σ 365 3 = nI c) (hc4 : c < 41) (x : Int32) : CtW l yX4_store wsX4_store (rmD 0) Ω [.ref (ad Ω 365), .int x] σ (reV (stoI σ c x)) := by
  refine ct_intro [some (.ref (ad Ω 365)), some (.int x)] (by decide) rfl rfl (Nat.le_of_ble_eq_true rfl) (fun Γ hL hQ => ?_)
  show AtW mX4_store Γ Ω σ 0 [some (.ref (ad Ω 365)), some (.int x)] []
  refine r_aload_n dX4_store_0 rfl ?_
  refine fX4_3 jX4_store_X4 lX4_store_23 dX4_store_1 ?_
  rw [hc]
  refine r_aload_n dX4_store_4 rfl ?_
  refine fX4_2 jX4_store_X4 lX4_store_15 dX4_store_5 ?_
  refine r_alenI (367) (by first | omega | (unfold iP; omega)) (rfl) dX4_store_8 ?_
  refine r_icmp_ge 32 dX4_store_9 (by decide) (fun c9 => absurd c9 (nI_ge (by omega) (by omega))) (fun c9 => ?_)
  refine r_aload_n dX4_store_12 rfl ?_
  refine fX4_2 jX4_store_X4 lX4_store_15 dX4_store_13 ?_
  refine r_aload_n dX4_store_16 rfl ?_
  refine fX4_3 jX4_store_X4 lX4_store_23 dX4_store_17 ?_
  rw [hc]
  refine r_iload_n dX4_store_20 rfl ?_
  refine stVA c rfl (by omega) dX4_store_21 ?_
  refine r_aload_n dX4_store_22 rfl ?_
  refine r_dup dX4_store_23 rfl ?_
  refine fX4_3 jX4_store_X4 lX4_store_23 dX4_store_24 ?_
  rw [up_ne (show 365 ≠ 367 by omega), hc]
  refine r_iconst 1 dX4_store_27 (by decide) ?_
  refine r_iadd dX4_store_28 ?_
  rw [nI_1]
  refine pX4_3 jX4_store_X4 lX4_store_23 dX4_store_29 ?_
  exact r_vret hQ rfl dX4_store_32 (reV_of rfl)

set_option maxRecDepth 100000 in
set_option maxHeartbeats 4000000 in
theorem ctX4_boxCount (l : Launch) (Ω : Om) (σ : Sg) (m : Nat) (hm : σ 365 3 = nI m) (hm4 : m ≤ 41) : CtW l yX4_boxCount wsX4_boxCount (rmD 0) Ω [.ref (ad Ω 365)] σ (roI (nI (m / 6)) σ) := by
  refine ct_intro [some (.ref (ad Ω 365))] (by decide) rfl rfl (Nat.le_of_ble_eq_true rfl) (fun Γ hL hQ => ?_)
  show AtW mX4_boxCount Γ Ω σ 0 [some (.ref (ad Ω 365))] []
  refine r_aload_n dX4_boxCount_0 rfl ?_
  refine fX4_3 jX4_boxCount_X4 lX4_boxCount_23 dX4_boxCount_1 ?_
  rw [hm]
  refine r_bipush 6 dX4_boxCount_4 (by decide) ?_
  refine r_idiv dX4_boxCount_6 (by decide) ?_
  exact r_iret hQ rfl dX4_boxCount_7 (roI_of (pk_div (a := m) (d := 6) (by omega) (by omega) (by omega)))

set_option maxRecDepth 100000 in
set_option maxHeartbeats 4000000 in
theorem ctX4_valueOf (l : Launch) (Ω : Om) (σ : Sg) (k j m : Nat) (hm : σ 365 3 = nI m) (hm4 : m ≤ 41) (hkj : k * 6 + j < m) : CtW l yX4_valueOf wsX4_valueOf (rmD 0) Ω [.ref (ad Ω 365), .int (nI k), .int (nI j)] σ (roI (σ 367 (k * 6 + j)) σ) := by
  refine ct_intro [some (.ref (ad Ω 365)), some (.int (nI k)), some (.int (nI j)), none] (by decide) rfl rfl (Nat.le_of_ble_eq_true rfl) (fun Γ hL hQ => ?_)
  show AtW mX4_valueOf Γ Ω σ 0 [some (.ref (ad Ω 365)), some (.int (nI k)), some (.int (nI j)), none] []
  refine r_iload_n dX4_valueOf_0 rfl ?_
  refine r_bipush 6 dX4_valueOf_1 (by decide) ?_
  refine r_imul dX4_valueOf_3 ?_
  rw [show nI k * 6 = nI (k * 6) from pk_mul k 6]
  refine r_iload_n dX4_valueOf_4 rfl ?_
  refine r_iadd dX4_valueOf_5 ?_
  rw [nI_add]
  refine r_istore_n dX4_valueOf_6 (by decide) rfl ?_
  refine r_iload_n dX4_valueOf_7 rfl ?_
  refine r_if_lt 28 dX4_valueOf_8 (by decide) (fun c8 => absurd c8 (nI_pos (by omega))) (fun c8 => ?_)
  refine r_iload_n dX4_valueOf_11 rfl ?_
  refine r_aload_n dX4_valueOf_12 rfl ?_
  refine fX4_3 jX4_valueOf_X4 lX4_valueOf_23 dX4_valueOf_13 ?_
  rw [hm]
  refine r_icmp_ge 28 dX4_valueOf_16 (by decide) (fun c16 => absurd c16 (nI_ge (by omega) (by omega))) (fun c16 => ?_)
  refine r_aload_n dX4_valueOf_19 rfl ?_
  refine fX4_2 jX4_valueOf_X4 lX4_valueOf_15 dX4_valueOf_20 ?_
  refine r_iload_n dX4_valueOf_23 rfl ?_
  refine ldVA (k * 6 + j) rfl (by omega) dX4_valueOf_24 ?_
  refine r_goto 29 dX4_valueOf_25 (by decide) ?_
  exact r_iret hQ rfl dX4_valueOf_29 (roI_of rfl)

set_option maxRecDepth 100000 in
set_option maxHeartbeats 4000000 in
theorem ctX4_read (l : Launch) (Ω : Om) (σ : Sg) (L : Nat) (t : Nat → Int32) (ht : txtC σ L t) : CtW l yX4_read wsX4_read (rmD 1) Ω [.ref (ad Ω 365)] σ (reJ (reI σ t L)) := by
  refine ct_intro [some (.ref (ad Ω 365)), none, none, none, none] (by decide) rfl rfl (Nat.le_of_ble_eq_true rfl) (fun Γ hL hQ => ?_)
  show AtW mX4_read Γ Ω σ 0 [some (.ref (ad Ω 365)), none, none, none, none] []
  refine r_aload_n dX4_read_0 rfl ?_
  refine r_iconst 0 dX4_read_1 (by decide) ?_
  refine pX4_3 jX4_read_X4 lX4_read_23 dX4_read_2 ?_
  refine r_iconst 0 dX4_read_5 (by decide) ?_
  refine r_istore_n dX4_read_6 (by decide) rfl ?_
  refine r_iconst (-1) dX4_read_7 (by decide) ?_
  refine r_istore_n dX4_read_8 (by decide) rfl ?_
  refine r_iconst 0 dX4_read_9 (by decide) ?_
  refine r_istore_n dX4_read_10 (by decide) rfl ?_
  have L1 : ∀ (N : Nat) (j : Nat) (τ : Sg) (pl : Nat) (w : Int32) (c : Nat) (vs : Nat → Int32) (v4 : Option Value), j ≤ L → rdI t σ j τ (pl, w, c, vs) → L < j + N → AtW mX4_read Γ Ω τ 11 [some (.ref (ad Ω 365)), some (.int (nI pl)), some (.int w), some (.int (nI j)), v4] [] := by
    intro N
    induction N with
    | zero =>
      intro j τ pl w c vs v4 hj hτ hN
      exact absurd hN (by omega)
    | succ N ih =>
      intro j τ pl w c vs v4 hj hτ hN
      have hL80 := ht.2.1
      have hτl : τ 365 1 = nI L := (hτ.2.2.2 1 (by omega)).trans ht.1
      obtain ⟨hpl, hcn⟩ := rdS_cnt hτ.1
      simp only at hpl hcn
      refine r_iload_n dX4_read_11 rfl ?_
      refine r_aload_n dX4_read_12 rfl ?_
      refine fX4_1 jX4_read_X4 lX4_read_19 dX4_read_13 ?_
      rw [hτl]
      refine r_icmp_ge 108 dX4_read_16 (by decide) (fun c16 => ?_) (fun c16 => ?_)
      ·
        replace c16 := Int32.not_lt.mpr c16
        have n16 := Nat.not_lt.mp (fun q => c16 ((nI_ltI (a := j) (b := L) (by omega) (by omega)).mpr q))
        have ej : L = j := by omega
        subst ej
        refine r_iload_n dX4_read_108 rfl ?_
        refine r_iconst (-1) dX4_read_109 (by decide) ?_
        refine r_icmp_eq 121 dX4_read_110 (by decide) (fun c110 => ?_) (fun c110 => ?_)
        ·
          refine r_aload_n dX4_read_121 rfl ?_
          refine fX4_1 jX4_read_X4 lX4_read_19 dX4_read_122 ?_
          rw [hτl]
          exact r_iret hQ rfl dX4_read_125 (reJ_of ⟨by rw [rdF_end hτ.1, rdE, if_pos c110], hτ.2.2, fun e => absurd e (nI_nm1 (by omega))⟩)
        ·
          refine r_iload_n dX4_read_113 rfl ?_
          refine r_iconst 1 dX4_read_114 (by decide) ?_
          refine r_iadd dX4_read_115 ?_
          rw [nI_1]
          refine r_bipush 6 dX4_read_116 (by decide) ?_
          refine r_icmp_ge 126 dX4_read_118 (by decide) (fun c118 => ?_) (fun c118 => ?_)
          ·
            replace c118 := Int32.not_lt.mpr c118
            have n118 := Nat.not_lt.mp (fun q => c118 ((nI_ltI (a := pl + 1) (b := 6) (by omega) (by omega)).mpr q))
            refine r_aload_n dX4_read_126 rfl ?_
            refine r_iload_n dX4_read_127 rfl ?_
            refine r_callVV (365) hL (ctX4_store l Ω _ c hτ.2.1.1 (by rw [if_neg c110] at hcn; omega) _) kX4_read_34 (by omega) ⟨_, _, _, rfl, rfl, rfl⟩ rfl rfl (Nat.le_of_ble_eq_true rfl) dX4_read_128 ?_
            intro σ1 hσ1
            refine r_iconst (-1) dX4_read_131 (by decide) ?_
            exact r_iret hQ rfl dX4_read_132 (reJ_of ⟨by rw [rdF_end hτ.1, rdE, if_neg c110, if_neg (by simp only; omega)], stI_keep hτ.2.2 hσ1, fun _ => ⟨_, hτ.1, c110, by simp only; omega, stI_rdC hτ.2.1 hσ1⟩⟩)
          ·
            replace c118 := Int32.not_le.mp c118
            have n118 := (nI_ltI (a := pl + 1) (b := 6) (by omega) (by omega)).mp c118
            refine r_aload_n dX4_read_121 rfl ?_
            refine fX4_1 jX4_read_X4 lX4_read_19 dX4_read_122 ?_
            rw [hτl]
            exact r_iret hQ rfl dX4_read_125 (reJ_of ⟨by rw [rdF_end hτ.1, rdE, if_neg c110, if_pos (by simp only; omega)], hτ.2.2, fun e => absurd e (nI_nm1 (by omega))⟩)
      ·
        replace c16 := Int32.not_le.mp c16
        have n16 := (nI_ltI (a := j) (b := L) (by omega) (by omega)).mp c16
        refine r_aload_n dX4_read_19 rfl ?_
        refine fX4_0 jX4_read_X4 lX4_read_9 dX4_read_20 ?_
        refine r_iload_n dX4_read_23 rfl ?_
        refine r_cald j rfl (by omega) dX4_read_24 ?_
        have e4 : τ 366 j = t j := by rw [hτ.2.2.1 366 (by omega) (by omega)]; exact ht.2.2 j n16
        rw [e4]
        refine r_istore dX4_read_25 (by decide) rfl ?_
        refine r_iload dX4_read_27 rfl ?_
        refine r_bipush 48 dX4_read_29 (by decide) ?_
        have J60 : ∀ (hd : dgtB (t j) = false), AtW mX4_read Γ Ω τ 60 [some (.ref (ad Ω 365)), some (.int (nI pl)), some (.int w), some (.int (nI j)), some (.int (t j))] [] := by
          intro hd
          refine r_iload_n dX4_read_60 rfl ?_
          refine r_iconst (-1) dX4_read_61 (by decide) ?_
          refine r_icmp_eq 100 dX4_read_62 (by decide) (fun c62 => ?_) (fun c62 => ?_)
          ·
            refine r_iload_n dX4_read_100 rfl ?_
            exact r_iret hQ rfl dX4_read_101 (reJ_of ⟨(rdF_at n16 hτ.1 (rdN_no hd (Or.inl c62))).symm, hτ.2.2, fun e => absurd e (nI_nm1 (by omega))⟩)
          ·
            refine r_iload dX4_read_65 rfl ?_
            refine r_iload_n dX4_read_67 rfl ?_
            refine r_callSI hL (ctX4_signBehind l Ω _ pl (by omega)) kX4_read_30 rfl rfl (Nat.le_of_ble_eq_true rfl) dX4_read_68 ?_
            refine r_icmp_ne 100 dX4_read_71 (by decide) (fun c71 => ?_) (fun c71 => ?_)
            ·
              refine r_iload_n dX4_read_100 rfl ?_
              exact r_iret hQ rfl dX4_read_101 (reJ_of ⟨(rdF_at n16 hτ.1 (rdN_no hd (Or.inr c71))).symm, hτ.2.2, fun e => absurd e (nI_nm1 (by omega))⟩)
            ·
              refine r_aload_n dX4_read_74 rfl ?_
              refine r_iload_n dX4_read_75 rfl ?_
              refine r_callVV (365) hL (ctX4_store l Ω _ c hτ.2.1.1 (by rw [if_neg c62] at hcn; omega) _) kX4_read_34 (by omega) ⟨_, _, _, rfl, rfl, rfl⟩ rfl rfl (Nat.le_of_ble_eq_true rfl) dX4_read_76 ?_
              intro σ1 hσ1
              have e9 := rdI_sep hτ hd c62 c71 hσ1
              refine r_iconst (-1) dX4_read_79 (by decide) ?_
              refine r_istore_n dX4_read_80 (by decide) rfl ?_
              refine r_iload_n dX4_read_81 rfl ?_
              refine r_iconst 1 dX4_read_82 (by decide) ?_
              refine r_iadd dX4_read_83 ?_
              rw [nI_1]
              refine r_bipush 6 dX4_read_84 (by decide) ?_
              refine r_icmp_ge 95 dX4_read_86 (by decide) (fun c86 => ?_) (fun c86 => ?_)
              ·
                replace c86 := Int32.not_lt.mpr c86
                have n86 := Nat.not_lt.mp (fun q => c86 ((nI_ltI (a := pl + 1) (b := 6) (by omega) (by omega)).mpr q))
                rw [if_neg (by simp only; omega)] at e9
                refine r_iconst 0 dX4_read_95 (by decide) ?_
                refine r_istore_n dX4_read_96 (by decide) rfl ?_
                refine r_goto 102 dX4_read_97 (by decide) ?_
                refine r_iinc (nI (j + 1)) dX4_read_102 rfl (nI_1 j) (by decide) rfl ?_
                refine r_goto 11 dX4_read_105 (by decide) ?_
                exact ih (j + 1) σ1 _ _ _ _ _ (by omega) e9 (by omega)
              ·
                replace c86 := Int32.not_le.mp c86
                have n86 := (nI_ltI (a := pl + 1) (b := 6) (by omega) (by omega)).mp c86
                rw [if_pos (by simp only; omega)] at e9
                refine r_iload_n dX4_read_89 rfl ?_
                refine r_iconst 1 dX4_read_90 (by decide) ?_
                refine r_iadd dX4_read_91 ?_
                rw [nI_1]
                refine r_goto 96 dX4_read_92 (by decide) ?_
                refine r_istore_n dX4_read_96 (by decide) rfl ?_
                refine r_goto 102 dX4_read_97 (by decide) ?_
                refine r_iinc (nI (j + 1)) dX4_read_102 rfl (nI_1 j) (by decide) rfl ?_
                refine r_goto 11 dX4_read_105 (by decide) ?_
                exact ih (j + 1) σ1 _ _ _ _ _ (by omega) e9 (by omega)
        refine r_icmp_lt 60 dX4_read_31 (by decide) (fun c31 => ?_) (fun c31 => ?_)
        ·
          exact J60 (by unfold dgtB; simp [c31])
        ·
          refine r_iload dX4_read_34 rfl ?_
          refine r_bipush 57 dX4_read_36 (by decide) ?_
          refine r_icmp_gt 60 dX4_read_38 (by decide) (fun c38 => ?_) (fun c38 => ?_)
          ·
            exact J60 (by unfold dgtB; simp [c38])
          ·
            have hdg : dgtB (t j) = true := by unfold dgtB; simp [c31, c38]
            refine r_iload_n dX4_read_41 rfl ?_
            refine r_iload dX4_read_42 rfl ?_
            refine r_bipush 48 dX4_read_44 (by decide) ?_
            refine r_isub dX4_read_46 ?_
            refine r_iload_n dX4_read_47 rfl ?_
            refine r_callSI hL (ctX4_withDigit l Ω _ _ _ pl (by omega)) kX4_read_26 rfl rfl (Nat.le_of_ble_eq_true rfl) dX4_read_48 ?_
            refine r_istore_n dX4_read_51 (by decide) rfl ?_
            refine r_iload_n dX4_read_52 rfl ?_
            refine r_bipush (-2) dX4_read_53 (by decide) ?_
            refine r_icmp_ne 102 dX4_read_55 (by decide) (fun c55 => ?_) (fun c55 => ?_)
            ·
              refine r_iinc (nI (j + 1)) dX4_read_102 rfl (nI_1 j) (by decide) rfl ?_
              refine r_goto 11 dX4_read_105 (by decide) ?_
              exact ih (j + 1) τ pl _ c vs _ (by omega) (rdI_dig hτ hdg c55) (by omega)
            ·
              refine r_iload_n dX4_read_58 rfl ?_
              exact r_iret hQ rfl dX4_read_59 (reJ_of ⟨(rdF_at n16 hτ.1 (rdN_dig hdg c55)).symm, hτ.2.2, fun e => absurd e (nI_nm1 (by omega))⟩)
  exact L1 (L + 1) 0 _ 0 (-1) 0 (fun _ => 0) none (by omega) ⟨rfl, ⟨by rw [up_get, if_pos ⟨rfl, rfl⟩]; rfl, fun j hj => absurd hj (Nat.not_lt_zero j)⟩, fun q a _ => up_ne a, fun i hi => by rw [up_get, if_neg (by simp [hi])]⟩ (by omega)

set_option maxRecDepth 100000 in
set_option maxHeartbeats 4000000 in
theorem ctX5_clearText (l : Launch) (Ω : Om) (σ : Sg) (S : StV) (h : isC σ S) : CtW l yX5_clearText wsX5_clearText (rmD 0) Ω [.ref (ad Ω 368)] σ (reJ (okC σ (oClear S))) := by
  refine ct_intro [some (.ref (ad Ω 368)), none] (by decide) rfl rfl (Nat.le_of_ble_eq_true rfl) (fun Γ hL hQ => ?_)
  show AtW mX5_clearText Γ Ω σ 0 [some (.ref (ad Ω 368)), none] []
  obtain ⟨hv, ⟨pm, h0, hh⟩, hp, ht⟩ := id h
  have hn : vN (qC S) ≤ 16 := hv.1
  have hc : σ (iS 0) 1 = nI (vN (qC S)) := hv.2.1
  refine r_aload_n dX5_clearText_0 rfl ?_
  refine fX5_5 jX5_clearText_X5 lX5_clearText_32 dX5_clearText_1 ?_
  refine fX4_1 jX5_clearText_X4 lX5_clearText_139 dX5_clearText_4 ?_
  rw [ht.1]
  refine r_istore_n dX5_clearText_7 (by decide) rfl ?_
  refine r_aload_n dX5_clearText_8 rfl ?_
  refine fX5_5 jX5_clearText_X5 lX5_clearText_32 dX5_clearText_9 ?_
  refine r_iconst 0 dX5_clearText_12 (by decide) ?_
  refine pX4_1 jX5_clearText_X4 lX5_clearText_139 dX5_clearText_13 ?_
  refine r_iload_n dX5_clearText_16 rfl ?_
  exact r_iret hQ rfl dX5_clearText_17 (reJ_of (clear_ok h))

set_option maxRecDepth 100000 in
set_option maxHeartbeats 4000000 in
theorem ctX5_addAll (l : Launch) (Ω : Om) (σ : Sg) (S : StV) (h : isC σ S) (m0 : Nat) (hm0 : m0 < 2 ^ 30) (hx0 : vX (qC S) = nI m0) : CtW l yX5_addAll wsX5_addAll (rmD 5) Ω [.ref (ad Ω 368)] σ (reJ (okC σ (oAddAll S))) := by
  refine ct_intro [some (.ref (ad Ω 368)), none, none, none, none] (by decide) rfl rfl (Nat.le_of_ble_eq_true rfl) (fun Γ hL hQ => ?_)
  show AtW mX5_addAll Γ Ω σ 0 [some (.ref (ad Ω 368)), none, none, none, none] []
  obtain ⟨hv, ⟨pm, h0, hh⟩, hp, ht⟩ := id h
  have hn : vN (qC S) ≤ 16 := hv.1
  have hc : σ (iS 0) 1 = nI (vN (qC S)) := hv.2.1
  refine r_aload_n dX5_addAll_0 rfl ?_
  refine fX5_5 jX5_addAll_X5 lX5_addAll_32 dX5_addAll_1 ?_
  refine r_callVJ (365) hL (ctX4_read l Ω σ (qL S) (qT S) ht) kX5_addAll_142 (by omega) ⟨_, _, _, rfl, rfl, rfl⟩ rfl rfl (Nat.le_of_ble_eq_true rfl) dX5_addAll_4 ?_
  intro r σ0 hσ0
  obtain ⟨er, kt, hq⟩ := hσ0
  have hC0 := isC_kt h kt
  refine r_istore_n dX5_addAll_7 (by decide) rfl ?_
  refine r_iload_n dX5_addAll_8 rfl ?_
  refine r_iconst (-1) dX5_addAll_9 (by decide) ?_
  refine r_icmp_eq 18 dX5_addAll_10 (by decide) (fun c10 => ?_) (fun c10 => ?_)
  ·
    obtain ⟨q, eq, q1, q2, q3⟩ := hq c10
    have eF : rdF (qT S) (qL S) = -1 := er.symm.trans c10
    obtain ⟨eB, eV⟩ := txB_at eq
    have hcn := rdS_cnt eq
    rw [if_neg q1] at hcn
    have hL8 := ht.2.1
    rw [c10]
    refine r_aload_n dX5_addAll_18 rfl ?_
    refine fX5_1 jX5_addAll_X5 lX5_addAll_16 dX5_addAll_19 ?_
    refine r_aload_n dX5_addAll_22 rfl ?_
    refine fX5_0 jX5_addAll_X5 lX5_addAll_10 dX5_addAll_23 ?_
    refine r_callVV (iS 1) hL (ctX3_copyFrom l Ω σ0 1 0 _ (by omega) (by omega) (by omega) hn hC0.1.2.1) kX5_addAll_57 (iS_lt (by omega)) ⟨_, _, _, cel_sp (by omega), rfl, rfl⟩ rfl rfl (Nat.le_of_ble_eq_true rfl) dX5_addAll_26 ?_
    intro σ1 hσ1
    have k1 : keepC σ0 σ1 := keepC_fr hσ1.2
    have v1 : isV σ1 1 (qC S) := isV_sp hC0.1 hσ1.1
    have r1 := rdC_kc q3 k1
    refine r_aload_n dX5_addAll_29 rfl ?_
    refine fX5_5 jX5_addAll_X5 lX5_addAll_32 dX5_addAll_30 ?_
    refine r_callVI (365) hL (ctX4_boxCount l Ω σ1 _ r1.1 (by omega)) kX5_addAll_145 (by omega) ⟨_, _, _, rfl, rfl, rfl⟩ rfl rfl (Nat.le_of_ble_eq_true rfl) dX5_addAll_33 ?_
    rw [← eB]
    refine r_istore_n dX5_addAll_36 (by decide) rfl ?_
    refine r_iconst 0 dX5_addAll_37 (by decide) ?_
    refine r_istore_n dX5_addAll_38 (by decide) rfl ?_
    have L1 : ∀ (N : Nat) (k : Nat) (τ : Sg) (w : SpV) (v4 : Option Value), k ≤ txB S → keepC σ0 τ → rdC τ (q.2.2.1 + 1) (upd q.2.2.2 q.2.2.1 q.2.1) → isV τ 1 w → vX w = nI (m0 + k) → aaF (txV S) (txB S - k) k w = aaF (txV S) (txB S) 0 (qC S) → txB S < k + N → AtW mX5_addAll Γ Ω τ 39 [some (.ref (ad Ω 368)), some (.int (-1)), some (.int (nI (txB S))), some (.int (nI k)), v4] [] := by
      intro N
      induction N with
      | zero =>
        intro k τ w v4 hk hkc hτr hw hxw hf hN
        exact absurd hN (by omega)
      | succ N ih =>
        intro k τ w v4 hk hkc hτr hw hxw hf hN
        refine r_iload_n dX5_addAll_39 rfl ?_
        refine r_iload_n dX5_addAll_40 rfl ?_
        refine r_icmp_ge 122 dX5_addAll_41 (by decide) (fun c41 => ?_) (fun c41 => ?_)
        ·
          replace c41 := Int32.not_lt.mpr c41
          have n41 := Nat.not_lt.mp (fun q => c41 ((nI_ltI (a := k) (b := txB S) (by omega) (by omega)).mpr q))
          have ek : txB S = k := by omega
          subst ek
          rw [Nat.sub_self] at hf
          refine r_aload_n dX5_addAll_122 rfl ?_
          refine r_callVV (368) hL (ctX5_adoptTrial l Ω τ S (isC_kc hC0 hkc) w hw) kX5_addAll_65 (by omega) ⟨_, _, _, rfl, rfl, rfl⟩ rfl rfl (Nat.le_of_ble_eq_true rfl) dX5_addAll_123 ?_
          intro σ3 hσ3
          refine r_iload_n dX5_addAll_126 rfl ?_
          exact r_iret hQ rfl dX5_addAll_127 (reJ_of (okC_of (aa_ok eF hf.symm) hσ3.1 (keepM_tr (keepT_m kt) (keepM_tr (keepM_kc hkc) hσ3.2.2))))
        ·
          replace c41 := Int32.not_le.mp c41
          have n41 := (nI_ltI (a := k) (b := txB S) (by omega) (by omega)).mp c41
          have em : txB S - k = (txB S - (k + 1)) + 1 := by omega
          rw [em] at hf
          refine r_aload_n dX5_addAll_44 rfl ?_
          refine r_aload_n dX5_addAll_45 rfl ?_
          refine fX5_1 jX5_addAll_X5 lX5_addAll_16 dX5_addAll_46 ?_
          refine r_aload_n dX5_addAll_49 rfl ?_
          refine fX5_5 jX5_addAll_X5 lX5_addAll_32 dX5_addAll_50 ?_
          refine r_iload_n dX5_addAll_53 rfl ?_
          refine r_iconst 0 dX5_addAll_54 (by decide) ?_
          refine r_callVI (365) hL (ctX4_valueOf l Ω τ k 0 _ hτr.1 (by omega) (by omega)) kX5_addAll_148 (by omega) ⟨_, _, _, rfl, rfl, rfl⟩ rfl rfl (Nat.le_of_ble_eq_true rfl) dX5_addAll_55 ?_
          rw [show τ 367 (k * 6 + 0) = bxT (txV S) k 0 by rw [hτr.2 _ (by omega), ← eV, Nat.mul_comm k 6]; rfl]
          refine r_aload_n dX5_addAll_58 rfl ?_
          refine fX5_5 jX5_addAll_X5 lX5_addAll_32 dX5_addAll_59 ?_
          refine r_iload_n dX5_addAll_62 rfl ?_
          refine r_iconst 1 dX5_addAll_63 (by decide) ?_
          refine r_callVI (365) hL (ctX4_valueOf l Ω τ k 1 _ hτr.1 (by omega) (by omega)) kX5_addAll_148 (by omega) ⟨_, _, _, rfl, rfl, rfl⟩ rfl rfl (Nat.le_of_ble_eq_true rfl) dX5_addAll_64 ?_
          rw [show τ 367 (k * 6 + 1) = bxT (txV S) k 1 by rw [hτr.2 _ (by omega), ← eV, Nat.mul_comm k 6]; rfl]
          refine r_aload_n dX5_addAll_67 rfl ?_
          refine fX5_5 jX5_addAll_X5 lX5_addAll_32 dX5_addAll_68 ?_
          refine r_iload_n dX5_addAll_71 rfl ?_
          refine r_iconst 2 dX5_addAll_72 (by decide) ?_
          refine r_callVI (365) hL (ctX4_valueOf l Ω τ k 2 _ hτr.1 (by omega) (by omega)) kX5_addAll_148 (by omega) ⟨_, _, _, rfl, rfl, rfl⟩ rfl rfl (Nat.le_of_ble_eq_true rfl) dX5_addAll_73 ?_
          rw [show τ 367 (k * 6 + 2) = bxT (txV S) k 2 by rw [hτr.2 _ (by omega), ← eV, Nat.mul_comm k 6]; rfl]
          refine r_aload_n dX5_addAll_76 rfl ?_
          refine fX5_5 jX5_addAll_X5 lX5_addAll_32 dX5_addAll_77 ?_
          refine r_iload_n dX5_addAll_80 rfl ?_
          refine r_iconst 3 dX5_addAll_81 (by decide) ?_
          refine r_callVI (365) hL (ctX4_valueOf l Ω τ k 3 _ hτr.1 (by omega) (by omega)) kX5_addAll_148 (by omega) ⟨_, _, _, rfl, rfl, rfl⟩ rfl rfl (Nat.le_of_ble_eq_true rfl) dX5_addAll_82 ?_
          rw [show τ 367 (k * 6 + 3) = bxT (txV S) k 3 by rw [hτr.2 _ (by omega), ← eV, Nat.mul_comm k 6]; rfl]
          refine r_aload_n dX5_addAll_85 rfl ?_
          refine fX5_5 jX5_addAll_X5 lX5_addAll_32 dX5_addAll_86 ?_
          refine r_iload_n dX5_addAll_89 rfl ?_
          refine r_iconst 4 dX5_addAll_90 (by decide) ?_
          refine r_callVI (365) hL (ctX4_valueOf l Ω τ k 4 _ hτr.1 (by omega) (by omega)) kX5_addAll_148 (by omega) ⟨_, _, _, rfl, rfl, rfl⟩ rfl rfl (Nat.le_of_ble_eq_true rfl) dX5_addAll_91 ?_
          rw [show τ 367 (k * 6 + 4) = bxT (txV S) k 4 by rw [hτr.2 _ (by omega), ← eV, Nat.mul_comm k 6]; rfl]
          refine r_aload_n dX5_addAll_94 rfl ?_
          refine fX5_5 jX5_addAll_X5 lX5_addAll_32 dX5_addAll_95 ?_
          refine r_iload_n dX5_addAll_98 rfl ?_
          refine r_iconst 5 dX5_addAll_99 (by decide) ?_
          refine r_callVI (365) hL (ctX4_valueOf l Ω τ k 5 _ hτr.1 (by omega) (by omega)) kX5_addAll_148 (by omega) ⟨_, _, _, rfl, rfl, rfl⟩ rfl rfl (Nat.le_of_ble_eq_true rfl) dX5_addAll_100 ?_
          rw [show τ 367 (k * 6 + 5) = bxT (txV S) k 5 by rw [hτr.2 _ (by omega), ← eV, Nat.mul_comm k 6]; rfl]
          refine r_callVJ (368) hL (ctX5_enter l Ω _ w hw _ _ _ _ _ _) kX5_addAll_61 (by omega) ⟨_, _, _, rfl, rfl, rfl⟩ rfl rfl (Nat.le_of_ble_eq_true rfl) dX5_addAll_103 ?_
          intro r2 σ2 hσ2
          have k2 := keepC_tr hkc hσ2.2.1
          obtain ⟨e2, -, e3⟩ := id hσ2
          refine r_istore dX5_addAll_106 (by decide) rfl ?_
          refine r_iload dX5_addAll_108 rfl ?_
          refine r_if_ge 116 dX5_addAll_110 (by decide) (fun c110 => ?_) (fun c110 => ?_)
          ·
            replace c110 := Int32.not_lt.mpr c110
            have ep := ent_pos (e2 ▸ c110)
            have e6 : ent6 w (txV S) k = true := ep.1
            have v2 := e3 ep.1
            have hx2 : vX (entV6 w (txV S) k) = nI (m0 + (k + 1)) := by show vX w + 1 = _; rw [hxw, nI_1]; rfl
            have hf2 : aaF (txV S) (txB S - (k + 1)) (k + 1) (entV6 w (txV S) k) = aaF (txV S) (txB S) 0 (qC S) := by rw [← hf, aaF, if_pos e6]
            refine r_iinc (nI (k + 1)) dX5_addAll_116 rfl (nI_1 k) (by decide) rfl ?_
            refine r_goto 39 dX5_addAll_119 (by decide) ?_
            exact ih (k + 1) σ2 _ _ (by omega) k2 (rdC_kc hτr (hσ2.2.1)) v2 hx2 hf2 (by omega)
          ·
            replace c110 := Int32.not_le.mp c110
            have e6 : ent6 w (txV S) k = false := ent_neg (by rw [hxw]; exact nI_pos (by omega)) (e2 ▸ c110)
            refine r_iload dX5_addAll_113 rfl ?_
            exact r_iret hQ rfl dX5_addAll_115 (reJ_of (okC_of (by rw [e2]; exact aa_err eF (by rw [← hf, aaF, if_neg (by rw [e6]; decide)]; rfl)) (isC_kc hC0 k2) (keepM_tr (keepT_m kt) (keepM_kc k2))))
    exact L1 (txB S + 1) 0 σ1 _ none (by omega) k1 r1 v1 hx0 rfl (by omega)
  ·
    refine r_bipush (-100) dX5_addAll_13 (by decide) ?_
    refine r_iload_n dX5_addAll_15 rfl ?_
    refine r_isub dX5_addAll_16 ?_
    exact r_iret hQ rfl dX5_addAll_17 (reJ_of (okC_of (by rw [er] at c10 ⊢; exact aa_flt c10) hC0 (keepT_m kt)))

set_option maxRecDepth 100000 in
set_option maxHeartbeats 4000000 in
theorem ctX5_type (l : Launch) (Ω : Om) (σ : Sg) (S : StV) (h : isC σ S) (x : Int32) (hx : vp_nar .char x = x) : CtW l yX5_type wsX5_type (rmD 1) Ω [.ref (ad Ω 368), .int x] σ (reJ (okC σ (oType S x))) := by
  refine ct_intro [some (.ref (ad Ω 368)), some (.int x)] (by decide) rfl rfl (Nat.le_of_ble_eq_true rfl) (fun Γ hL hQ => ?_)
  show AtW mX5_type Γ Ω σ 0 [some (.ref (ad Ω 368)), some (.int x)] []
  obtain ⟨hv, ⟨pm, h0, hh⟩, hp, ht⟩ := id h
  have hn : vN (qC S) ≤ 16 := hv.1
  have hc : σ (iS 0) 1 = nI (vN (qC S)) := hv.2.1
  refine r_aload_n dX5_type_0 rfl ?_
  refine fX5_5 jX5_type_X5 lX5_type_32 dX5_type_1 ?_
  refine r_iload_n dX5_type_4 rfl ?_
  refine r_callVJ (365) hL (ctX4_append l Ω σ (qL S) ht.2.1 ht.1 x hx) kX5_type_135 (by omega) ⟨_, _, _, rfl, rfl, rfl⟩ rfl rfl (Nat.le_of_ble_eq_true rfl) dX5_type_5 ?_
  intro r σ1 hσ1
  refine r_if_eq 21 dX5_type_8 (by decide) (fun c8 => ?_) (fun c8 => ?_)
  ·
    have n8 : ¬ qL S < 80 := fun q => by have := (hσ1.1 q).1; rw [c8] at this; exact absurd this (by decide)
    obtain ⟨rfl, rfl⟩ := hσ1.2 n8
    refine r_bipush (-3) dX5_type_21 (by decide) ?_
    exact r_iret hQ rfl dX5_type_23 (reJ_of (okC_of (by rw [oType, if_neg n8]) h (fun _ _ => rfl)))
  ·
    have n8 : qL S < 80 := by rcases Nat.lt_or_ge (qL S) 80 with q | q; exact q; exact absurd (hσ1.2 (by omega)).1 c8
    obtain ⟨rfl, rfl⟩ := hσ1.1 n8
    refine r_aload_n dX5_type_11 rfl ?_
    refine fX5_5 jX5_type_X5 lX5_type_32 dX5_type_12 ?_
    refine fX4_1 jX5_type_X4 lX5_type_139 dX5_type_15 ?_
    rw [up_get, if_pos ⟨rfl, rfl⟩]
    refine r_goto 23 dX5_type_18 (by decide) ?_
    exact r_iret hQ rfl dX5_type_23 (reJ_of (type_ok h n8))
