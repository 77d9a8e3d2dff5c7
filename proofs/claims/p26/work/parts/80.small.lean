set_option maxRecDepth 100000 in
set_option maxHeartbeats 4000000 in
theorem ctL_low (l : Launch) (Ω : Om) (σ : Sg) (x : Int32) (n : Nat) (h0 : 0 < n) (hn : n < 100) : CtW l yL_low wsL_low (rmD 0) Ω [.int x, .int (nI n)] σ (reJ (fun z σ1 => (∃ r, r < n ∧ z = nI r) ∧ σ1 = σ)) := by
  refine ct_intro [some (.int (x)), some (.int (nI n))] (by decide) rfl rfl (Nat.le_of_ble_eq_true rfl) (fun Γ hL hQ => ?_)
  show AtW mL_low Γ Ω σ 0 [some (.int (x)), some (.int (nI n))] []
  refine r_iload_n dL_low_0 rfl ?_
  refine r_ldc 2147483647 dL_low_1 (by decide +kernel) ?_
  refine r_iand dL_low_3 ?_
  refine r_iload_n dL_low_4 rfl ?_
  refine r_irem dL_low_5 (nI_ne0 h0 (by omega)) ?_
  exact r_iret hQ rfl dL_low_6 (reJ_of ⟨rem_at x h0 hn, rfl⟩)

set_option maxRecDepth 100000 in
set_option maxHeartbeats 4000000 in
theorem ctL_isAcross (l : Launch) (Ω : Om) (σ : Sg) (E : Nat → Int32) (v : SpV) (h9 : σ 369 = E) (he : encE E v) (hn : vN v ≤ 10) (i j : Nat) (hi : i < vN v) (hj : j < vN v) (d : Nat) (hd : d < 3) : CtW l yL_isAcross wsL_isAcross (rmD 0) Ω [.ref (ad Ω 369), .int (nI i), .int (nI j), .int (nI d)] σ (roI (bI (mtB (vLo v i) (vHi v i) (vLo v j) (vHi v j) d)) σ) := by
  refine ct_intro [some (.ref (ad Ω 369)), some (.int (nI i)), some (.int (nI j)), some (.int (nI d))] (by decide) rfl rfl (Nat.le_of_ble_eq_true rfl) (fun Γ hL hQ => ?_)
  show AtW mL_isAcross Γ Ω σ 0 [some (.ref (ad Ω 369)), some (.int (nI i)), some (.int (nI j)), some (.int (nI d))] []
  refine r_aload_n dL_isAcross_0 rfl ?_
  refine r_bipush 6 dL_isAcross_1 (by decide) ?_
  refine r_iload_n dL_isAcross_3 rfl ?_
  refine r_imul dL_isAcross_4 ?_
  refine r_iload_n dL_isAcross_5 rfl ?_
  refine r_iadd dL_isAcross_6 ?_
  refine ldM369 (6 * i + d) (ix6c i d) (by omega) dL_isAcross_7 ?_
  rw [h9, enL he (by omega) (by omega)]
  refine r_aload_n dL_isAcross_8 rfl ?_
  refine r_bipush 6 dL_isAcross_9 (by decide) ?_
  refine r_iload_n dL_isAcross_11 rfl ?_
  refine r_imul dL_isAcross_12 ?_
  refine r_iconst 3 dL_isAcross_13 (by decide) ?_
  refine r_iadd dL_isAcross_14 ?_
  refine r_iload_n dL_isAcross_15 rfl ?_
  refine r_iadd dL_isAcross_16 ?_
  refine ldM369 (6 * j + 3 + d) (ix63 j d) (by omega) dL_isAcross_17 ?_
  rw [h9, enH he (by omega) (by omega)]
  refine r_icmp_ge 46 dL_isAcross_18 (by decide) (fun c18 => ?_) (fun c18 => ?_)
  ·
    replace c18 := Int32.not_lt.mpr c18
    refine r_iconst 0 dL_isAcross_46 (by decide) ?_
    exact r_zret hQ rfl ((by decide)) dL_isAcross_47 (roI_of (by simp [mtB, bI, c18]))
  ·
    replace c18 := Int32.not_le.mp c18
    refine r_aload_n dL_isAcross_21 rfl ?_
    refine r_bipush 6 dL_isAcross_22 (by decide) ?_
    refine r_iload_n dL_isAcross_24 rfl ?_
    refine r_imul dL_isAcross_25 ?_
    refine r_iload_n dL_isAcross_26 rfl ?_
    refine r_iadd dL_isAcross_27 ?_
    refine ldM369 (6 * j + d) (ix6c j d) (by omega) dL_isAcross_28 ?_
    rw [h9, enL he (by omega) (by omega)]
    refine r_aload_n dL_isAcross_29 rfl ?_
    refine r_bipush 6 dL_isAcross_30 (by decide) ?_
    refine r_iload_n dL_isAcross_32 rfl ?_
    refine r_imul dL_isAcross_33 ?_
    refine r_iconst 3 dL_isAcross_34 (by decide) ?_
    refine r_iadd dL_isAcross_35 ?_
    refine r_iload_n dL_isAcross_36 rfl ?_
    refine r_iadd dL_isAcross_37 ?_
    refine ldM369 (6 * i + 3 + d) (ix63 i d) (by omega) dL_isAcross_38 ?_
    rw [h9, enH he (by omega) (by omega)]
    refine r_icmp_ge 46 dL_isAcross_39 (by decide) (fun c39 => ?_) (fun c39 => ?_)
    ·
      replace c39 := Int32.not_lt.mpr c39
      refine r_iconst 0 dL_isAcross_46 (by decide) ?_
      exact r_zret hQ rfl ((by decide)) dL_isAcross_47 (roI_of (by simp [mtB, bI, c18, c39]))
    ·
      replace c39 := Int32.not_le.mp c39
      refine r_iconst 1 dL_isAcross_42 (by decide) ?_
      refine r_goto 47 dL_isAcross_43 (by decide) ?_
      exact r_zret hQ rfl ((by decide)) dL_isAcross_47 (roI_of (by simp [mtB, bI, c18, c39]))

set_option maxRecDepth 100000 in
set_option maxHeartbeats 4000000 in
theorem ctL_overlap (l : Launch) (Ω : Om) (σ : Sg) (E : Nat → Int32) (v : SpV) (h9 : σ 369 = E) (he : encE E v) (hn : vN v ≤ 10) (i j : Nat) (hi : i < vN v) (hj : j < vN v) : CtW l yL_overlap wsL_overlap (rmD 0) Ω [.ref (ad Ω 369), .int (nI i), .int (nI j)] σ (roI (bI (ovB (vLo v i) (vHi v i) (vLo v j) (vHi v j))) σ) := by
  refine ct_intro [some (.ref (ad Ω 369)), some (.int (nI i)), some (.int (nI j)), none, none, none, none, none, none] (by decide) rfl rfl (Nat.le_of_ble_eq_true rfl) (fun Γ hL hQ => ?_)
  show AtW mL_overlap Γ Ω σ 0 [some (.ref (ad Ω 369)), some (.int (nI i)), some (.int (nI j)), none, none, none, none, none, none] []
  refine r_iconst 1 dL_overlap_0 (by decide) ?_
  refine r_istore_n dL_overlap_1 (by decide) rfl ?_
  refine r_iconst 0 dL_overlap_2 (by decide) ?_
  refine r_istore dL_overlap_3 (by decide) rfl ?_
  have L1 : ∀ (N : Nat) (k : Nat) (b : Bool) (v5 v6 v7 v8 : Option Value), k ≤ 3 → b = ovP v i j k → 3 < k + N → AtW mL_overlap Γ Ω σ 5 [some (.ref (ad Ω 369)), some (.int (nI i)), some (.int (nI j)), some (.int (bI b)), some (.int (nI k)), v5, v6, v7, v8] [] := by
    intro N
    induction N with
    | zero =>
      intro k b v5 v6 v7 v8 hk hb hN
      exact absurd hN (by omega)
    | succ N ih =>
      intro k b v5 v6 v7 v8 hk hb hN
      refine r_iload dL_overlap_5 rfl ?_
      refine r_iconst 3 dL_overlap_7 (by decide) ?_
      refine r_icmp_ge 150 dL_overlap_8 (by decide) (fun c8 => ?_) (fun c8 => ?_)
      ·
        replace c8 := Int32.not_lt.mpr c8
        have n8 := Nat.not_lt.mp (fun q => c8 ((nI_ltI (a := k) (b := 3) (by omega) (by omega)).mpr q))
        refine r_iload_n dL_overlap_150 rfl ?_
        have ek : k = 3 := by omega
        subst ek
        exact r_zret hQ rfl (bI_01 _) dL_overlap_151 (roI_of (by rw [hb]; rfl))
      ·
        replace c8 := Int32.not_le.mp c8
        have n8 := (nI_ltI (a := k) (b := 3) (by omega) (by omega)).mp c8
        have B1 : ∀ (d f : Nat) (hd : d < 3) (hf : f < 3) (hov : ovP v i j (k + 1) = (ovP v i j k && md (vLo v i) (vHi v i) (vLo v j) (vHi v j) d f)), AtW mL_overlap Γ Ω σ 36 [some (.ref (ad Ω 369)), some (.int (nI i)), some (.int (nI j)), some (.int (bI b)), some (.int (nI k)), some (.int (nI d)), some (.int (nI f)), v7, v8] [] := by
          intro d f hd hf hov
          refine r_aload_n dL_overlap_36 rfl ?_
          refine r_bipush 6 dL_overlap_37 (by decide) ?_
          refine r_iload_n dL_overlap_39 rfl ?_
          refine r_imul dL_overlap_40 ?_
          refine r_iload dL_overlap_41 rfl ?_
          refine r_iadd dL_overlap_43 ?_
          refine ldM369 (6 * i + d) (ix6c i d) (by omega) dL_overlap_44 ?_
          rw [h9, enL he (by omega) (by omega)]
          refine r_aload_n dL_overlap_45 rfl ?_
          refine r_bipush 6 dL_overlap_46 (by decide) ?_
          refine r_iload_n dL_overlap_48 rfl ?_
          refine r_imul dL_overlap_49 ?_
          refine r_iconst 3 dL_overlap_50 (by decide) ?_
          refine r_iadd dL_overlap_51 ?_
          refine r_iload dL_overlap_52 rfl ?_
          refine r_iadd dL_overlap_54 ?_
          refine ldM369 (6 * i + 3 + f) (ix63 i f) (by omega) dL_overlap_55 ?_
          rw [h9, enH he (by omega) (by omega)]
          refine r_isub dL_overlap_56 ?_
          refine r_istore dL_overlap_57 (by decide) rfl ?_
          refine r_aload_n dL_overlap_59 rfl ?_
          refine r_bipush 6 dL_overlap_60 (by decide) ?_
          refine r_iload_n dL_overlap_62 rfl ?_
          refine r_imul dL_overlap_63 ?_
          refine r_iconst 3 dL_overlap_64 (by decide) ?_
          refine r_iadd dL_overlap_65 ?_
          refine r_iload dL_overlap_66 rfl ?_
          refine r_iadd dL_overlap_68 ?_
          refine ldM369 (6 * i + 3 + d) (ix63 i d) (by omega) dL_overlap_69 ?_
          rw [h9, enH he (by omega) (by omega)]
          refine r_aload_n dL_overlap_70 rfl ?_
          refine r_bipush 6 dL_overlap_71 (by decide) ?_
          refine r_iload_n dL_overlap_73 rfl ?_
          refine r_imul dL_overlap_74 ?_
          refine r_iload dL_overlap_75 rfl ?_
          refine r_iadd dL_overlap_77 ?_
          refine ldM369 (6 * i + f) (ix6c i f) (by omega) dL_overlap_78 ?_
          rw [h9, enL he (by omega) (by omega)]
          refine r_isub dL_overlap_79 ?_
          refine r_istore dL_overlap_80 (by decide) rfl ?_
          refine r_iload_n dL_overlap_82 rfl ?_
          refine r_if_eq 142 dL_overlap_83 (by decide) (fun c83 => ?_) (fun c83 => ?_)
          ·
            replace c83 := bI_f c83
            refine r_iconst 0 dL_overlap_142 (by decide) ?_
            refine r_istore_n dL_overlap_143 (by decide) rfl ?_
            refine r_iinc (nI (k + 1)) dL_overlap_144 rfl (nI_1 k) (by decide) rfl ?_
            refine r_goto 5 dL_overlap_147 (by decide) ?_
            exact ih (k + 1) false _ _ _ _ (by omega) (by rw [hov, ← hb, c83]; rfl) (by omega)
          ·
            replace c83 := bI_t c83
            refine r_iload dL_overlap_86 rfl ?_
            refine r_aload_n dL_overlap_88 rfl ?_
            refine r_bipush 6 dL_overlap_89 (by decide) ?_
            refine r_iload_n dL_overlap_91 rfl ?_
            refine r_imul dL_overlap_92 ?_
            refine r_iconst 3 dL_overlap_93 (by decide) ?_
            refine r_iadd dL_overlap_94 ?_
            refine r_iload dL_overlap_95 rfl ?_
            refine r_iadd dL_overlap_97 ?_
            refine ldM369 (6 * j + 3 + d) (ix63 j d) (by omega) dL_overlap_98 ?_
            rw [h9, enH he (by omega) (by omega)]
            refine r_aload_n dL_overlap_99 rfl ?_
            refine r_bipush 6 dL_overlap_100 (by decide) ?_
            refine r_iload_n dL_overlap_102 rfl ?_
            refine r_imul dL_overlap_103 ?_
            refine r_iload dL_overlap_104 rfl ?_
            refine r_iadd dL_overlap_106 ?_
            refine ldM369 (6 * j + f) (ix6c j f) (by omega) dL_overlap_107 ?_
            rw [h9, enL he (by omega) (by omega)]
            refine r_isub dL_overlap_108 ?_
            refine r_icmp_ge 142 dL_overlap_109 (by decide) (fun c109 => ?_) (fun c109 => ?_)
            ·
              replace c109 := Int32.not_lt.mpr c109
              refine r_iconst 0 dL_overlap_142 (by decide) ?_
              refine r_istore_n dL_overlap_143 (by decide) rfl ?_
              refine r_iinc (nI (k + 1)) dL_overlap_144 rfl (nI_1 k) (by decide) rfl ?_
              refine r_goto 5 dL_overlap_147 (by decide) ?_
              exact ih (k + 1) false _ _ _ _ (by omega) (by rw [hov, ← hb, c83]; simp [md, c109]) (by omega)
            ·
              replace c109 := Int32.not_le.mp c109
              refine r_aload_n dL_overlap_112 rfl ?_
              refine r_bipush 6 dL_overlap_113 (by decide) ?_
              refine r_iload_n dL_overlap_115 rfl ?_
              refine r_imul dL_overlap_116 ?_
              refine r_iload dL_overlap_117 rfl ?_
              refine r_iadd dL_overlap_119 ?_
              refine ldM369 (6 * j + d) (ix6c j d) (by omega) dL_overlap_120 ?_
              rw [h9, enL he (by omega) (by omega)]
              refine r_aload_n dL_overlap_121 rfl ?_
              refine r_bipush 6 dL_overlap_122 (by decide) ?_
              refine r_iload_n dL_overlap_124 rfl ?_
              refine r_imul dL_overlap_125 ?_
              refine r_iconst 3 dL_overlap_126 (by decide) ?_
              refine r_iadd dL_overlap_127 ?_
              refine r_iload dL_overlap_128 rfl ?_
              refine r_iadd dL_overlap_130 ?_
              refine ldM369 (6 * j + 3 + f) (ix63 j f) (by omega) dL_overlap_131 ?_
              rw [h9, enH he (by omega) (by omega)]
              refine r_isub dL_overlap_132 ?_
              refine r_iload dL_overlap_133 rfl ?_
              refine r_icmp_ge 142 dL_overlap_135 (by decide) (fun c135 => ?_) (fun c135 => ?_)
              ·
                replace c135 := Int32.not_lt.mpr c135
                refine r_iconst 0 dL_overlap_142 (by decide) ?_
                refine r_istore_n dL_overlap_143 (by decide) rfl ?_
                refine r_iinc (nI (k + 1)) dL_overlap_144 rfl (nI_1 k) (by decide) rfl ?_
                refine r_goto 5 dL_overlap_147 (by decide) ?_
                exact ih (k + 1) false _ _ _ _ (by omega) (by rw [hov, ← hb, c83]; simp [md, c135]) (by omega)
              ·
                replace c135 := Int32.not_le.mp c135
                refine r_iconst 1 dL_overlap_138 (by decide) ?_
                refine r_goto 143 dL_overlap_139 (by decide) ?_
                refine r_istore_n dL_overlap_143 (by decide) rfl ?_
                refine r_iinc (nI (k + 1)) dL_overlap_144 rfl (nI_1 k) (by decide) rfl ?_
                refine r_goto 5 dL_overlap_147 (by decide) ?_
                exact ih (k + 1) true _ _ _ _ (by omega) (by rw [hov, ← hb, c83]; simp [md, c109, c135]) (by omega)
        refine r_iload dL_overlap_11 rfl ?_
        refine r_iconst 2 dL_overlap_13 (by decide) ?_
        refine r_icmp_ne 21 dL_overlap_14 (by decide) (fun c14 => ?_) (fun c14 => ?_)
        ·
          have n14 : ¬ k = 2 := fun q => c14 ((nI_eq (a := k) (b := 2) (by omega) (by omega)).mpr q)
          refine r_iconst 0 dL_overlap_21 (by decide) ?_
          refine r_istore dL_overlap_22 (by decide) rfl ?_
          refine r_iload dL_overlap_24 rfl ?_
          refine r_if_ne 33 dL_overlap_26 (by decide) (fun c26 => ?_) (fun c26 => ?_)
          ·
            have n26 : ¬ k = 0 := fun q => c26 ((nI_eq (a := k) (b := 0) (by omega) (by omega)).mpr q)
            refine r_iconst 2 dL_overlap_33 (by decide) ?_
            refine r_istore dL_overlap_34 (by decide) rfl ?_
            have ek : k = 1 := by omega
            subst ek
            exact B1 0 2 (by omega) (by omega) rfl
          ·
            have n26 := (nI_eq (a := k) (b := 0) (by omega) (by omega)).mp c26
            refine r_iconst 1 dL_overlap_29 (by decide) ?_
            refine r_goto 34 dL_overlap_30 (by decide) ?_
            refine r_istore dL_overlap_34 (by decide) rfl ?_
            have ek : k = 0 := by omega
            subst ek
            exact B1 0 1 (by omega) (by omega) rfl
        ·
          have n14 := (nI_eq (a := k) (b := 2) (by omega) (by omega)).mp c14
          refine r_iconst 1 dL_overlap_17 (by decide) ?_
          refine r_goto 22 dL_overlap_18 (by decide) ?_
          refine r_istore dL_overlap_22 (by decide) rfl ?_
          refine r_iload dL_overlap_24 rfl ?_
          refine r_if_ne 33 dL_overlap_26 (by decide) (fun c26 => ?_) (fun c26 => ?_)
          ·
            have n26 : ¬ k = 0 := fun q => c26 ((nI_eq (a := k) (b := 0) (by omega) (by omega)).mpr q)
            refine r_iconst 2 dL_overlap_33 (by decide) ?_
            refine r_istore dL_overlap_34 (by decide) rfl ?_
            have ek : k = 2 := by omega
            subst ek
            exact B1 1 2 (by omega) (by omega) rfl
          ·
            have n26 := (nI_eq (a := k) (b := 0) (by omega) (by omega)).mp c26
            refine r_iconst 1 dL_overlap_29 (by decide) ?_
            refine r_goto 34 dL_overlap_30 (by decide) ?_
            refine r_istore dL_overlap_34 (by decide) rfl ?_
            exact absurd n26 (by omega)
  exact L1 4 0 true none none none none (by omega) rfl (by omega)

set_option maxRecDepth 100000 in
set_option maxHeartbeats 4000000 in
theorem ctL_by (l : Launch) (Ω : Om) (σ : Sg) (E : Nat → Int32) (v : SpV) (h9 : σ 369 = E) (he : encE E v) (hn : vN v ≤ 10) (i j : Nat) (hi : i < vN v) (hj : j < vN v) : CtW l yL_by wsL_by (rmD 1) Ω [.ref (ad Ω 369), .int (nI i), .int (nI j)] σ (roI (hbI v i j) σ) := by
  refine ct_intro [some (.ref (ad Ω 369)), some (.int (nI i)), some (.int (nI j)), none] (by decide) rfl rfl (Nat.le_of_ble_eq_true rfl) (fun Γ hL hQ => ?_)
  show AtW mL_by Γ Ω σ 0 [some (.ref (ad Ω 369)), some (.int (nI i)), some (.int (nI j)), none] []
  refine r_iload_n dL_by_0 rfl ?_
  refine r_iload_n dL_by_1 rfl ?_
  refine r_icmp_eq 14 dL_by_2 (by decide) (fun c2 => ?_) (fun c2 => ?_)
  ·
    have n2 := (nI_eq (a := i) (b := j) (by omega) (by omega)).mp c2
    refine r_iconst 0 dL_by_14 (by decide) ?_
    exact r_iret hQ rfl dL_by_15 (roI_of (hb_out (Or.inl n2)))
  ·
    have n2 : ¬ i = j := fun q => c2 ((nI_eq (a := i) (b := j) (by omega) (by omega)).mpr q)
    refine r_aload_n dL_by_5 rfl ?_
    refine r_iload_n dL_by_6 rfl ?_
    refine r_iload_n dL_by_7 rfl ?_
    refine r_callSI hL (ctL_overlap l Ω _ E v h9 he hn i j (by omega) (by omega)) kL_by_22 rfl rfl (Nat.le_of_ble_eq_true rfl) dL_by_8 ?_
    refine r_if_ne 16 dL_by_11 (by decide) (fun c11 => ?_) (fun c11 => ?_)
    ·
      replace c11 := bI_t c11
      refine r_iconst 0 dL_by_16 (by decide) ?_
      refine r_istore_n dL_by_17 (by decide) rfl ?_
      have L1 : ∀ (N : Nat) (d : Nat), d ≤ 3 → (∀ q, q < d → (fun d => !decide (vLo v i d < vHi v j d)) q = false) → 3 < d + N → AtW mL_by Γ Ω σ 18 [some (.ref (ad Ω 369)), some (.int (nI i)), some (.int (nI j)), some (.int (nI d))] [] := by
        intro N
        induction N with
        | zero =>
          intro d hd hp hN
          exact absurd hN (by omega)
        | succ N ih =>
          intro d hd hp hN
          refine r_iload_n dL_by_18 rfl ?_
          refine r_iconst 3 dL_by_19 (by decide) ?_
          refine r_icmp_ge 54 dL_by_20 (by decide) (fun c20 => ?_) (fun c20 => ?_)
          ·
            replace c20 := Int32.not_lt.mpr c20
            have n20 := Nat.not_lt.mp (fun q => c20 ((nI_ltI (a := d) (b := 3) (by omega) (by omega)).mpr q))
            refine r_iconst 0 dL_by_54 (by decide) ?_
            have ed : d = 3 := by omega
            subst ed
            exact r_iret hQ rfl dL_by_55 (roI_of (hb_in (by rw [fI_none hp]; decide) n2 c11))
          ·
            replace c20 := Int32.not_le.mp c20
            have n20 := (nI_ltI (a := d) (b := 3) (by omega) (by omega)).mp c20
            refine r_aload_n dL_by_23 rfl ?_
            refine r_bipush 6 dL_by_24 (by decide) ?_
            refine r_iload_n dL_by_26 rfl ?_
            refine r_imul dL_by_27 ?_
            refine r_iload_n dL_by_28 rfl ?_
            refine r_iadd dL_by_29 ?_
            refine ldM369 (6 * i + d) (ix6c i d) (by omega) dL_by_30 ?_
            rw [h9, enL he (by omega) (by omega)]
            refine r_aload_n dL_by_31 rfl ?_
            refine r_bipush 6 dL_by_32 (by decide) ?_
            refine r_iload_n dL_by_34 rfl ?_
            refine r_imul dL_by_35 ?_
            refine r_iconst 3 dL_by_36 (by decide) ?_
            refine r_iadd dL_by_37 ?_
            refine r_iload_n dL_by_38 rfl ?_
            refine r_iadd dL_by_39 ?_
            refine ldM369 (6 * j + 3 + d) (ix63 j d) (by omega) dL_by_40 ?_
            rw [h9, enH he (by omega) (by omega)]
            refine r_icmp_lt 48 dL_by_41 (by decide) (fun c41 => ?_) (fun c41 => ?_)
            ·
              refine r_iinc (nI (d + 1)) dL_by_48 rfl (nI_1 d) (by decide) rfl ?_
              refine r_goto 18 dL_by_51 (by decide) ?_
              exact ih (d + 1) (by omega) (lt_s hp (by simp [c41])) (by omega)
            ·
              refine r_iload_n dL_by_44 rfl ?_
              refine r_iconst 1 dL_by_45 (by decide) ?_
              refine r_iadd dL_by_46 ?_
              exact r_iret hQ rfl dL_by_47 (roI_of (hb_in (by rw [fI_hit hp (by simp [c41]) (by omega)]) n2 c11))
      exact L1 4 0 (by omega) (fun q hq => absurd hq (by omega)) (by omega)
    ·
      replace c11 := bI_f c11
      refine r_iconst 0 dL_by_14 (by decide) ?_
      exact r_iret hQ rfl dL_by_15 (roI_of (hb_out (Or.inr c11)))

set_option maxRecDepth 100000 in
set_option maxHeartbeats 4000000 in
theorem ctL_ones (l : Launch) (Ω : Om) (σ : Sg) (x : Int32) (hx : ∃ m, m < 1024 ∧ x = nI m) : CtW l yL_ones wsL_ones (rmD 0) Ω [.int x] σ (roI (bcI x) σ) := by
  refine ct_intro [some (.int (x)), none, none] (by decide) rfl rfl (Nat.le_of_ble_eq_true rfl) (fun Γ hL hQ => ?_)
  show AtW mL_ones Γ Ω σ 0 [some (.int (x)), none, none] []
  obtain ⟨m, hm, rfl⟩ := hx
  refine r_iconst 0 dL_ones_0 (by decide) ?_
  refine r_istore_n dL_ones_1 (by decide) rfl ?_
  refine r_iload_n dL_ones_2 rfl ?_
  refine r_istore_n dL_ones_3 (by decide) rfl ?_
  have L1 : ∀ (N : Nat) (r c : Nat), r ≤ m → c + nbN r = nbN m → r < N → AtW mL_ones Γ Ω σ 4 [some (.int (nI m)), some (.int (nI c)), some (.int (nI r))] [] := by
    intro N
    induction N with
    | zero =>
      intro r c hr hc hN
      exact absurd hN (by omega)
    | succ N ih =>
      intro r c hr hc hN
      refine r_iload_n dL_ones_4 rfl ?_
      refine r_if_le 20 dL_ones_5 (by decide) (fun c5 => ?_) (fun c5 => ?_)
      ·
        replace c5 := Int32.not_lt.mpr c5
        have n5 := Nat.not_lt.mp (fun q => c5 ((nI_ltI (a := 0) (b := r) (by omega) (by omega)).mpr q))
        refine r_iload_n dL_ones_20 rfl ?_
        have er : r = 0 := by omega
        subst er
        have z0 : nbN 0 = 0 := by decide
        exact r_iret hQ rfl dL_ones_21 (roI_of (by rw [bc_nat (by omega), show c = nbN m by omega]))
      ·
        replace c5 := Int32.not_le.mp c5
        have n5 := (nI_ltI (a := 0) (b := r) (by omega) (by omega)).mp c5
        refine r_iinc (nI (c + 1)) dL_ones_8 rfl (nI_1 c) (by decide) rfl ?_
        refine r_iload_n dL_ones_11 rfl ?_
        refine r_iload_n dL_ones_12 rfl ?_
        refine r_iconst 1 dL_ones_13 (by decide) ?_
        refine r_isub dL_ones_14 ?_
        refine r_iand dL_ones_15 ?_
        obtain ⟨r2, hr2, e2, e3⟩ := kn_step n5 (by omega)
        rw [e2]
        refine r_istore_n dL_ones_16 (by decide) rfl ?_
        refine r_goto 4 dL_ones_17 (by decide) ?_
        exact ih r2 (c + 1) (by omega) (by omega) (by omega)
  exact L1 (m + 1) m 0 (by omega) (by omega) (by omega)

set_option maxRecDepth 100000 in
set_option maxHeartbeats 4000000 in
theorem ctL_volume (l : Launch) (Ω : Om) (σ : Sg) (E : Nat → Int32) (v : SpV) (h9 : σ 369 = E) (he : encE E v) (hn : vN v ≤ 10) (i : Nat) (hi : i < vN v) : CtW l yL_volume wsL_volume (rmD 0) Ω [.ref (ad Ω 369), .int (nI i)] σ (roI (voG (vLo v) (vHi v) i) σ) := by
  refine ct_intro [some (.ref (ad Ω 369)), some (.int (nI i))] (by decide) rfl rfl (Nat.le_of_ble_eq_true rfl) (fun Γ hL hQ => ?_)
  show AtW mL_volume Γ Ω σ 0 [some (.ref (ad Ω 369)), some (.int (nI i))] []
  refine r_aload_n dL_volume_0 rfl ?_
  refine r_bipush 6 dL_volume_1 (by decide) ?_
  refine r_iload_n dL_volume_3 rfl ?_
  refine r_imul dL_volume_4 ?_
  refine r_iconst 3 dL_volume_5 (by decide) ?_
  refine r_iadd dL_volume_6 ?_
  refine ldM369 (6 * i + 3) (ix6c i 3) (by omega) dL_volume_7 ?_
  rw [h9, en3 he (by omega)]
  refine r_aload_n dL_volume_8 rfl ?_
  refine r_bipush 6 dL_volume_9 (by decide) ?_
  refine r_iload_n dL_volume_11 rfl ?_
  refine r_imul dL_volume_12 ?_
  refine ldM369 (6 * i) (ix6 i) (by omega) dL_volume_13 ?_
  rw [h9, en0 he (by omega)]
  refine r_isub dL_volume_14 ?_
  refine r_aload_n dL_volume_15 rfl ?_
  refine r_bipush 6 dL_volume_16 (by decide) ?_
  refine r_iload_n dL_volume_18 rfl ?_
  refine r_imul dL_volume_19 ?_
  refine r_iconst 4 dL_volume_20 (by decide) ?_
  refine r_iadd dL_volume_21 ?_
  refine ldM369 (6 * i + 4) (ix6c i 4) (by omega) dL_volume_22 ?_
  rw [h9, en4 he (by omega)]
  refine r_aload_n dL_volume_23 rfl ?_
  refine r_bipush 6 dL_volume_24 (by decide) ?_
  refine r_iload_n dL_volume_26 rfl ?_
  refine r_imul dL_volume_27 ?_
  refine r_iconst 1 dL_volume_28 (by decide) ?_
  refine r_iadd dL_volume_29 ?_
  refine ldM369 (6 * i + 1) (ix6c i 1) (by omega) dL_volume_30 ?_
  rw [h9, en1 he (by omega)]
  refine r_isub dL_volume_31 ?_
  refine r_imul dL_volume_32 ?_
  refine r_aload_n dL_volume_33 rfl ?_
  refine r_bipush 6 dL_volume_34 (by decide) ?_
  refine r_iload_n dL_volume_36 rfl ?_
  refine r_imul dL_volume_37 ?_
  refine r_iconst 5 dL_volume_38 (by decide) ?_
  refine r_iadd dL_volume_39 ?_
  refine ldM369 (6 * i + 5) (ix6c i 5) (by omega) dL_volume_40 ?_
  rw [h9, en5 he (by omega)]
  refine r_aload_n dL_volume_41 rfl ?_
  refine r_bipush 6 dL_volume_42 (by decide) ?_
  refine r_iload_n dL_volume_44 rfl ?_
  refine r_imul dL_volume_45 ?_
  refine r_iconst 2 dL_volume_46 (by decide) ?_
  refine r_iadd dL_volume_47 ?_
  refine ldM369 (6 * i + 2) (ix6c i 2) (by omega) dL_volume_48 ?_
  rw [h9, en2 he (by omega)]
  refine r_isub dL_volume_49 ?_
  refine r_imul dL_volume_50 ?_
  exact r_iret hQ rfl dL_volume_51 (roI_of rfl)

set_option maxRecDepth 100000 in
set_option maxHeartbeats 4000000 in
theorem ctL_isBelow (l : Launch) (Ω : Om) (σ : Sg) (E : Nat → Int32) (v : SpV) (h9 : σ 369 = E) (he : encE E v) (hn : vN v ≤ 10) (hl : ltV v) (i j : Nat) (hi : i < vN v) (hj : j < vN v) : CtW l yL_isBelow wsL_isBelow (rmD 1) Ω [.ref (ad Ω 369), .int (nI i), .int (nI j)] σ (roI (bI (beB (vLo v i) (vHi v i) (vLo v j) (vHi v j))) σ) := by
  refine ct_intro [some (.ref (ad Ω 369)), some (.int (nI i)), some (.int (nI j))] (by decide) rfl rfl (Nat.le_of_ble_eq_true rfl) (fun Γ hL hQ => ?_)
  show AtW mL_isBelow Γ Ω σ 0 [some (.ref (ad Ω 369)), some (.int (nI i)), some (.int (nI j))] []
  refine r_iload_n dL_isBelow_0 rfl ?_
  refine r_iload_n dL_isBelow_1 rfl ?_
  refine r_icmp_eq 48 dL_isBelow_2 (by decide) (fun c2 => ?_) (fun c2 => ?_)
  ·
    have n2 := (nI_eq (a := i) (b := j) (by omega) (by omega)).mp c2
    refine r_iconst 0 dL_isBelow_48 (by decide) ?_
    exact r_zret hQ rfl ((by decide)) dL_isBelow_49 (roI_of (by rw [be_same hl hj n2]; rfl))
  ·
    have n2 : ¬ i = j := fun q => c2 ((nI_eq (a := i) (b := j) (by omega) (by omega)).mpr q)
    refine r_aload_n dL_isBelow_5 rfl ?_
    refine r_iload_n dL_isBelow_6 rfl ?_
    refine r_iload_n dL_isBelow_7 rfl ?_
    refine r_iconst 0 dL_isBelow_8 (by decide) ?_
    refine r_callSI hL (ctL_isAcross l Ω _ E v h9 he hn i j (by omega) (by omega) 0 (by omega)) kL_isBelow_28 rfl rfl (Nat.le_of_ble_eq_true rfl) dL_isBelow_9 ?_
    refine r_if_eq 48 dL_isBelow_12 (by decide) (fun c12 => ?_) (fun c12 => ?_)
    ·
      replace c12 := bI_f c12
      refine r_iconst 0 dL_isBelow_48 (by decide) ?_
      exact r_zret hQ rfl ((by decide)) dL_isBelow_49 (roI_of (by simp [beB, bI, c12]))
    ·
      replace c12 := bI_t c12
      refine r_aload_n dL_isBelow_15 rfl ?_
      refine r_iload_n dL_isBelow_16 rfl ?_
      refine r_iload_n dL_isBelow_17 rfl ?_
      refine r_iconst 1 dL_isBelow_18 (by decide) ?_
      refine r_callSI hL (ctL_isAcross l Ω _ E v h9 he hn i j (by omega) (by omega) 1 (by omega)) kL_isBelow_28 rfl rfl (Nat.le_of_ble_eq_true rfl) dL_isBelow_19 ?_
      refine r_if_eq 48 dL_isBelow_22 (by decide) (fun c22 => ?_) (fun c22 => ?_)
      ·
        replace c22 := bI_f c22
        refine r_iconst 0 dL_isBelow_48 (by decide) ?_
        exact r_zret hQ rfl ((by decide)) dL_isBelow_49 (roI_of (by simp [beB, bI, c12, c22]))
      ·
        replace c22 := bI_t c22
        refine r_aload_n dL_isBelow_25 rfl ?_
        refine r_bipush 6 dL_isBelow_26 (by decide) ?_
        refine r_iload_n dL_isBelow_28 rfl ?_
        refine r_imul dL_isBelow_29 ?_
        refine r_iconst 5 dL_isBelow_30 (by decide) ?_
        refine r_iadd dL_isBelow_31 ?_
        refine ldM369 (6 * i + 5) (ix6c i 5) (by omega) dL_isBelow_32 ?_
        rw [h9, en5 he (by omega)]
        refine r_aload_n dL_isBelow_33 rfl ?_
        refine r_bipush 6 dL_isBelow_34 (by decide) ?_
        refine r_iload_n dL_isBelow_36 rfl ?_
        refine r_imul dL_isBelow_37 ?_
        refine r_iconst 2 dL_isBelow_38 (by decide) ?_
        refine r_iadd dL_isBelow_39 ?_
        refine ldM369 (6 * j + 2) (ix6c j 2) (by omega) dL_isBelow_40 ?_
        rw [h9, en2 he (by omega)]
        refine r_icmp_gt 48 dL_isBelow_41 (by decide) (fun c41 => ?_) (fun c41 => ?_)
        ·
          refine r_iconst 0 dL_isBelow_48 (by decide) ?_
          exact r_zret hQ rfl ((by decide)) dL_isBelow_49 (roI_of (by simp [beB, bI, c12, c22, c41]))
        ·
          refine r_iconst 1 dL_isBelow_44 (by decide) ?_
          refine r_goto 49 dL_isBelow_45 (by decide) ?_
          exact r_zret hQ rfl ((by decide)) dL_isBelow_49 (roI_of (by simp [beB, bI, c12, c22, c41]))

set_option maxRecDepth 100000 in
set_option maxHeartbeats 4000000 in
theorem ctL_ring (l : Launch) (Ω : Om) (σ : Sg) (G : Nat → Int32) (v : SpV) (h10 : σ 370 = G) (hG : ∀ k, k < vN v → G k = HV v k) (hn : vN v ≤ 10) (k : Nat) (hk : k < vN v) : CtW l yL_ring wsL_ring (rmD 0) Ω [.ref (ad Ω 370), .int (nI (vN v)), .int (nI k)] σ (roI (rgA v k) σ) := by
  refine ct_intro [some (.ref (ad Ω 370)), some (.int (nI (vN v))), some (.int (nI k)), none, none, none, none] (by decide) rfl rfl (Nat.le_of_ble_eq_true rfl) (fun Γ hL hQ => ?_)
  show AtW mL_ring Γ Ω σ 0 [some (.ref (ad Ω 370)), some (.int (nI (vN v))), some (.int (nI k)), none, none, none, none] []
  refine r_aload_n dL_ring_0 rfl ?_
  refine r_iload_n dL_ring_1 rfl ?_
  refine ldM370 k rfl (by omega) dL_ring_2 ?_
  rw [h10, hG k (by omega)]
  refine r_istore_n dL_ring_3 (by decide) rfl ?_
  refine r_iconst 1 dL_ring_4 (by decide) ?_
  refine r_istore dL_ring_5 (by decide) rfl ?_
  have L1 : ∀ (N : Nat) (j : Nat) (x : Int32) (v5 v6 : Option Value), j ≤ exN v k → j ≤ vN v → x = exW (HV v) (vN v) k j → vN v < j + N → AtW mL_ring Γ Ω σ 7 [some (.ref (ad Ω 370)), some (.int (nI (vN v))), some (.int (nI k)), some (.int (x)), some (.int (nI (j + 1))), v5, v6] [] := by
    intro N
    induction N with
    | zero =>
      intro j x v5 v6 hj hjn hx hN
      exact absurd hN (by omega)
    | succ N ih =>
      intro j x v5 v6 hj hjn hx hN
      have ihA := ih
      refine r_iload dL_ring_7 rfl ?_
      refine r_iload_n dL_ring_9 rfl ?_
      refine r_icmp_gt 75 dL_ring_10 (by decide) (fun c10 => ?_) (fun c10 => ?_)
      ·
        have n10 := (nI_ltI (a := vN v) (b := j + 1) (by omega) (by omega)).mp c10
        refine r_iconst (-1) dL_ring_75 (by decide) ?_
        exact r_iret hQ rfl dL_ring_76 (roI_of (rg_end hj (by omega)))
      ·
        have n10 := Nat.not_lt.mp (fun q => c10 ((nI_ltI (a := vN v) (b := j + 1) (by omega) (by omega)).mpr q))
        refine r_iload_n dL_ring_13 rfl ?_
        refine r_iload_n dL_ring_14 rfl ?_
        refine r_ishr dL_ring_15 ?_
        refine r_iconst 1 dL_ring_16 (by decide) ?_
        refine r_iand dL_ring_17 ?_
        refine r_iconst 1 dL_ring_18 (by decide) ?_
        refine r_icmp_ne 25 dL_ring_19 (by decide) (fun c19 => ?_) (fun c19 => ?_)
        ·
          refine r_iconst 0 dL_ring_25 (by decide) ?_
          refine r_istore dL_ring_26 (by decide) rfl ?_
          refine r_iconst 0 dL_ring_28 (by decide) ?_
          refine r_istore dL_ring_29 (by decide) rfl ?_
          have L2 : ∀ (N : Nat) (m : Nat) (z : Int32), m ≤ vN v → z = orI (hasB x) (HV v) m → vN v < m + N → AtW mL_ring Γ Ω σ 31 [some (.ref (ad Ω 370)), some (.int (nI (vN v))), some (.int (nI k)), some (.int (x)), some (.int (nI (j + 1))), some (.int (z)), some (.int (nI m))] [] := by
            intro N
            induction N with
            | zero =>
              intro m z hm hz hN
              exact absurd hN (by omega)
            | succ N ih =>
              intro m z hm hz hN
              refine r_iload dL_ring_31 rfl ?_
              refine r_iload_n dL_ring_33 rfl ?_
              refine r_icmp_ge 66 dL_ring_34 (by decide) (fun c34 => ?_) (fun c34 => ?_)
              ·
                replace c34 := Int32.not_lt.mpr c34
                have n34 := Nat.not_lt.mp (fun q => c34 ((nI_ltI (a := m) (b := vN v) (by omega) (by omega)).mpr q))
                have em : m = vN v := by omega
                refine r_iload dL_ring_66 rfl ?_
                refine r_istore_n dL_ring_68 (by decide) rfl ?_
                refine r_iinc (nI (j + 1 + 1)) dL_ring_69 rfl (nI_1 (j + 1)) (by decide) rfl ?_
                refine r_goto 7 dL_ring_72 (by decide) ?_
                exact ihA (j + 1) _ _ _ (rg_go hj (by omega) (by rw [← hx]; exact has_1 c19)) (by omega) (by rw [hz, em, hx]; rfl) (by omega)
              ·
                replace c34 := Int32.not_le.mp c34
                have n34 := (nI_ltI (a := m) (b := vN v) (by omega) (by omega)).mp c34
                refine r_iload dL_ring_37 rfl ?_
                refine r_iload_n dL_ring_39 rfl ?_
                refine r_iload dL_ring_40 rfl ?_
                refine r_ishr dL_ring_42 ?_
                refine r_iconst 1 dL_ring_43 (by decide) ?_
                refine r_iand dL_ring_44 ?_
                refine r_iconst 1 dL_ring_45 (by decide) ?_
                refine r_icmp_ne 56 dL_ring_46 (by decide) (fun c46 => ?_) (fun c46 => ?_)
                ·
                  refine r_iconst 0 dL_ring_56 (by decide) ?_
                  refine r_ior dL_ring_57 ?_
                  refine r_istore dL_ring_58 (by decide) rfl ?_
                  refine r_iinc (nI (m + 1)) dL_ring_60 rfl (nI_1 m) (by decide) rfl ?_
                  refine r_goto 31 dL_ring_63 (by decide) ?_
                  exact ih (m + 1) _ (by omega) (by rw [orI, if_neg (by simp [has_1 c46]), hz, or_0]) (by omega)
                ·
                  refine r_aload_n dL_ring_49 rfl ?_
                  refine r_iload dL_ring_50 rfl ?_
                  refine ldM370 m rfl (by omega) dL_ring_52 ?_
                  rw [h10, hG m (by omega)]
                  refine r_goto 57 dL_ring_53 (by decide) ?_
                  refine r_ior dL_ring_57 ?_
                  refine r_istore dL_ring_58 (by decide) rfl ?_
                  refine r_iinc (nI (m + 1)) dL_ring_60 rfl (nI_1 m) (by decide) rfl ?_
                  refine r_goto 31 dL_ring_63 (by decide) ?_
                  exact ih (m + 1) _ (by omega) (by rw [orI, if_pos (has_2 c46), hz]) (by omega)
          exact L2 (vN v + 1) 0 0 (by omega) rfl (by omega)
        ·
          refine r_iload dL_ring_22 rfl ?_
          exact r_iret hQ rfl dL_ring_24 (roI_of (rg_hit hj (by omega) (by rw [← hx]; exact has_2 c19)))
  exact L1 (vN v + 1) 0 _ none none (by omega) (by omega) rfl (by omega)
