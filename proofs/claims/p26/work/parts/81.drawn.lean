set_option maxRecDepth 100000 in
set_option maxHeartbeats 4000000 in
theorem ctL_read (l : Launch) (Ω : Om) (σ : Sg) (S : StV) (h : isC σ S) (hg : gdV (qC S)) (hn : vN (qC S) ≤ 10) : CtW l yL_read wsL_read (rmD 8) Ω [.ref (ad Ω 368), .ref (ad Ω 369)] σ (reJ (fun x σ1 => x = nI (vN (qC S)) ∧ isC σ1 S ∧ encE (σ1 369) (qC S))) := by
  refine ct_intro [some (.ref (ad Ω 368)), some (.ref (ad Ω 369)), none, none] (by decide) rfl rfl (Nat.le_of_ble_eq_true rfl) (fun Γ hL hQ => ?_)
  show AtW mL_read Γ Ω σ 0 [some (.ref (ad Ω 368)), some (.ref (ad Ω 369)), none, none] []
  have hs : lwS S (σ 369) (σ 370) σ := ⟨h, rfl, rfl⟩
  refine r_aload_n dL_read_0 rfl ?_
  refine r_iconst 0 dL_read_1 (by decide) ?_
  refine r_callVJ (368) hL (ctX5_total l Ω _ S hs.1 (gd_hY hg) _) kL_read_9 (by omega) ⟨_, _, _, rfl, rfl, rfl⟩ rfl rfl (Nat.le_of_ble_eq_true rfl) dL_read_2 ?_
  intro x2 σ2 hσ2
  obtain ⟨e2, hs⟩ := lw_q hs hσ2 rfl
  replace e2 := e2.trans (toA_0 S)
  subst e2
  refine r_istore_n dL_read_5 (by decide) rfl ?_
  refine r_iconst 0 dL_read_6 (by decide) ?_
  refine r_istore_n dL_read_7 (by decide) rfl ?_
  have L1 : ∀ (N : Nat) (k : Nat) (τ : Sg), k ≤ 6 * vN (qC S) → isC τ S → (∀ q, q < k → τ 369 q = eV (qC S) q) → 6 * vN (qC S) < k + N → AtW mL_read Γ Ω τ 8 [some (.ref (ad Ω 368)), some (.ref (ad Ω 369)), some (.int (nI (vN (qC S)))), some (.int (nI k))] [] := by
    intro N
    induction N with
    | zero =>
      intro k τ hk hc hq hN
      exact absurd hN (by omega)
    | succ N ih =>
      intro k τ hk hc hq hN
      have hs : lwS S (τ 369) (τ 370) τ := ⟨hc, rfl, rfl⟩
      refine r_iload_n dL_read_8 rfl ?_
      refine r_bipush 6 dL_read_9 (by decide) ?_
      refine r_iload_n dL_read_11 rfl ?_
      refine r_imul dL_read_12 ?_
      rw [show (6 : Int32) * nI (vN (qC S)) = nI (6 * vN (qC S)) from ix6 _]
      have hq0 := hq
      refine r_icmp_ge 53 dL_read_13 (by decide) (fun c13 => ?_) (fun c13 => ?_)
      ·
        replace c13 := Int32.not_lt.mpr c13
        have n13 := Nat.not_lt.mp (fun q => c13 ((nI_ltI (a := k) (b := 6 * vN (qC S)) (by omega) (by omega)).mpr q))
        refine r_iload_n dL_read_53 rfl ?_
        have ek : k = 6 * vN (qC S) := by omega
        subst ek
        exact r_iret hQ rfl dL_read_54 (reJ_of ⟨rfl, hc, eV_enc hq⟩)
      ·
        replace c13 := Int32.not_le.mp c13
        have n13 := (nI_ltI (a := k) (b := 6 * vN (qC S)) (by omega) (by omega)).mp c13
        refine r_aload_n dL_read_16 rfl ?_
        refine r_iload_n dL_read_17 rfl ?_
        refine r_aload_n dL_read_18 rfl ?_
        refine r_aload_n dL_read_19 rfl ?_
        refine r_iload_n dL_read_20 rfl ?_
        refine r_bipush 6 dL_read_21 (by decide) ?_
        refine r_idiv dL_read_23 (by decide) ?_
        rw [show nI k / (6 : Int32) = nI (k / 6) from pk_div (a := k) (d := 6) (by omega) (by omega) (by omega)]
        refine r_callVJ (368) hL (ctX5_box l Ω _ S hs.1 _) kL_read_15 (by omega) ⟨_, _, _, rfl, rfl, rfl⟩ rfl rfl (Nat.le_of_ble_eq_true rfl) dL_read_24 ?_
        intro x24 σ24 hσ24
        obtain ⟨e24, hs⟩ := lw_q hs hσ24 rfl
        replace e24 := e24.trans (box_at (by omega) (show k / 6 < _ by omega))
        subst e24
        refine r_iload_n dL_read_27 rfl ?_
        refine r_iconst 3 dL_read_28 (by decide) ?_
        refine r_irem dL_read_29 (by decide) ?_
        rw [show nI k - nI k / (3 : Int32) * 3 = nI (k % 3) from pk_rem (a := k) (d := 3) (by omega) (by omega) (by omega)]
        refine r_iload_n dL_read_30 rfl ?_
        refine r_bipush 6 dL_read_31 (by decide) ?_
        refine r_irem dL_read_33 (by decide) ?_
        rw [show nI k - nI k / (6 : Int32) * 6 = nI (k % 6) from pk_rem (a := k) (d := 6) (by omega) (by omega) (by omega)]
        refine r_iconst 2 dL_read_34 (by decide) ?_
        refine r_icmp_le 42 dL_read_35 (by decide) (fun c35 => ?_) (fun c35 => ?_)
        ·
          replace c35 := Int32.not_lt.mpr c35
          have n35 := Nat.not_lt.mp (fun q => c35 ((nI_ltI (a := 2) (b := k % 6) (by omega) (by omega)).mpr q))
          refine r_iconst 0 dL_read_42 (by decide) ?_
          refine r_callVJ (368) hL (ctX5_end l Ω _ S hs.1 _ _ _) kL_read_18 (by omega) ⟨_, _, _, rfl, rfl, rfl⟩ rfl rfl (Nat.le_of_ble_eq_true rfl) dL_read_43 ?_
          intro x43 σ43 hσ43
          obtain ⟨e43, hs⟩ := lw_q hs hσ43 rfl
          replace e43 := e43.trans (end_at (k := k / 6) (d := k % 3) hg.1 (by omega) (by omega))
          subst e43
          refine stM369 k rfl (by omega) dL_read_46 ?_
          refine r_iinc (nI (k + 1)) dL_read_47 rfl (nI_1 k) (by decide) rfl ?_
          refine r_goto 8 dL_read_50 (by decide) ?_
          exact ih (k + 1) _ (by omega) (isC_up hs.1 (by omega)) (eV_up (fun q hq => by rw [hs.2.1]; exact hq0 q hq) (by rw [if_pos rfl, eV, if_pos (by omega)])) (by omega)
        ·
          replace c35 := Int32.not_le.mp c35
          have n35 := (nI_ltI (a := 2) (b := k % 6) (by omega) (by omega)).mp c35
          refine r_iconst 1 dL_read_38 (by decide) ?_
          refine r_goto 43 dL_read_39 (by decide) ?_
          refine r_callVJ (368) hL (ctX5_end l Ω _ S hs.1 _ _ _) kL_read_18 (by omega) ⟨_, _, _, rfl, rfl, rfl⟩ rfl rfl (Nat.le_of_ble_eq_true rfl) dL_read_43 ?_
          intro x43 σ43 hσ43
          obtain ⟨e43, hs⟩ := lw_q hs hσ43 rfl
          replace e43 := e43.trans (end_at (k := k / 6) (d := k % 3) hg.1 (by omega) (by omega))
          subst e43
          refine stM369 k rfl (by omega) dL_read_46 ?_
          refine r_iinc (nI (k + 1)) dL_read_47 rfl (nI_1 k) (by decide) rfl ?_
          refine r_goto 8 dL_read_50 (by decide) ?_
          exact ih (k + 1) _ (by omega) (isC_up hs.1 (by omega)) (eV_up (fun q hq => by rw [hs.2.1]; exact hq0 q hq) (by rw [if_neg (show ¬ (1 : Int32) = 0 by decide), eV, if_neg (by omega)])) (by omega)
  exact L1 (6 * vN (qC S) + 1) 0 _ (by omega) hs.1 (fun q hq => absurd hq (Nat.not_lt_zero q)) (by omega)

set_option maxRecDepth 100000 in
set_option maxHeartbeats 4000000 in
theorem ctL_drawn (l : Launch) (Ω : Om) (σ : Sg) (S : StV) (E G : Nat → Int32) (hs : lwS S E G σ) (hg : gdV (qC S)) (he : encE E (qC S)) (hn : vN (qC S) ≤ 10) (hG : ∀ k, k < vN (qC S) → G k = HV (qC S) k) (w : Int32) (q : Bool) (hq : q = true → w = 0) (hw : ∀ b, vN (qC S) ≤ b → b < 32 → hasB w b = false) : CtW l yL_drawn wsL_drawn (rmD 8) Ω [.ref (ad Ω 368), .ref (ad Ω 369), .ref (ad Ω 370), .int (nI (vN (qC S))), .int w, .int (bI q)] σ (reJ (fun x σ1 => drX (qC S) w x ∧ lwS S E G σ1)) := by
  refine ct_intro [some (.ref (ad Ω 368)), some (.ref (ad Ω 369)), some (.ref (ad Ω 370)), some (.int (nI (vN (qC S)))), some (.int (w)), some (.int (bI q)), none, none, none, none, none, none, none] (by decide) rfl rfl (Nat.le_of_ble_eq_true rfl) (fun Γ hL hQ => ?_)
  show AtW mL_drawn Γ Ω σ 0 [some (.ref (ad Ω 368)), some (.ref (ad Ω 369)), some (.ref (ad Ω 370)), some (.int (nI (vN (qC S)))), some (.int (w)), some (.int (bI q)), none, none, none, none, none, none, none] []
  refine r_aload_n dL_drawn_0 rfl ?_
  refine r_bipush 10 dL_drawn_1 (by decide) ?_
  refine r_callVJ (368) hL (ctX5_total l Ω _ S hs.1 (gd_hY hg) _) kL_drawn_9 (by omega) ⟨_, _, _, rfl, rfl, rfl⟩ rfl rfl (Nat.le_of_ble_eq_true rfl) dL_drawn_3 ?_
  intro x3 σ3 hσ3
  obtain ⟨e3, hs⟩ := lw_q hs hσ3 rfl
  replace e3 := e3.trans (toA_10 S)
  subst e3
  refine r_istore dL_drawn_6 (by decide) rfl ?_
  refine r_iload dL_drawn_8 rfl ?_
  refine r_istore dL_drawn_10 (by decide) rfl ?_
  refine r_iconst 0 dL_drawn_12 (by decide) ?_
  refine r_istore dL_drawn_13 (by decide) rfl ?_
  have L1 : ∀ (N : Nat) (j : Nat) (D : Int32) (τ : Sg) (v9 v10 v11 v12 : Option Value), lwS S E G τ → drJ (qC S) w j D → vN (qC S) < j + N → AtW mL_drawn Γ Ω τ 15 [some (.ref (ad Ω 368)), some (.ref (ad Ω 369)), some (.ref (ad Ω 370)), some (.int (nI (vN (qC S)))), some (.int (w)), some (.int (bI q)), some (.int (vRu (qC S))), some (.int (D)), some (.int (nI j)), v9, v10, v11, v12] [] := by
    intro N
    induction N with
    | zero =>
      intro j D τ v9 v10 v11 v12 hs hd hN
      exact absurd (drJ_le hd) (by omega)
    | succ N ih =>
      intro j D τ v9 v10 v11 v12 hs hd hN
      have ihA := ih
      have hj := drJ_le hd
      refine r_iconst (-1) dL_drawn_15 (by decide) ?_
      refine r_istore dL_drawn_16 (by decide) rfl ?_
      refine r_iconst 0 dL_drawn_18 (by decide) ?_
      refine r_istore dL_drawn_19 (by decide) rfl ?_
      refine r_iconst 0 dL_drawn_21 (by decide) ?_
      refine r_istore dL_drawn_22 (by decide) rfl ?_
      have L2 : ∀ (N : Nat) (m : Nat) (x y : Int32) (v12 : Option Value), m ≤ vN (qC S) → bsI (qC S) D m x y → vN (qC S) < m + N → AtW mL_drawn Γ Ω τ 24 [some (.ref (ad Ω 368)), some (.ref (ad Ω 369)), some (.ref (ad Ω 370)), some (.int (nI (vN (qC S)))), some (.int (w)), some (.int (bI q)), some (.int (vRu (qC S))), some (.int (D)), some (.int (nI j)), some (.int (x)), some (.int (y)), some (.int (nI m)), v12] [] := by
        intro N
        induction N with
        | zero =>
          intro m x y v12 hm hb hN
          exact absurd hN (by omega)
        | succ N ih =>
          intro m x y v12 hm hb hN
          refine r_iload dL_drawn_24 rfl ?_
          refine r_iload_n dL_drawn_26 rfl ?_
          refine r_icmp_ge 136 dL_drawn_27 (by decide) (fun c27 => ?_) (fun c27 => ?_)
          ·
            replace c27 := Int32.not_lt.mpr c27
            have n27 := Nat.not_lt.mp (fun q => c27 ((nI_ltI (a := m) (b := vN (qC S)) (by omega) (by omega)).mpr q))
            have em : m = vN (qC S) := by omega
            subst em
            refine r_iload dL_drawn_136 rfl ?_
            refine r_if_ge 169 dL_drawn_138 (by decide) (fun c138 => ?_) (fun c138 => ?_)
            ·
              replace c138 := Int32.not_lt.mpr c138
              obtain ⟨b, hbn0, eb, ex⟩ := oI_nn hb.1 c138
              subst ex
              refine r_iload dL_drawn_169 rfl ?_
              refine r_if_eq 191 dL_drawn_171 (by decide) (fun c171 => ?_) (fun c171 => ?_)
              ·
                replace c171 := bI_f c171
                have hb2 := (drJ_s (by omega) hd eb).1
                refine r_iload dL_drawn_191 rfl ?_
                refine r_iconst 1 dL_drawn_193 (by decide) ?_
                refine r_iload dL_drawn_194 rfl ?_
                refine r_ishl dL_drawn_196 ?_
                refine r_ior dL_drawn_197 ?_
                refine r_istore dL_drawn_198 (by decide) rfl ?_
                refine r_iinc (nI (j + 1)) dL_drawn_200 rfl (nI_1 j) (by decide) rfl ?_
                refine r_goto 15 dL_drawn_203 (by decide) ?_
                exact ihA (j + 1) _ _ _ _ _ _ hs (drJ_s (by omega) hd eb).2 (by omega)
              ·
                replace c171 := bI_t c171
                have hw0 := hq c171
                subst hw0
                obtain ⟨hjc, hO, hb2⟩ := drJ_dc (by omega) hd eb
                refine r_aload_n dL_drawn_174 rfl ?_
                refine r_iload dL_drawn_175 rfl ?_
                refine r_callVJ (368) hL (ctX5_drawn l Ω _ S hs.1 _) kL_drawn_36 (by omega) ⟨_, _, _, rfl, rfl, rfl⟩ rfl rfl (Nat.le_of_ble_eq_true rfl) dL_drawn_177 ?_
                intro x177 σ177 hσ177
                obtain ⟨e177, hs⟩ := lw_q hs hσ177 rfl
                replace e177 := e177.trans (dra_at (by omega) hjc hO hb2)
                subst e177
                refine r_aload_n dL_drawn_180 rfl ?_
                refine r_iload dL_drawn_181 rfl ?_
                refine r_callVJ (368) hL (ctX5_box l Ω _ S hs.1 _) kL_drawn_15 (by omega) ⟨_, _, _, rfl, rfl, rfl⟩ rfl rfl (Nat.le_of_ble_eq_true rfl) dL_drawn_183 ?_
                intro x183 σ183 hσ183
                obtain ⟨e183, hs⟩ := lw_q hs hσ183 rfl
                replace e183 := e183.trans (box_at (by omega) hb2)
                subst e183
                refine r_icmp_eq 191 dL_drawn_186 (by decide) (fun c186 => ?_) (fun c186 => absurd c186 (fun q => q rfl))
                refine r_iload dL_drawn_191 rfl ?_
                refine r_iconst 1 dL_drawn_193 (by decide) ?_
                refine r_iload dL_drawn_194 rfl ?_
                refine r_ishl dL_drawn_196 ?_
                refine r_ior dL_drawn_197 ?_
                refine r_istore dL_drawn_198 (by decide) rfl ?_
                refine r_iinc (nI (j + 1)) dL_drawn_200 rfl (nI_1 j) (by decide) rfl ?_
                refine r_goto 15 dL_drawn_203 (by decide) ?_
                exact ihA (j + 1) _ _ _ _ _ _ hs (drJ_s (by omega) hd eb).2 (by omega)
            ·
              replace c138 := Int32.not_le.mp c138
              have eb := oI_lt (by omega) hb.1 c138
              refine r_iload dL_drawn_141 rfl ?_
              refine r_if_eq 161 dL_drawn_143 (by decide) (fun c143 => ?_) (fun c143 => ?_)
              ·
                replace c143 := bI_f c143
                refine r_iload dL_drawn_161 rfl ?_
                refine r_iload dL_drawn_163 rfl ?_
                refine r_iconst (-1) dL_drawn_165 (by decide) ?_
                refine r_ixor dL_drawn_166 ?_
                refine r_iand dL_drawn_167 ?_
                exact r_iret hQ rfl dL_drawn_168 (reJ_of ⟨(drJ_end (by omega) hd eb).2, hs⟩)
              ·
                replace c143 := bI_t c143
                have hw0 := hq c143
                subst hw0
                refine r_aload_n dL_drawn_146 rfl ?_
                refine r_iload dL_drawn_147 rfl ?_
                refine r_callVJ (368) hL (ctX5_drawn l Ω _ S hs.1 _) kL_drawn_36 (by omega) ⟨_, _, _, rfl, rfl, rfl⟩ rfl rfl (Nat.le_of_ble_eq_true rfl) dL_drawn_149 ?_
                intro x149 σ149 hσ149
                obtain ⟨e149, hs⟩ := lw_q hs hσ149 rfl
                have ejd : j = DCv (qC S) := by rw [← dr_cnt (by omega)]; exact (drJ_end (by omega) hd eb).1.symm
                rw [ejd] at e149
                replace e149 := e149.trans (dra_no (by omega))
                subst e149
                refine r_bipush (-5) dL_drawn_152 (by decide) ?_
                refine r_icmp_eq 161 dL_drawn_154 (by decide) (fun c154 => ?_) (fun c154 => absurd c154 (by decide))
                refine r_iload dL_drawn_161 rfl ?_
                refine r_iload dL_drawn_163 rfl ?_
                refine r_iconst (-1) dL_drawn_165 (by decide) ?_
                refine r_ixor dL_drawn_166 ?_
                refine r_iand dL_drawn_167 ?_
                exact r_iret hQ rfl dL_drawn_168 (reJ_of ⟨(drJ_end (by omega) hd eb).2, hs⟩)
          ·
            replace c27 := Int32.not_le.mp c27
            have n27 := (nI_ltI (a := m) (b := vN (qC S)) (by omega) (by omega)).mp c27
            refine r_iload dL_drawn_30 rfl ?_
            refine r_iload dL_drawn_32 rfl ?_
            refine r_ishr dL_drawn_34 ?_
            refine r_iconst 1 dL_drawn_35 (by decide) ?_
            refine r_iand dL_drawn_36 ?_
            refine r_iconst 1 dL_drawn_37 (by decide) ?_
            refine r_icmp_eq 130 dL_drawn_38 (by decide) (fun c38 => ?_) (fun c38 => ?_)
            ·
              refine r_iinc (nI (m + 1)) dL_drawn_130 rfl (nI_1 m) (by decide) rfl ?_
              refine r_goto 24 dL_drawn_133 (by decide) ?_
              exact ih (m + 1) _ _ _ (by omega) (bs_no hb (canD_f1 (has_2 c38))) (by omega)
            ·
              refine r_aload_n dL_drawn_41 rfl ?_
              refine r_iload dL_drawn_42 rfl ?_
              refine ldM370 m rfl (by omega) dL_drawn_44 ?_
              rw [hs.2.2, hG m (by omega)]
              refine r_iload dL_drawn_45 rfl ?_
              refine r_iconst (-1) dL_drawn_47 (by decide) ?_
              refine r_ixor dL_drawn_48 ?_
              refine r_iand dL_drawn_49 ?_
              refine r_if_eq 56 dL_drawn_50 (by decide) (fun c50 => ?_) (fun c50 => ?_)
              ·
                have J1 : ∀ (z : Int32) (hz : z = lwt (qC S) m), AtW mL_drawn Γ Ω τ 108 [some (.ref (ad Ω 368)), some (.ref (ad Ω 369)), some (.ref (ad Ω 370)), some (.int (nI (vN (qC S)))), some (.int (w)), some (.int (bI q)), some (.int (vRu (qC S))), some (.int (D)), some (.int (nI j)), some (.int (x)), some (.int (y)), some (.int (nI m)), v12] [.int z] := by
                  intro z hz
                  have hp := canD_t (has_1 c38) c50
                  refine r_istore dL_drawn_108 (by decide) rfl ?_
                  refine r_iload dL_drawn_110 rfl ?_
                  refine r_if_lt 122 dL_drawn_112 (by decide) (fun c112 => ?_) (fun c112 => ?_)
                  ·
                    refine r_iload dL_drawn_122 rfl ?_
                    refine r_istore dL_drawn_124 (by decide) rfl ?_
                    refine r_iload dL_drawn_126 rfl ?_
                    refine r_istore dL_drawn_128 (by decide) rfl ?_
                    refine r_iinc (nI (m + 1)) dL_drawn_130 rfl (nI_1 m) (by decide) rfl ?_
                    refine r_goto 24 dL_drawn_133 (by decide) ?_
                    exact ih (m + 1) _ _ _ (by omega) (by rw [hz]; exact bs_first (by omega) hb hp c112) (by omega)
                  ·
                    refine r_iload dL_drawn_115 rfl ?_
                    refine r_iload dL_drawn_117 rfl ?_
                    refine r_icmp_ge 130 dL_drawn_119 (by decide) (fun c119 => ?_) (fun c119 => ?_)
                    ·
                      replace c119 := Int32.not_lt.mpr c119
                      refine r_iinc (nI (m + 1)) dL_drawn_130 rfl (nI_1 m) (by decide) rfl ?_
                      refine r_goto 24 dL_drawn_133 (by decide) ?_
                      exact ih (m + 1) _ _ _ (by omega) (bs_not hg.2.1 (by omega) hb c112 (by rw [← hz]; exact c119)) (by omega)
                    ·
                      replace c119 := Int32.not_le.mp c119
                      refine r_iload dL_drawn_122 rfl ?_
                      refine r_istore dL_drawn_124 (by decide) rfl ?_
                      refine r_iload dL_drawn_126 rfl ?_
                      refine r_istore dL_drawn_128 (by decide) rfl ?_
                      refine r_iinc (nI (m + 1)) dL_drawn_130 rfl (nI_1 m) (by decide) rfl ?_
                      refine r_goto 24 dL_drawn_133 (by decide) ?_
                      exact ih (m + 1) _ _ _ (by omega) (by rw [hz]; exact bs_less hg.2.1 (by omega) hb hp c112 (by rw [← hz]; exact c119)) (by omega)
                refine r_iload dL_drawn_56 rfl ?_
                refine r_if_ne 66 dL_drawn_58 (by decide) (fun c58 => ?_) (fun c58 => ?_)
                ·
                  refine r_iload dL_drawn_66 rfl ?_
                  refine r_iconst 1 dL_drawn_68 (by decide) ?_
                  refine r_icmp_ne 102 dL_drawn_69 (by decide) (fun c69 => ?_) (fun c69 => ?_)
                  ·
                    refine r_aload_n dL_drawn_102 rfl ?_
                    refine r_iload dL_drawn_103 rfl ?_
                    refine r_callSI hL (ctL_volume l Ω _ E (qC S) hs.2.1 he hn m (by omega)) kL_drawn_32 rfl rfl (Nat.le_of_ble_eq_true rfl) dL_drawn_105 ?_
                    exact J1 _ (by rw [lwt, if_neg c58, if_neg c69])
                  ·
                    refine r_aload_n dL_drawn_72 rfl ?_
                    refine r_bipush 6 dL_drawn_73 (by decide) ?_
                    refine r_iload dL_drawn_75 rfl ?_
                    refine r_imul dL_drawn_77 ?_
                    refine ldM369 (6 * m) (ix6 m) (by omega) dL_drawn_78 ?_
                    rw [hs.2.1, en0 he (by omega)]
                    refine r_aload_n dL_drawn_79 rfl ?_
                    refine r_bipush 6 dL_drawn_80 (by decide) ?_
                    refine r_iload dL_drawn_82 rfl ?_
                    refine r_imul dL_drawn_84 ?_
                    refine r_iconst 1 dL_drawn_85 (by decide) ?_
                    refine r_iadd dL_drawn_86 ?_
                    refine ldM369 (6 * m + 1) (ix6c m 1) (by omega) dL_drawn_87 ?_
                    rw [hs.2.1, en1 he (by omega)]
                    refine r_iadd dL_drawn_88 ?_
                    refine r_aload_n dL_drawn_89 rfl ?_
                    refine r_bipush 6 dL_drawn_90 (by decide) ?_
                    refine r_iload dL_drawn_92 rfl ?_
                    refine r_imul dL_drawn_94 ?_
                    refine r_iconst 2 dL_drawn_95 (by decide) ?_
                    refine r_iadd dL_drawn_96 ?_
                    refine ldM369 (6 * m + 2) (ix6c m 2) (by omega) dL_drawn_97 ?_
                    rw [hs.2.1, en2 he (by omega)]
                    refine r_iadd dL_drawn_98 ?_
                    refine r_goto 108 dL_drawn_99 (by decide) ?_
                    exact J1 _ (by rw [lwt, if_neg c58, if_pos c69])
                ·
                  refine r_iload dL_drawn_61 rfl ?_
                  refine r_goto 108 dL_drawn_63 (by decide) ?_
                  exact J1 _ (by rw [lwt, if_pos c58])
              ·
                refine r_goto 130 dL_drawn_53 (by decide) ?_
                refine r_iinc (nI (m + 1)) dL_drawn_130 rfl (nI_1 m) (by decide) rfl ?_
                refine r_goto 24 dL_drawn_133 (by decide) ?_
                exact ih (m + 1) _ _ _ (by omega) (bs_no hb (canD_f2 c50)) (by omega)
      exact L2 (vN (qC S) + 1) 0 (-1) 0 _ (by omega) (bs_0 _ _) (by omega)
  exact L1 (vN (qC S) + 1) 0 w _ _ _ _ _ hs (drJ_0 (by omega) hw) (by omega)
