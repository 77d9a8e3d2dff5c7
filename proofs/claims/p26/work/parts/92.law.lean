/-! THE LAW: its walk, from the objects on -/
abbrev mL_law : MI := (cL_law, RL, wsL_law, 8, room_1, ret)
set_option maxRecDepth 20000 in
theorem kL_law_107 : CoS mL_law 107 yL_isSo wsL_isSo (rmD 9) 3 := ⟨_, _, _, _, gL_law_L_isSo, rfl, by decide +kernel, ⟨Nat.le_of_ble_eq_true rfl, Nat.le_of_ble_eq_true rfl⟩, rfl, rfl⟩
set_option maxRecDepth 20000 in
theorem kL_law_111 : CoV mL_law 111 RX5 yX5_breaks wsX5_breaks (rmD 7) 0 := ⟨_, _, _, _, gL_law_X5_breaks, rfl, by decide +kernel, ⟨Nat.le_of_ble_eq_true rfl, Nat.le_of_ble_eq_true rfl⟩, rfl, rfl⟩
set_option maxRecDepth 20000 in
theorem kL_law_96 : CoV mL_law 96 RX5 yX5_breakRing wsX5_breakRing (rmD 7) 0 := ⟨_, _, _, _, gL_law_X5_breakRing, rfl, by decide +kernel, ⟨Nat.le_of_ble_eq_true rfl, Nat.le_of_ble_eq_true rfl⟩, rfl, rfl⟩
set_option maxRecDepth 20000 in
theorem kL_law_100 : CoV mL_law 100 RX5 yX5_turn wsX5_turn (rmD 6) 0 := ⟨_, _, _, _, gL_law_X5_turn, rfl, by decide +kernel, ⟨Nat.le_of_ble_eq_true rfl, Nat.le_of_ble_eq_true rfl⟩, rfl, rfl⟩
set_option maxRecDepth 20000 in
theorem kL_law_114 : CoS mL_law 114 yL_cell wsL_cell (rmD 0) 2 := ⟨_, _, _, _, gL_law_L_cell, rfl, by decide +kernel, ⟨Nat.le_of_ble_eq_true rfl, Nat.le_of_ble_eq_true rfl⟩, rfl, rfl⟩
set_option maxRecDepth 20000 in
theorem kL_law_82 : CoV mL_law 82 RX5 yX5_add wsX5_add (rmD 5) 6 := ⟨_, _, _, _, gL_law_X5_add, rfl, by decide +kernel, ⟨Nat.le_of_ble_eq_true rfl, Nat.le_of_ble_eq_true rfl⟩, rfl, rfl⟩
set_option maxRecDepth 20000 in
theorem kL_law_42 : CoV mL_law 42 RX5 yX5_pair wsX5_pair (rmD 3) 2 := ⟨_, _, _, _, gL_law_X5_pair, rfl, by decide +kernel, ⟨Nat.le_of_ble_eq_true rfl, Nat.le_of_ble_eq_true rfl⟩, rfl, rfl⟩
set_option maxRecDepth 20000 in
theorem kL_law_9 : CoV mL_law 9 RX5 yX5_total wsX5_total (rmD 7) 1 := ⟨_, _, _, _, gL_law_X5_total, rfl, by decide +kernel, ⟨Nat.le_of_ble_eq_true rfl, Nat.le_of_ble_eq_true rfl⟩, rfl, rfl⟩
set_option maxRecDepth 20000 in
theorem kL_law_70 : CoV mL_law 70 RX5 yX5_waitsFor wsX5_waitsFor (rmD 7) 1 := ⟨_, _, _, _, gL_law_X5_waitsFor, rfl, by decide +kernel, ⟨Nat.le_of_ble_eq_true rfl, Nat.le_of_ble_eq_true rfl⟩, rfl, rfl⟩
set_option maxRecDepth 20000 in
theorem kL_law_73 : CoV mL_law 73 RX5 yX5_drawnWithout wsX5_drawnWithout (rmD 6) 1 := ⟨_, _, _, _, gL_law_X5_drawnWithout, rfl, by decide +kernel, ⟨Nat.le_of_ble_eq_true rfl, Nat.le_of_ble_eq_true rfl⟩, rfl, rfl⟩
set_option maxRecDepth 20000 in
theorem kL_law_118 : CoS mL_law 118 yL_act wsL_act (rmD 8) 3 := ⟨_, _, _, _, gL_law_L_act, rfl, by decide +kernel, ⟨Nat.le_of_ble_eq_true rfl, Nat.le_of_ble_eq_true rfl⟩, rfl, rfl⟩
def v00 : SpV := (0, 0, 0, 0, fun _ => 0, fun _ _ => 0, fun _ _ => 0)
def S00 : StV := (v00, 0, fun _ => v00, none, 0, fun _ => 0)
def T1 : StV := (oAdd S00 0 0 1 8 1 1).2
def T2 : StV := (oAdd T1 1 0 0 1 8 1).2
def T3 : StV := (oAdd T2 0 1 0 1 1 8).2
theorem gs00 : goS 1 S00 := ⟨⟨⟨fun j k _ hk => absurd hk (Nat.not_lt_zero k), Or.inl rfl, fun k hk => absurd hk (Nat.not_lt_zero k), fun j k hj => absurd hj (Nat.not_lt_zero j)⟩, 0, rfl, by decide, fun k hk => absurd hk (Nat.not_lt_zero k)⟩, fun i hi => absurd hi (Nat.not_lt_zero i), fun w hw => by cases hw⟩
theorem gs3 : goS 4 T3 := go_add (go_add (go_add gs00 (by decide) (by decide)) (by decide +kernel) (by decide)) (by decide +kernel) (by decide)
theorem isV_00 {s : Nat} (hs : s < 7) : isV sgN s v00 := by
  have e : sgN (iS s) = fun _ => 0 := sgN_ne (by unfold iS; omega)
  refine ⟨Nat.zero_le _, by rw [e]; rfl, by rw [e]; rfl, by rw [e]; rfl, by rw [e]; rfl, fun j hj => absurd hj (Nat.not_lt_zero j)⟩
theorem hOk_00 : hOk sgN 0 (fun i => 3 + i) := ⟨rfl, by decide, fun i hi => ⟨rfl, by
  show 3 ≤ 3 + i
  omega, by
  show 3 + i < 7
  omega⟩, fun i j hi hj e => by
  have e : 3 + i = 3 + j := e
  omega⟩
theorem isC_00 : isC sgN S00 := ⟨isV_00 (by omega), ⟨fun i => 3 + i, hOk_00, fun i hi => absurd hi (Nat.not_lt_zero i)⟩, Or.inr ⟨rfl, rfl⟩, rfl, by decide, fun i hi => absurd hi (Nat.not_lt_zero i)⟩
set_option maxRecDepth 100000 in
set_option maxHeartbeats 4000000 in
theorem law_body {l : Launch} {Γ : GmW} {Ω : Om} {b L : Nat} {xs : Nat → Int32} {σ : Sg} (hL : gL Γ = l) (hs : ScX Γ b L xs) (hc : isC σ S00) (fin : ∀ (σ : Sg) (v4 v5 v6 v7 : Option Value), AtW mL_law Γ Ω σ 323 [some (.ref b), some (.ref (ad Ω 368)), some (.ref (ad Ω 369)), some (.ref (ad Ω 370)), v4, v5, v6, v7] []) : AtW mL_law Γ Ω σ 18 [some (.ref b), some (.ref (ad Ω 368)), some (.ref (ad Ω 369)), some (.ref (ad Ω 370)), none, none, none, none] [] := by
  refine r_aload_n dL_law_18 rfl ?_
  refine r_aload_n dL_law_19 rfl ?_
  refine r_aload_n dL_law_20 rfl ?_
  refine r_callSJ hL (ctL_isSo l Ω _ _ hc gs00.1.1 (by decide)) kL_law_107 rfl rfl (Nat.le_of_ble_eq_true rfl) dL_law_21 ?_
  intro x21 σ21 hσ21
  obtain ⟨e21, hc⟩ := hσ21
  subst e21
  refine r_if_eq 52 dL_law_24 (by decide) (fun c24 => absurd c24 (by decide)) (fun c24 => ?_)
  refine r_aload_n dL_law_27 rfl ?_
  refine r_callVJ (368) hL (ctX5_breaks l Ω _ S00 hc 0 (by decide) rfl) kL_law_111 (by omega) ⟨_, _, _, rfl, rfl, rfl⟩ rfl rfl (Nat.le_of_ble_eq_true rfl) dL_law_28 ?_
  intro x28 σ28 hσ28
  have e28 : x28 = 0 := hσ28.1.trans (by decide +kernel)
  subst e28
  have hc : isC σ28 S00 := hσ28.2.1
  refine r_if_ne 52 dL_law_31 (by decide) (fun c31 => absurd c31 (by decide)) (fun c31 => ?_)
  refine r_aload_n dL_law_34 rfl ?_
  refine r_callVJ (368) hL (ctX5_breakRing l Ω _ S00 hc (by decide)) kL_law_96 (by omega) ⟨_, _, _, rfl, rfl, rfl⟩ rfl rfl (Nat.le_of_ble_eq_true rfl) dL_law_35 ?_
  intro x35 σ35 hσ35
  have e35 : x35 = (-5) := hσ35.1.trans (by decide +kernel)
  subst e35
  have hc : isC σ35 S00 := hσ35.2.1
  refine r_bipush (-5) dL_law_38 (by decide) ?_
  refine r_icmp_ne 52 dL_law_40 (by decide) (fun c40 => absurd c40 (by decide)) (fun c40 => ?_)
  refine r_aload_n dL_law_43 rfl ?_
  refine r_callVJ (368) hL (ctX5_turn l Ω _ S00 hc) kL_law_100 (by omega) ⟨_, _, _, rfl, rfl, rfl⟩ rfl rfl (Nat.le_of_ble_eq_true rfl) dL_law_44 ?_
  intro x44 σ44 hσ44
  have e44 : x44 = (-5) := hσ44.1.trans (by decide +kernel)
  subst e44
  have hc : isC σ44 S00 := hσ44.2.1
  refine r_bipush (-5) dL_law_47 (by decide) ?_
  refine r_icmp_eq 54 dL_law_49 (by decide) (fun c49 => ?_) (fun c49 => absurd c49 (by decide))
  have J0 : ∀ (τ : Sg) (S : StV) (B : Nat) (v4 : Option Value) (hc : isC τ S) (hgo : goS B S) (hn : vN (qC S) ≤ 10) (hB : B ≤ 10 + 0), AtW mL_law Γ Ω τ 235 [some (.ref b), some (.ref (ad Ω 368)), some (.ref (ad Ω 369)), some (.ref (ad Ω 370)), v4, none, none, none] [] := by
    intro τ S B v4 hc hgo hn hB
    refine r_iconst 0 dL_law_235 (by decide) ?_
    refine r_istore dL_law_236 (by decide) rfl ?_
    have LT : ∀ (N : Nat) (t : Nat) (τ : Sg) (S : StV) (B : Nat) (v5 v6 v7 : Option Value), t ≤ 26 → isC τ S → goS B S → vN (qC S) ≤ 10 → B ≤ 10 + t → 26 < t + N → AtW mL_law Γ Ω τ 238 [some (.ref b), some (.ref (ad Ω 368)), some (.ref (ad Ω 369)), some (.ref (ad Ω 370)), some (.int (nI t)), v5, v6, v7] [] := by
      intro N
      induction N with
      | zero =>
        intro t τ S B v5 v6 v7 ht hc hgo hn hB hN
        exact absurd hN (by omega)
      | succ N ih =>
        intro t τ S B v5 v6 v7 ht hc hgo hn hB hN
        refine r_iload dL_law_238 rfl ?_
        refine r_bipush 26 dL_law_240 (by decide) ?_
        refine r_icmp_ge 323 dL_law_242 (by decide) (fun c242 => ?_) (fun c242 => ?_)
        ·
          replace c242 := Int32.not_lt.mpr c242
          have n242 := Nat.not_lt.mp (fun q => c242 ((nI_ltI (a := t) (b := 26) (by omega) (by omega)).mpr q))
          exact fin _ _ _ _ _
        ·
          replace c242 := Int32.not_le.mp c242
          have n242 := (nI_ltI (a := t) (b := 26) (by omega) (by omega)).mp c242
          refine r_aload_n dL_law_245 rfl ?_
          refine r_iconst 1 dL_law_246 (by decide) ?_
          refine r_iconst 2 dL_law_247 (by decide) ?_
          refine r_iload dL_law_248 rfl ?_
          refine r_imul dL_law_250 ?_
          rw [show (2 : Int32) * nI t = nI (2 * t) from nI_mulR 2 t]
          refine r_iadd dL_law_251 ?_
          rw [show (1 : Int32) + nI (2 * t) = nI (1 + 2 * t) from nI_add 1 _]
          refine r_callSK hL ⟨hs, ctL_cell l Ω _ b L xs hs.2.2.2 (1 + 2 * t) (by omega)⟩ kL_law_114 rfl rfl (Nat.le_of_ble_eq_true rfl) dL_law_252 ?_
          intro x252 σ252 hσ252
          rw [hσ252]
          refine r_istore dL_law_255 (by decide) rfl ?_
          refine r_aload_n dL_law_257 rfl ?_
          refine r_iconst 2 dL_law_258 (by decide) ?_
          refine r_iconst 2 dL_law_259 (by decide) ?_
          refine r_iload dL_law_260 rfl ?_
          refine r_imul dL_law_262 ?_
          rw [show (2 : Int32) * nI t = nI (2 * t) from nI_mulR 2 t]
          refine r_iadd dL_law_263 ?_
          rw [show (2 : Int32) + nI (2 * t) = nI (2 + 2 * t) from nI_add 2 _]
          refine r_callSK hL ⟨hs, ctL_cell l Ω _ b L xs hs.2.2.2 (2 + 2 * t) (by omega)⟩ kL_law_114 rfl rfl (Nat.le_of_ble_eq_true rfl) dL_law_264 ?_
          intro x264 σ264 hσ264
          rw [hσ264]
          refine r_istore dL_law_267 (by decide) rfl ?_
          refine r_aload_n dL_law_269 rfl ?_
          refine r_iload dL_law_270 rfl ?_
          refine r_iconst 4 dL_law_272 (by decide) ?_
          refine r_icmp_ge 290 dL_law_273 (by decide) (fun c273 => ?_) (fun c273 => ?_)
          ·
            replace c273 := Int32.not_lt.mpr c273
            have n273 := Nat.not_lt.mp (fun q => c273 ((nI_ltI (a := t) (b := 4) (by omega) (by omega)).mpr q))
            refine r_iload dL_law_290 rfl ?_
            refine r_iload dL_law_292 rfl ?_
            refine r_callSJ hL (ctL_act l Ω _ S B hc hgo (by omega) hn _ _) kL_law_118 rfl rfl (Nat.le_of_ble_eq_true rfl) dL_law_294 ?_
            intro x294 σ294 hσ294
            obtain ⟨h5, S2, hc, hgo2, hn2⟩ := hσ294
            refine r_istore dL_law_297 (by decide) rfl ?_
            refine r_iload dL_law_299 rfl ?_
            refine r_bipush (-5) dL_law_301 (by decide) ?_
            refine r_icmp_lt 315 dL_law_303 (by decide) (fun c303 => absurd c303 (h5)) (fun c303 => ?_)
            refine r_aload_n dL_law_306 rfl ?_
            refine r_aload_n dL_law_307 rfl ?_
            refine r_aload_n dL_law_308 rfl ?_
            refine r_callSJ hL (ctL_isSo l Ω _ _ hc hgo2.1.1 hn2) kL_law_107 rfl rfl (Nat.le_of_ble_eq_true rfl) dL_law_309 ?_
            intro x309 σ309 hσ309
            obtain ⟨e309, hc⟩ := hσ309
            subst e309
            refine r_if_ne 317 dL_law_312 (by decide) (fun c312 => ?_) (fun c312 => absurd c312 (by decide))
            refine r_iinc (nI (t + 1)) dL_law_317 rfl (nI_1 t) (by decide) rfl ?_
            refine r_goto 238 dL_law_320 (by decide) ?_
            exact ih (t + 1) _ S2 (B + 1) _ _ _ (by omega) hc hgo2 hn2 (by omega) (by omega)
          ·
            replace c273 := Int32.not_le.mp c273
            have n273 := (nI_ltI (a := t) (b := 4) (by omega) (by omega)).mp c273
            refine r_bipush 12 dL_law_276 (by decide) ?_
            refine r_iload dL_law_278 rfl ?_
            refine r_bipush 8 dL_law_280 (by decide) ?_
            refine r_ishr dL_law_282 ?_
            refine r_ldc 65535 dL_law_283 (by decide +kernel) ?_
            refine r_iand dL_law_285 ?_
            refine r_imul dL_law_286 ?_
            refine r_goto 292 dL_law_287 (by decide) ?_
            refine r_iload dL_law_292 rfl ?_
            refine r_callSJ hL (ctL_act l Ω _ S B hc hgo (by omega) hn _ _) kL_law_118 rfl rfl (Nat.le_of_ble_eq_true rfl) dL_law_294 ?_
            intro x294 σ294 hσ294
            obtain ⟨h5, S2, hc, hgo2, hn2⟩ := hσ294
            refine r_istore dL_law_297 (by decide) rfl ?_
            refine r_iload dL_law_299 rfl ?_
            refine r_bipush (-5) dL_law_301 (by decide) ?_
            refine r_icmp_lt 315 dL_law_303 (by decide) (fun c303 => absurd c303 (h5)) (fun c303 => ?_)
            refine r_aload_n dL_law_306 rfl ?_
            refine r_aload_n dL_law_307 rfl ?_
            refine r_aload_n dL_law_308 rfl ?_
            refine r_callSJ hL (ctL_isSo l Ω _ _ hc hgo2.1.1 hn2) kL_law_107 rfl rfl (Nat.le_of_ble_eq_true rfl) dL_law_309 ?_
            intro x309 σ309 hσ309
            obtain ⟨e309, hc⟩ := hσ309
            subst e309
            refine r_if_ne 317 dL_law_312 (by decide) (fun c312 => ?_) (fun c312 => absurd c312 (by decide))
            refine r_iinc (nI (t + 1)) dL_law_317 rfl (nI_1 t) (by decide) rfl ?_
            refine r_goto 238 dL_law_320 (by decide) ?_
            exact ih (t + 1) _ S2 (B + 1) _ _ _ (by omega) hc hgo2 hn2 (by omega) (by omega)
    exact LT 27 0 _ S B _ _ _ (by omega) hc hgo hn hB (by omega)
  refine r_aload_n dL_law_54 rfl ?_
  refine r_iconst 0 dL_law_55 (by decide) ?_
  refine r_callSK hL ⟨hs, ctL_cell l Ω _ b L xs hs.2.2.2 0 (by omega)⟩ kL_law_114 rfl rfl (Nat.le_of_ble_eq_true rfl) dL_law_56 ?_
  intro x56 σ56 hσ56
  rw [hσ56]
  refine r_iconst 1 dL_law_59 (by decide) ?_
  refine r_iand dL_law_60 ?_
  refine r_iconst 1 dL_law_61 (by decide) ?_
  refine r_icmp_ne 235 dL_law_62 (by decide) (fun c62 => ?_) (fun c62 => ?_)
  ·
    exact J0 _ S00 1 _ hc gs00 (by decide) (by omega)
  ·
    refine r_aload_n dL_law_65 rfl ?_
    refine r_iconst 0 dL_law_66 (by decide) ?_
    refine r_iconst 0 dL_law_67 (by decide) ?_
    refine r_iconst 1 dL_law_68 (by decide) ?_
    refine r_bipush 8 dL_law_69 (by decide) ?_
    refine r_iconst 1 dL_law_71 (by decide) ?_
    refine r_iconst 1 dL_law_72 (by decide) ?_
    refine r_callVJ (368) hL (ctX5_add l Ω _ S00 hc (by decide) 0 0 1 8 1 1) kL_law_82 (by omega) ⟨_, _, _, rfl, rfl, rfl⟩ rfl rfl (Nat.le_of_ble_eq_true rfl) dL_law_73 ?_
    intro x73 σ73 hσ73
    have e73 : x73 = 0 := hσ73.1.trans (by decide +kernel)
    subst e73
    have hc : isC σ73 T1 := hσ73.2.1
    refine r_if_ne 153 dL_law_76 (by decide) (fun c76 => absurd c76 (by decide)) (fun c76 => ?_)
    refine r_aload_n dL_law_79 rfl ?_
    refine r_iconst 1 dL_law_80 (by decide) ?_
    refine r_iconst 0 dL_law_81 (by decide) ?_
    refine r_iconst 0 dL_law_82 (by decide) ?_
    refine r_iconst 1 dL_law_83 (by decide) ?_
    refine r_bipush 8 dL_law_84 (by decide) ?_
    refine r_iconst 1 dL_law_86 (by decide) ?_
    refine r_callVJ (368) hL (ctX5_add l Ω _ T1 hc (by decide +kernel) 1 0 0 1 8 1) kL_law_82 (by omega) ⟨_, _, _, rfl, rfl, rfl⟩ rfl rfl (Nat.le_of_ble_eq_true rfl) dL_law_87 ?_
    intro x87 σ87 hσ87
    have e87 : x87 = 1 := hσ87.1.trans (by decide +kernel)
    subst e87
    have hc : isC σ87 T2 := hσ87.2.1
    refine r_iconst 1 dL_law_90 (by decide) ?_
    refine r_icmp_ne 153 dL_law_91 (by decide) (fun c91 => absurd c91 (by decide)) (fun c91 => ?_)
    refine r_aload_n dL_law_94 rfl ?_
    refine r_iconst 0 dL_law_95 (by decide) ?_
    refine r_iconst 1 dL_law_96 (by decide) ?_
    refine r_iconst 0 dL_law_97 (by decide) ?_
    refine r_iconst 1 dL_law_98 (by decide) ?_
    refine r_iconst 1 dL_law_99 (by decide) ?_
    refine r_bipush 8 dL_law_100 (by decide) ?_
    refine r_callVJ (368) hL (ctX5_add l Ω _ T2 hc (by decide +kernel) 0 1 0 1 1 8) kL_law_82 (by omega) ⟨_, _, _, rfl, rfl, rfl⟩ rfl rfl (Nat.le_of_ble_eq_true rfl) dL_law_102 ?_
    intro x102 σ102 hσ102
    have e102 : x102 = 2 := hσ102.1.trans (by decide +kernel)
    subst e102
    have hc : isC σ102 T3 := hσ102.2.1
    have hg3 := gs3
    refine r_iconst 2 dL_law_105 (by decide) ?_
    refine r_icmp_ne 153 dL_law_106 (by decide) (fun c106 => absurd c106 (by decide)) (fun c106 => ?_)
    refine r_aload_n dL_law_109 rfl ?_
    refine r_iconst 0 dL_law_110 (by decide) ?_
    refine r_iconst 1 dL_law_111 (by decide) ?_
    refine r_callVJ (368) hL (ctX5_pair l Ω _ T3 hc 0 1) kL_law_42 (by omega) ⟨_, _, _, rfl, rfl, rfl⟩ rfl rfl (Nat.le_of_ble_eq_true rfl) dL_law_112 ?_
    intro x112 σ112 hσ112
    have e112 : x112 = 3 := hσ112.1.trans (by decide +kernel)
    subst e112
    have hc : isC σ112 T3 := hσ112.2.1
    refine r_iconst 3 dL_law_115 (by decide) ?_
    refine r_icmp_ne 153 dL_law_116 (by decide) (fun c116 => absurd c116 (by decide)) (fun c116 => ?_)
    refine r_aload_n dL_law_119 rfl ?_
    refine r_iconst 1 dL_law_120 (by decide) ?_
    refine r_iconst 2 dL_law_121 (by decide) ?_
    refine r_callVJ (368) hL (ctX5_pair l Ω _ T3 hc 1 2) kL_law_42 (by omega) ⟨_, _, _, rfl, rfl, rfl⟩ rfl rfl (Nat.le_of_ble_eq_true rfl) dL_law_122 ?_
    intro x122 σ122 hσ122
    have e122 : x122 = 1 := hσ122.1.trans (by decide +kernel)
    subst e122
    have hc : isC σ122 T3 := hσ122.2.1
    refine r_iconst 1 dL_law_125 (by decide) ?_
    refine r_icmp_ne 153 dL_law_126 (by decide) (fun c126 => absurd c126 (by decide)) (fun c126 => ?_)
    refine r_aload_n dL_law_129 rfl ?_
    refine r_iconst 2 dL_law_130 (by decide) ?_
    refine r_iconst 0 dL_law_131 (by decide) ?_
    refine r_callVJ (368) hL (ctX5_pair l Ω _ T3 hc 2 0) kL_law_42 (by omega) ⟨_, _, _, rfl, rfl, rfl⟩ rfl rfl (Nat.le_of_ble_eq_true rfl) dL_law_132 ?_
    intro x132 σ132 hσ132
    have e132 : x132 = 2 := hσ132.1.trans (by decide +kernel)
    subst e132
    have hc : isC σ132 T3 := hσ132.2.1
    refine r_iconst 2 dL_law_135 (by decide) ?_
    refine r_icmp_ne 153 dL_law_136 (by decide) (fun c136 => absurd c136 (by decide)) (fun c136 => ?_)
    refine r_aload_n dL_law_139 rfl ?_
    refine r_iconst 0 dL_law_140 (by decide) ?_
    refine r_iconst 2 dL_law_141 (by decide) ?_
    refine r_callVJ (368) hL (ctX5_pair l Ω _ T3 hc 0 2) kL_law_42 (by omega) ⟨_, _, _, rfl, rfl, rfl⟩ rfl rfl (Nat.le_of_ble_eq_true rfl) dL_law_142 ?_
    intro x142 σ142 hσ142
    have e142 : x142 = 5 := hσ142.1.trans (by decide +kernel)
    subst e142
    have hc : isC σ142 T3 := hσ142.2.1
    refine r_iconst 5 dL_law_145 (by decide) ?_
    refine r_icmp_ne 153 dL_law_146 (by decide) (fun c146 => absurd c146 (by decide)) (fun c146 => ?_)
    refine r_iconst 1 dL_law_149 (by decide) ?_
    refine r_goto 154 dL_law_150 (by decide) ?_
    refine r_istore dL_law_154 (by decide) rfl ?_
    refine r_iload dL_law_156 rfl ?_
    refine r_if_eq 233 dL_law_158 (by decide) (fun c158 => absurd c158 (by decide)) (fun c158 => ?_)
    refine r_aload_n dL_law_161 rfl ?_
    refine r_iconst 3 dL_law_162 (by decide) ?_
    refine r_callVJ (368) hL (ctX5_total l Ω _ T3 hc (gd_hY hg3.1.1) 3) kL_law_9 (by omega) ⟨_, _, _, rfl, rfl, rfl⟩ rfl rfl (Nat.le_of_ble_eq_true rfl) dL_law_163 ?_
    intro x163 σ163 hσ163
    have e163 : x163 = 0 := hσ163.1.trans (by decide +kernel)
    subst e163
    have hc : isC σ163 T3 := hσ163.2.1
    refine r_if_ne 233 dL_law_166 (by decide) (fun c166 => absurd c166 (by decide)) (fun c166 => ?_)
    refine r_aload_n dL_law_169 rfl ?_
    refine r_iconst 4 dL_law_170 (by decide) ?_
    refine r_callVJ (368) hL (ctX5_total l Ω _ T3 hc (gd_hY hg3.1.1) 4) kL_law_9 (by omega) ⟨_, _, _, rfl, rfl, rfl⟩ rfl rfl (Nat.le_of_ble_eq_true rfl) dL_law_171 ?_
    intro x171 σ171 hσ171
    have e171 : x171 = 3 := hσ171.1.trans (by decide +kernel)
    subst e171
    have hc : isC σ171 T3 := hσ171.2.1
    refine r_iconst 3 dL_law_174 (by decide) ?_
    refine r_icmp_ne 233 dL_law_175 (by decide) (fun c175 => absurd c175 (by decide)) (fun c175 => ?_)
    refine r_aload_n dL_law_178 rfl ?_
    refine r_iconst 5 dL_law_179 (by decide) ?_
    refine r_callVJ (368) hL (ctX5_total l Ω _ T3 hc (gd_hY hg3.1.1) 5) kL_law_9 (by omega) ⟨_, _, _, rfl, rfl, rfl⟩ rfl rfl (Nat.le_of_ble_eq_true rfl) dL_law_180 ?_
    intro x180 σ180 hσ180
    have e180 : x180 = 3 := hσ180.1.trans (by decide +kernel)
    subst e180
    have hc : isC σ180 T3 := hσ180.2.1
    refine r_iconst 3 dL_law_183 (by decide) ?_
    refine r_icmp_ne 233 dL_law_184 (by decide) (fun c184 => absurd c184 (by decide)) (fun c184 => ?_)
    refine r_aload_n dL_law_187 rfl ?_
    refine r_bipush 6 dL_law_188 (by decide) ?_
    refine r_callVJ (368) hL (ctX5_total l Ω _ T3 hc (gd_hY hg3.1.1) 6) kL_law_9 (by omega) ⟨_, _, _, rfl, rfl, rfl⟩ rfl rfl (Nat.le_of_ble_eq_true rfl) dL_law_190 ?_
    intro x190 σ190 hσ190
    have e190 : x190 = (-5) := hσ190.1.trans (by decide +kernel)
    subst e190
    have hc : isC σ190 T3 := hσ190.2.1
    refine r_bipush (-5) dL_law_193 (by decide) ?_
    refine r_icmp_ne 233 dL_law_195 (by decide) (fun c195 => absurd c195 (by decide)) (fun c195 => ?_)
    refine r_aload_n dL_law_198 rfl ?_
    refine r_iconst 0 dL_law_199 (by decide) ?_
    refine r_callVJ (368) hL (ctX5_waitsFor l Ω _ T3 hc 0) kL_law_70 (by omega) ⟨_, _, _, rfl, rfl, rfl⟩ rfl rfl (Nat.le_of_ble_eq_true rfl) dL_law_200 ?_
    intro x200 σ200 hσ200
    have e200 : x200 = 1 := hσ200.1.trans (by decide +kernel)
    subst e200
    have hc : isC σ200 T3 := hσ200.2.1
    refine r_iconst 1 dL_law_203 (by decide) ?_
    refine r_icmp_ne 233 dL_law_204 (by decide) (fun c204 => absurd c204 (by decide)) (fun c204 => ?_)
    refine r_aload_n dL_law_207 rfl ?_
    refine r_iconst 2 dL_law_208 (by decide) ?_
    refine r_callVJ (368) hL (ctX5_waitsFor l Ω _ T3 hc 2) kL_law_70 (by omega) ⟨_, _, _, rfl, rfl, rfl⟩ rfl rfl (Nat.le_of_ble_eq_true rfl) dL_law_209 ?_
    intro x209 σ209 hσ209
    have e209 : x209 = 0 := hσ209.1.trans (by decide +kernel)
    subst e209
    have hc : isC σ209 T3 := hσ209.2.1
    refine r_if_ne 233 dL_law_212 (by decide) (fun c212 => absurd c212 (by decide)) (fun c212 => ?_)
    refine r_aload_n dL_law_215 rfl ?_
    refine r_iconst 1 dL_law_216 (by decide) ?_
    refine r_callVJ (368) hL (ctX5_drawnWithout l Ω _ T3 hc 1) kL_law_73 (by omega) ⟨_, _, _, rfl, rfl, rfl⟩ rfl rfl (Nat.le_of_ble_eq_true rfl) dL_law_217 ?_
    intro x217 σ217 hσ217
    have e217 : x217 = 2 := hσ217.1.trans (by decide +kernel)
    subst e217
    have hc : isC σ217 T3 := hσ217.2.1
    refine r_iconst 2 dL_law_220 (by decide) ?_
    refine r_icmp_ne 233 dL_law_221 (by decide) (fun c221 => absurd c221 (by decide)) (fun c221 => ?_)
    refine r_aload_n dL_law_224 rfl ?_
    refine r_aload_n dL_law_225 rfl ?_
    refine r_aload_n dL_law_226 rfl ?_
    refine r_callSJ hL (ctL_isSo l Ω _ _ hc hg3.1.1 (by decide +kernel)) kL_law_107 rfl rfl (Nat.le_of_ble_eq_true rfl) dL_law_227 ?_
    intro x227 σ227 hσ227
    obtain ⟨e227, hc⟩ := hσ227
    subst e227
    refine r_if_ne 235 dL_law_230 (by decide) (fun c230 => ?_) (fun c230 => absurd c230 (by decide))
    exact J0 _ T3 4 _ hc hg3 (by decide +kernel) (by omega)
