/-! THE LAW OF ITS OWN: one box -/
theorem sh_tot {v : SpV} {k a0 b0 a1 b1 x : Nat} {sh : Int32} (hg : gdV v) (hn : vN v ≤ 16) (hk : k < vN v) (ea0 : vLo v k 0 = nI a0) (eb0 : vHi v k 0 = nI b0) (ea1 : vLo v k 1 = nI a1) (eb1 : vHi v k 1 = nI b1) (h1 : a0 < 100) (h2 : b0 < 100) (h3 : a1 < 100) (h4 : b1 < 100) (hsh : sh = shT v k a0 a1 (b1 - a1) x) (ex : x = b0 - a0) : shaV v k = sh := by
  rw [← pe_sh hg hn k hk, hsh, ex]
  unfold shX
  rw [ea0, eb0, ea1, eb1, nI_clamp (by omega), nI_clamp (by omega), nI_clamp (by omega), nI_clamp (by omega)]
set_option maxRecDepth 100000 in
set_option maxHeartbeats 4000000 in
theorem ctL_isBox (l : Launch) (Ω : Om) (σ : Sg) (S : StV) (E G : Nat → Int32) (hs : lwS S E G σ) (hg : gdV (qC S)) (he : encE E (qC S)) (hn : vN (qC S) ≤ 10) (hG : ∀ k, k < vN (qC S) → G k = HV (qC S) k) (k : Nat) (hk : k < vN (qC S)) : CtW l yL_isBox wsL_isBox (rmD 8) Ω [.ref (ad Ω 368), .ref (ad Ω 369), .ref (ad Ω 370), .int (nI (vN (qC S))), .int (nI k)] σ (reJ (fun x σ1 => x = 1 ∧ lwS S E G σ1)) := by
  refine ct_intro [some (.ref (ad Ω 368)), some (.ref (ad Ω 369)), some (.ref (ad Ω 370)), some (.int (nI (vN (qC S)))), some (.int (nI k)), none, none, none, none, none, none, none, none, none] (by decide) rfl rfl (Nat.le_of_ble_eq_true rfl) (fun Γ hL hQ => ?_)
  show AtW mL_isBox Γ Ω σ 0 [some (.ref (ad Ω 368)), some (.ref (ad Ω 369)), some (.ref (ad Ω 370)), some (.int (nI (vN (qC S)))), some (.int (nI k)), none, none, none, none, none, none, none, none, none] []
  obtain ⟨a0, b0, ea0, eb0, hab0, hb0, hw0⟩ := hg.2.2.1 k hk 0 (by omega)
  obtain ⟨a1, b1, ea1, eb1, hab1, hb1, hw1⟩ := hg.2.2.1 k hk 1 (by omega)
  refine r_aload_n dL_isBox_0 rfl ?_
  refine r_iload dL_isBox_1 rfl ?_
  refine r_callVJ (368) hL (ctX5_box l Ω _ S hs.1 _) kL_isBox_15 (by omega) ⟨_, _, _, rfl, rfl, rfl⟩ rfl rfl (Nat.le_of_ble_eq_true rfl) dL_isBox_3 ?_
  intro x3 σ3 hσ3
  obtain ⟨e3, hs⟩ := lw_q hs hσ3 rfl
  replace e3 := e3.trans (box_at (by omega) (show k < _ by omega))
  subst e3
  refine r_istore dL_isBox_6 (by decide) rfl ?_
  refine r_iconst 0 dL_isBox_8 (by decide) ?_
  refine r_istore dL_isBox_9 (by decide) rfl ?_
  refine r_iconst 0 dL_isBox_11 (by decide) ?_
  refine r_istore dL_isBox_12 (by decide) rfl ?_
  refine r_iconst 0 dL_isBox_14 (by decide) ?_
  refine r_istore dL_isBox_15 (by decide) rfl ?_
  refine r_iconst 0 dL_isBox_17 (by decide) ?_
  refine r_istore dL_isBox_18 (by decide) rfl ?_
  refine r_iconst 0 dL_isBox_20 (by decide) ?_
  refine r_istore dL_isBox_21 (by decide) rfl ?_
  have L1 : ∀ (N : Nat) (i : Nat) (a b c : Int32) (τ : Sg) (v11 v12 v13 : Option Value), i ≤ vN (qC S) → lwS S E G τ → a = cntI (fun j => hasB (HV (qC S) j) k) i → b = cntI (fun j => beB (vLo (qC S) j) (vHi (qC S) j) (vLo (qC S) k) (vHi (qC S) k)) i → c = cntI (fun j => beB (vLo (qC S) j) (vHi (qC S) j) (vLo (qC S) k) (vHi (qC S) k) && decide (vHi (qC S) j 2 = vLo (qC S) k 2)) i → vN (qC S) < i + N → AtW mL_isBox Γ Ω τ 23 [some (.ref (ad Ω 368)), some (.ref (ad Ω 369)), some (.ref (ad Ω 370)), some (.int (nI (vN (qC S)))), some (.int (nI k)), some (.int (vNu (qC S) k)), some (.int (a)), some (.int (b)), some (.int (c)), some (.int (0)), some (.int (nI i)), v11, v12, v13] [] := by
    intro N
    induction N with
    | zero =>
      intro i a b c τ v11 v12 v13 hi hs ha hb hc hN
      exact absurd hN (by omega)
    | succ N ih =>
      intro i a b c τ v11 v12 v13 hi hs ha hb hc hN
      refine r_iload dL_isBox_23 rfl ?_
      refine r_iload_n dL_isBox_25 rfl ?_
      refine r_icmp_ge 168 dL_isBox_26 (by decide) (fun c26 => ?_) (fun c26 => ?_)
      ·
        replace c26 := Int32.not_lt.mpr c26
        have n26 := Nat.not_lt.mp (fun q => c26 ((nI_ltI (a := i) (b := vN (qC S)) (by omega) (by omega)).mpr q))
        have ei : i = vN (qC S) := by omega
        subst ei
        refine r_aload_n dL_isBox_168 rfl ?_
        refine r_bipush 6 dL_isBox_169 (by decide) ?_
        refine r_iload dL_isBox_171 rfl ?_
        refine r_imul dL_isBox_173 ?_
        refine ldM369 (6 * k) (ix6 k) (by omega) dL_isBox_174 ?_
        rw [hs.2.1, en0 he (by omega)]
        rw [ea0]
        refine r_istore dL_isBox_175 (by decide) rfl ?_
        have L2 : ∀ (N : Nat) (x : Nat) (sh : Int32) (v11 v12 v13 : Option Value), x ≤ b0 - a0 → sh = shT (qC S) k a0 a1 (b1 - a1) x → b0 - a0 < x + N → AtW mL_isBox Γ Ω τ 177 [some (.ref (ad Ω 368)), some (.ref (ad Ω 369)), some (.ref (ad Ω 370)), some (.int (nI (vN (qC S)))), some (.int (nI k)), some (.int (vNu (qC S) k)), some (.int (a)), some (.int (b)), some (.int (c)), some (.int (sh)), some (.int (nI (a0 + x))), v11, v12, v13] [] := by
          intro N
          induction N with
          | zero =>
            intro x sh v11 v12 v13 hx hsh hN
            exact absurd hN (by omega)
          | succ N ih =>
            intro x sh v11 v12 v13 hx hsh hN
            have ihX := ih
            refine r_iload dL_isBox_177 rfl ?_
            refine r_aload_n dL_isBox_179 rfl ?_
            refine r_bipush 6 dL_isBox_180 (by decide) ?_
            refine r_iload dL_isBox_182 rfl ?_
            refine r_imul dL_isBox_184 ?_
            refine r_iconst 3 dL_isBox_185 (by decide) ?_
            refine r_iadd dL_isBox_186 ?_
            refine ldM369 (6 * k + 3) (ix6c k 3) (by omega) dL_isBox_187 ?_
            rw [hs.2.1, en3 he (by omega)]
            rw [eb0]
            refine r_icmp_ge 355 dL_isBox_188 (by decide) (fun c188 => ?_) (fun c188 => ?_)
            ·
              replace c188 := Int32.not_lt.mpr c188
              have n188 := Nat.not_lt.mp (fun q => c188 ((nI_ltI (a := a0 + x) (b := b0) (by omega) (by omega)).mpr q))
              have ex : x = b0 - a0 := by omega
              have hsh2 := sh_tot hg (by omega) hk ea0 eb0 ea1 eb1 (by omega) (by omega) (by omega) (by omega) hsh ex
              refine r_aload_n dL_isBox_355 rfl ?_
              refine r_iload_n dL_isBox_356 rfl ?_
              refine r_iload dL_isBox_357 rfl ?_
              refine r_callSI hL (ctL_ring l Ω _ G (qC S) hs.2.2 hG hn k (by omega)) kL_isBox_50 rfl rfl (Nat.le_of_ble_eq_true rfl) dL_isBox_359 ?_
              refine r_istore dL_isBox_362 (by decide) rfl ?_
              refine r_aload_n dL_isBox_364 rfl ?_
              refine r_iload dL_isBox_365 rfl ?_
              refine r_iconst 0 dL_isBox_367 (by decide) ?_
              refine r_callVJ (368) hL (ctX5_ofBox l Ω _ S hs.1 (gd_hY hg) _ _) kL_isBox_53 (by omega) ⟨_, _, _, rfl, rfl, rfl⟩ rfl rfl (Nat.le_of_ble_eq_true rfl) dL_isBox_368 ?_
              intro x368 σ368 hσ368
              obtain ⟨e368, hs⟩ := lw_q hs hσ368 rfl
              replace e368 := e368.trans ((of_at hg.1 hk).trans (ofA_0 _ _))
              subst e368
              refine r_aload_n dL_isBox_371 rfl ?_
              refine r_iload dL_isBox_372 rfl ?_
              refine r_callSI hL (ctL_volume l Ω _ E (qC S) hs.2.1 he hn k (by omega)) kL_isBox_32 rfl rfl (Nat.le_of_ble_eq_true rfl) dL_isBox_374 ?_
              refine r_icmp_ne 506 dL_isBox_377 (by decide) (fun c377 => absurd c377 (fun q => q rfl)) (fun c377 => ?_)
              refine r_aload_n dL_isBox_380 rfl ?_
              refine r_iload dL_isBox_381 rfl ?_
              refine r_iconst 1 dL_isBox_383 (by decide) ?_
              refine r_callVJ (368) hL (ctX5_ofBox l Ω _ S hs.1 (gd_hY hg) _ _) kL_isBox_53 (by omega) ⟨_, _, _, rfl, rfl, rfl⟩ rfl rfl (Nat.le_of_ble_eq_true rfl) dL_isBox_384 ?_
              intro x384 σ384 hσ384
              obtain ⟨e384, hs⟩ := lw_q hs hσ384 rfl
              replace e384 := e384.trans ((of_at hg.1 hk).trans (ofA_1 _ _))
              subst e384
              refine r_aload_n dL_isBox_387 rfl ?_
              refine r_iload dL_isBox_388 rfl ?_
              refine ldM370 k rfl (by omega) dL_isBox_390 ?_
              rw [hs.2.2, hG k (by omega)]
              refine r_callSI hL (ctL_ones l Ω _ _ (hv_10 hn k)) kL_isBox_56 rfl rfl (Nat.le_of_ble_eq_true rfl) dL_isBox_391 ?_
              refine r_icmp_ne 506 dL_isBox_394 (by decide) (fun c394 => absurd c394 (fun q => q rfl)) (fun c394 => ?_)
              refine r_aload_n dL_isBox_397 rfl ?_
              refine r_iload dL_isBox_398 rfl ?_
              refine r_iconst 2 dL_isBox_400 (by decide) ?_
              refine r_callVJ (368) hL (ctX5_ofBox l Ω _ S hs.1 (gd_hY hg) _ _) kL_isBox_53 (by omega) ⟨_, _, _, rfl, rfl, rfl⟩ rfl rfl (Nat.le_of_ble_eq_true rfl) dL_isBox_401 ?_
              intro x401 σ401 hσ401
              obtain ⟨e401, hs⟩ := lw_q hs hσ401 rfl
              replace e401 := e401.trans ((of_at hg.1 hk).trans (ofA_2 _ _))
              subst e401
              refine r_iload dL_isBox_404 rfl ?_
              refine r_icmp_ne 506 dL_isBox_406 (by decide) (fun c406 => absurd c406 (fun q => q ha.symm)) (fun c406 => ?_)
              refine r_aload_n dL_isBox_409 rfl ?_
              refine r_iload dL_isBox_410 rfl ?_
              refine r_iconst 4 dL_isBox_412 (by decide) ?_
              refine r_callVJ (368) hL (ctX5_ofBox l Ω _ S hs.1 (gd_hY hg) _ _) kL_isBox_53 (by omega) ⟨_, _, _, rfl, rfl, rfl⟩ rfl rfl (Nat.le_of_ble_eq_true rfl) dL_isBox_413 ?_
              intro x413 σ413 hσ413
              obtain ⟨e413, hs⟩ := lw_q hs hσ413 rfl
              replace e413 := e413.trans ((of_at hg.1 hk).trans (ofA_4 _ _))
              subst e413
              have J3 : AtW mL_isBox Γ Ω σ413 431 [some (.ref (ad Ω 368)), some (.ref (ad Ω 369)), some (.ref (ad Ω 370)), some (.int (nI (vN (qC S)))), some (.int (nI k)), some (.int (vNu (qC S) k)), some (.int (a)), some (.int (b)), some (.int (c)), some (.int (sh)), some (.int (rgA (qC S) k)), v11, v12, v13] [] := by
                refine r_aload_n dL_isBox_431 rfl ?_
                refine r_iload dL_isBox_432 rfl ?_
                refine r_iconst 5 dL_isBox_434 (by decide) ?_
                refine r_callVJ (368) hL (ctX5_ofBox l Ω _ S hs.1 (gd_hY hg) _ _) kL_isBox_53 (by omega) ⟨_, _, _, rfl, rfl, rfl⟩ rfl rfl (Nat.le_of_ble_eq_true rfl) dL_isBox_435 ?_
                intro x435 σ435 hσ435
                obtain ⟨e435, hs⟩ := lw_q hs hσ435 rfl
                replace e435 := e435.trans ((of_at hg.1 hk).trans (ofA_5 _ _))
                subst e435
                refine r_iload dL_isBox_438 rfl ?_
                refine r_icmp_ne 506 dL_isBox_440 (by decide) (fun c440 => absurd c440 (fun q => q hc.symm)) (fun c440 => ?_)
                refine r_aload_n dL_isBox_443 rfl ?_
                refine r_iload dL_isBox_444 rfl ?_
                refine r_bipush 6 dL_isBox_446 (by decide) ?_
                refine r_callVJ (368) hL (ctX5_ofBox l Ω _ S hs.1 (gd_hY hg) _ _) kL_isBox_53 (by omega) ⟨_, _, _, rfl, rfl, rfl⟩ rfl rfl (Nat.le_of_ble_eq_true rfl) dL_isBox_448 ?_
                intro x448 σ448 hσ448
                obtain ⟨e448, hs⟩ := lw_q hs hσ448 rfl
                replace e448 := e448.trans ((of_at hg.1 hk).trans (ofA_6 _ _))
                subst e448
                refine r_iload dL_isBox_451 rfl ?_
                refine r_icmp_ne 506 dL_isBox_453 (by decide) (fun c453 => absurd c453 (fun q => q hb.symm)) (fun c453 => ?_)
                refine r_aload_n dL_isBox_456 rfl ?_
                refine r_iload dL_isBox_457 rfl ?_
                refine r_bipush 7 dL_isBox_459 (by decide) ?_
                refine r_callVJ (368) hL (ctX5_ofBox l Ω _ S hs.1 (gd_hY hg) _ _) kL_isBox_53 (by omega) ⟨_, _, _, rfl, rfl, rfl⟩ rfl rfl (Nat.le_of_ble_eq_true rfl) dL_isBox_461 ?_
                intro x461 σ461 hσ461
                obtain ⟨e461, hs⟩ := lw_q hs hσ461 rfl
                replace e461 := e461.trans ((of_at hg.1 hk).trans (ofA_7 _ _))
                subst e461
                refine r_iload dL_isBox_464 rfl ?_
                refine r_icmp_ne 506 dL_isBox_466 (by decide) (fun c466 => absurd c466 (fun q => q hsh2)) (fun c466 => ?_)
                refine r_aload_n dL_isBox_469 rfl ?_
                refine r_iload dL_isBox_470 rfl ?_
                refine r_bipush 8 dL_isBox_472 (by decide) ?_
                refine r_callVJ (368) hL (ctX5_ofBox l Ω _ S hs.1 (gd_hY hg) _ _) kL_isBox_53 (by omega) ⟨_, _, _, rfl, rfl, rfl⟩ rfl rfl (Nat.le_of_ble_eq_true rfl) dL_isBox_474 ?_
                intro x474 σ474 hσ474
                obtain ⟨e474, hs⟩ := lw_q hs hσ474 rfl
                replace e474 := e474.trans ((of_at hg.1 hk).trans (ofA_8 _ _))
                subst e474
                refine r_aload_n dL_isBox_477 rfl ?_
                refine r_bipush 6 dL_isBox_478 (by decide) ?_
                refine r_iload dL_isBox_480 rfl ?_
                refine r_imul dL_isBox_482 ?_
                refine r_iconst 2 dL_isBox_483 (by decide) ?_
                refine r_iadd dL_isBox_484 ?_
                refine ldM369 (6 * k + 2) (ix6c k 2) (by omega) dL_isBox_485 ?_
                rw [hs.2.1, en2 he (by omega)]
                refine r_if_eq 494 dL_isBox_486 (by decide) (fun c486 => ?_) (fun c486 => ?_)
                ·
                  refine r_iconst 1 dL_isBox_494 (by decide) ?_
                  refine r_goto 499 dL_isBox_495 (by decide) ?_
                  refine r_icmp_ne 506 dL_isBox_499 (by decide) (fun c499 => absurd c499 (fun q => q (if_pos c486))) (fun c499 => ?_)
                  refine r_iconst 1 dL_isBox_502 (by decide) ?_
                  refine r_goto 507 dL_isBox_503 (by decide) ?_
                  exact r_zret hQ rfl ((by decide)) dL_isBox_507 (reJ_of ⟨rfl, hs⟩)
                ·
                  refine r_iload dL_isBox_489 rfl ?_
                  refine r_if_le 498 dL_isBox_491 (by decide) (fun c491 => ?_) (fun c491 => ?_)
                  ·
                    replace c491 := Int32.not_lt.mpr c491
                    refine r_iconst 0 dL_isBox_498 (by decide) ?_
                    refine r_icmp_ne 506 dL_isBox_499 (by decide) (fun c499 => absurd c499 (fun q => q (by rw [if_neg c486, if_neg (by rw [show supV (qC S) k = c from hc.symm]; exact c491)]))) (fun c499 => ?_)
                    refine r_iconst 1 dL_isBox_502 (by decide) ?_
                    refine r_goto 507 dL_isBox_503 (by decide) ?_
                    exact r_zret hQ rfl ((by decide)) dL_isBox_507 (reJ_of ⟨rfl, hs⟩)
                  ·
                    replace c491 := Int32.not_le.mp c491
                    refine r_iconst 1 dL_isBox_494 (by decide) ?_
                    refine r_goto 499 dL_isBox_495 (by decide) ?_
                    refine r_icmp_ne 506 dL_isBox_499 (by decide) (fun c499 => absurd c499 (fun q => q (by rw [if_neg c486, if_pos (by rw [show supV (qC S) k = c from hc.symm]; exact c491)]))) (fun c499 => ?_)
                    refine r_iconst 1 dL_isBox_502 (by decide) ?_
                    refine r_goto 507 dL_isBox_503 (by decide) ?_
                    exact r_zret hQ rfl ((by decide)) dL_isBox_507 (reJ_of ⟨rfl, hs⟩)
              refine r_iload dL_isBox_416 rfl ?_
              refine r_if_ge 426 dL_isBox_418 (by decide) (fun c418 => ?_) (fun c418 => ?_)
              ·
                replace c418 := Int32.not_lt.mpr c418
                refine r_iload dL_isBox_426 rfl ?_
                refine r_icmp_ne 506 dL_isBox_428 (by decide) (fun c428 => absurd c428 (fun q => q (by rw [rg_sr (by omega) hk, if_neg c418]))) (fun c428 => ?_)
                exact J3
              ·
                replace c418 := Int32.not_le.mp c418
                refine r_bipush (-5) dL_isBox_421 (by decide) ?_
                refine r_goto 428 dL_isBox_423 (by decide) ?_
                refine r_icmp_ne 506 dL_isBox_428 (by decide) (fun c428 => absurd c428 (fun q => q (by rw [rg_sr (by omega) hk, if_pos c418]))) (fun c428 => ?_)
                exact J3
            ·
              replace c188 := Int32.not_le.mp c188
              have n188 := (nI_ltI (a := a0 + x) (b := b0) (by omega) (by omega)).mp c188
              refine r_aload_n dL_isBox_191 rfl ?_
              refine r_bipush 6 dL_isBox_192 (by decide) ?_
              refine r_iload dL_isBox_194 rfl ?_
              refine r_imul dL_isBox_196 ?_
              refine r_iconst 1 dL_isBox_197 (by decide) ?_
              refine r_iadd dL_isBox_198 ?_
              refine ldM369 (6 * k + 1) (ix6c k 1) (by omega) dL_isBox_199 ?_
              rw [hs.2.1, en1 he (by omega)]
              rw [ea1]
              refine r_istore dL_isBox_200 (by decide) rfl ?_
              have L3 : ∀ (N : Nat) (m : Nat) (z : Int32) (v12 v13 : Option Value), m ≤ b1 - a1 → z = shT (qC S) k a0 a1 (b1 - a1) x + shY (qC S) k a1 (a0 + x) m → b1 - a1 < m + N → AtW mL_isBox Γ Ω τ 202 [some (.ref (ad Ω 368)), some (.ref (ad Ω 369)), some (.ref (ad Ω 370)), some (.int (nI (vN (qC S)))), some (.int (nI k)), some (.int (vNu (qC S) k)), some (.int (a)), some (.int (b)), some (.int (c)), some (.int (z)), some (.int (nI (a0 + x))), some (.int (nI (a1 + m))), v12, v13] [] := by
                intro N
                induction N with
                | zero =>
                  intro m z v12 v13 hm hz hN
                  exact absurd hN (by omega)
                | succ N ih =>
                  intro m z v12 v13 hm hz hN
                  have ihY := ih
                  refine r_iload dL_isBox_202 rfl ?_
                  refine r_aload_n dL_isBox_204 rfl ?_
                  refine r_bipush 6 dL_isBox_205 (by decide) ?_
                  refine r_iload dL_isBox_207 rfl ?_
                  refine r_imul dL_isBox_209 ?_
                  refine r_iconst 4 dL_isBox_210 (by decide) ?_
                  refine r_iadd dL_isBox_211 ?_
                  refine ldM369 (6 * k + 4) (ix6c k 4) (by omega) dL_isBox_212 ?_
                  rw [hs.2.1, en4 he (by omega)]
                  rw [eb1]
                  refine r_icmp_ge 349 dL_isBox_213 (by decide) (fun c213 => ?_) (fun c213 => ?_)
                  ·
                    replace c213 := Int32.not_lt.mpr c213
                    have n213 := Nat.not_lt.mp (fun q => c213 ((nI_ltI (a := a1 + m) (b := b1) (by omega) (by omega)).mpr q))
                    have em : m = b1 - a1 := by omega
                    refine r_iinc (nI (a0 + x + 1)) dL_isBox_349 rfl (nI_1 (a0 + x)) (by decide) rfl ?_
                    refine r_goto 177 dL_isBox_352 (by decide) ?_
                    exact ihX (x + 1) _ _ _ _ (by omega) (by rw [hz, em]; rfl) (by omega)
                  ·
                    replace c213 := Int32.not_le.mp c213
                    have n213 := (nI_ltI (a := a1 + m) (b := b1) (by omega) (by omega)).mp c213
                    refine r_iconst 0 dL_isBox_216 (by decide) ?_
                    refine r_istore dL_isBox_217 (by decide) rfl ?_
                    refine r_iconst 0 dL_isBox_219 (by decide) ?_
                    refine r_istore dL_isBox_220 (by decide) rfl ?_
                    have L4 : ∀ (N : Nat) (u : Nat) (t : Bool), u ≤ vN (qC S) → t = anyb (shC (qC S) k (nI (a0 + x)) (nI (a1 + m))) u → vN (qC S) < u + N → AtW mL_isBox Γ Ω τ 222 [some (.ref (ad Ω 368)), some (.ref (ad Ω 369)), some (.ref (ad Ω 370)), some (.int (nI (vN (qC S)))), some (.int (nI k)), some (.int (vNu (qC S) k)), some (.int (a)), some (.int (b)), some (.int (c)), some (.int (z)), some (.int (nI (a0 + x))), some (.int (nI (a1 + m))), some (.int (bI t)), some (.int (nI u))] [] := by
                      intro N
                      induction N with
                      | zero =>
                        intro u t hu ht hN
                        exact absurd hN (by omega)
                      | succ N ih =>
                        intro u t hu ht hN
                        refine r_iload dL_isBox_222 rfl ?_
                        refine r_iload_n dL_isBox_224 rfl ?_
                        refine r_icmp_ge 328 dL_isBox_225 (by decide) (fun c225 => ?_) (fun c225 => ?_)
                        ·
                          replace c225 := Int32.not_lt.mpr c225
                          have n225 := Nat.not_lt.mp (fun q => c225 ((nI_ltI (a := u) (b := vN (qC S)) (by omega) (by omega)).mpr q))
                          have eu : u = vN (qC S) := by omega
                          subst eu
                          have hany : t = shF (qC S) k (a0 + x) (a1 + m) := ht.trans (sh_any hg hk ea0 eb0 ea1 eb1 ⟨by omega, by omega⟩ ⟨by omega, by omega⟩ hb0 hb1)
                          refine r_iload dL_isBox_328 rfl ?_
                          refine r_iload dL_isBox_330 rfl ?_
                          refine r_if_eq 339 dL_isBox_332 (by decide) (fun c332 => ?_) (fun c332 => ?_)
                          ·
                            replace c332 := bI_f c332
                            refine r_iconst 0 dL_isBox_339 (by decide) ?_
                            refine r_iadd dL_isBox_340 ?_
                            refine r_istore dL_isBox_341 (by decide) rfl ?_
                            refine r_iinc (nI (a1 + m + 1)) dL_isBox_343 rfl (nI_1 (a1 + m)) (by decide) rfl ?_
                            refine r_goto 202 dL_isBox_346 (by decide) ?_
                            exact ihY (m + 1) _ _ _ (by omega) (shY_s (t := false) hz (by rw [← hany, c332])) (by omega)
                          ·
                            replace c332 := bI_t c332
                            refine r_iconst 1 dL_isBox_335 (by decide) ?_
                            refine r_goto 340 dL_isBox_336 (by decide) ?_
                            refine r_iadd dL_isBox_340 ?_
                            refine r_istore dL_isBox_341 (by decide) rfl ?_
                            refine r_iinc (nI (a1 + m + 1)) dL_isBox_343 rfl (nI_1 (a1 + m)) (by decide) rfl ?_
                            refine r_goto 202 dL_isBox_346 (by decide) ?_
                            exact ihY (m + 1) _ _ _ (by omega) (shY_s (t := true) hz (by rw [← hany, c332])) (by omega)
                        ·
                          replace c225 := Int32.not_le.mp c225
                          have n225 := (nI_ltI (a := u) (b := vN (qC S)) (by omega) (by omega)).mp c225
                          refine r_iload dL_isBox_228 rfl ?_
                          refine r_if_ne 315 dL_isBox_230 (by decide) (fun c230 => ?_) (fun c230 => ?_)
                          ·
                            replace c230 := bI_t c230
                            refine r_iconst 1 dL_isBox_315 (by decide) ?_
                            refine r_goto 320 dL_isBox_316 (by decide) ?_
                            refine r_istore dL_isBox_320 (by decide) rfl ?_
                            refine r_iinc (nI (u + 1)) dL_isBox_322 rfl (nI_1 u) (by decide) rfl ?_
                            refine r_goto 222 dL_isBox_325 (by decide) ?_
                            exact ih (u + 1) true (by omega) (by rw [anyb, ← ht, c230]; rfl) (by omega)
                          ·
                            replace c230 := bI_f c230
                            refine r_iload dL_isBox_233 rfl ?_
                            refine r_iload dL_isBox_235 rfl ?_
                            refine r_icmp_eq 319 dL_isBox_237 (by decide) (fun c237 => ?_) (fun c237 => ?_)
                            ·
                              have n237 := (nI_eq (a := u) (b := k) (by omega) (by omega)).mp c237
                              refine r_iconst 0 dL_isBox_319 (by decide) ?_
                              refine r_istore dL_isBox_320 (by decide) rfl ?_
                              refine r_iinc (nI (u + 1)) dL_isBox_322 rfl (nI_1 u) (by decide) rfl ?_
                              refine r_goto 222 dL_isBox_325 (by decide) ?_
                              exact ih (u + 1) false (by omega) (by rw [anyb, ← ht, c230]; simp [shC, n237]) (by omega)
                            ·
                              have n237 : ¬ u = k := fun q => c237 ((nI_eq (a := u) (b := k) (by omega) (by omega)).mpr q)
                              refine r_aload_n dL_isBox_240 rfl ?_
                              refine r_bipush 6 dL_isBox_241 (by decide) ?_
                              refine r_iload dL_isBox_243 rfl ?_
                              refine r_imul dL_isBox_245 ?_
                              refine r_iconst 2 dL_isBox_246 (by decide) ?_
                              refine r_iadd dL_isBox_247 ?_
                              refine ldM369 (6 * u + 2) (ix6c u 2) (by omega) dL_isBox_248 ?_
                              rw [hs.2.1, en2 he (by omega)]
                              refine r_aload_n dL_isBox_249 rfl ?_
                              refine r_bipush 6 dL_isBox_250 (by decide) ?_
                              refine r_iload dL_isBox_252 rfl ?_
                              refine r_imul dL_isBox_254 ?_
                              refine r_iconst 5 dL_isBox_255 (by decide) ?_
                              refine r_iadd dL_isBox_256 ?_
                              refine ldM369 (6 * k + 5) (ix6c k 5) (by omega) dL_isBox_257 ?_
                              rw [hs.2.1, en5 he (by omega)]
                              refine r_icmp_lt 319 dL_isBox_258 (by decide) (fun c258 => ?_) (fun c258 => ?_)
                              ·
                                refine r_iconst 0 dL_isBox_319 (by decide) ?_
                                refine r_istore dL_isBox_320 (by decide) rfl ?_
                                refine r_iinc (nI (u + 1)) dL_isBox_322 rfl (nI_1 u) (by decide) rfl ?_
                                refine r_goto 222 dL_isBox_325 (by decide) ?_
                                exact ih (u + 1) false (by omega) (by rw [anyb, ← ht, c230]; simp [shC, n237, c258]) (by omega)
                              ·
                                refine r_aload_n dL_isBox_261 rfl ?_
                                refine r_bipush 6 dL_isBox_262 (by decide) ?_
                                refine r_iload dL_isBox_264 rfl ?_
                                refine r_imul dL_isBox_266 ?_
                                refine ldM369 (6 * u) (ix6 u) (by omega) dL_isBox_267 ?_
                                rw [hs.2.1, en0 he (by omega)]
                                refine r_iload dL_isBox_268 rfl ?_
                                refine r_icmp_gt 319 dL_isBox_270 (by decide) (fun c270 => ?_) (fun c270 => ?_)
                                ·
                                  refine r_iconst 0 dL_isBox_319 (by decide) ?_
                                  refine r_istore dL_isBox_320 (by decide) rfl ?_
                                  refine r_iinc (nI (u + 1)) dL_isBox_322 rfl (nI_1 u) (by decide) rfl ?_
                                  refine r_goto 222 dL_isBox_325 (by decide) ?_
                                  exact ih (u + 1) false (by omega) (by rw [anyb, ← ht, c230]; simp [shC, n237, c258, c270]) (by omega)
                                ·
                                  refine r_iload dL_isBox_273 rfl ?_
                                  refine r_aload_n dL_isBox_275 rfl ?_
                                  refine r_bipush 6 dL_isBox_276 (by decide) ?_
                                  refine r_iload dL_isBox_278 rfl ?_
                                  refine r_imul dL_isBox_280 ?_
                                  refine r_iconst 3 dL_isBox_281 (by decide) ?_
                                  refine r_iadd dL_isBox_282 ?_
                                  refine ldM369 (6 * u + 3) (ix6c u 3) (by omega) dL_isBox_283 ?_
                                  rw [hs.2.1, en3 he (by omega)]
                                  refine r_icmp_ge 319 dL_isBox_284 (by decide) (fun c284 => ?_) (fun c284 => ?_)
                                  ·
                                    replace c284 := Int32.not_lt.mpr c284
                                    refine r_iconst 0 dL_isBox_319 (by decide) ?_
                                    refine r_istore dL_isBox_320 (by decide) rfl ?_
                                    refine r_iinc (nI (u + 1)) dL_isBox_322 rfl (nI_1 u) (by decide) rfl ?_
                                    refine r_goto 222 dL_isBox_325 (by decide) ?_
                                    exact ih (u + 1) false (by omega) (by rw [anyb, ← ht, c230]; simp [shC, n237, c258, c270, c284]) (by omega)
                                  ·
                                    replace c284 := Int32.not_le.mp c284
                                    refine r_aload_n dL_isBox_287 rfl ?_
                                    refine r_bipush 6 dL_isBox_288 (by decide) ?_
                                    refine r_iload dL_isBox_290 rfl ?_
                                    refine r_imul dL_isBox_292 ?_
                                    refine r_iconst 1 dL_isBox_293 (by decide) ?_
                                    refine r_iadd dL_isBox_294 ?_
                                    refine ldM369 (6 * u + 1) (ix6c u 1) (by omega) dL_isBox_295 ?_
                                    rw [hs.2.1, en1 he (by omega)]
                                    refine r_iload dL_isBox_296 rfl ?_
                                    refine r_icmp_gt 319 dL_isBox_298 (by decide) (fun c298 => ?_) (fun c298 => ?_)
                                    ·
                                      refine r_iconst 0 dL_isBox_319 (by decide) ?_
                                      refine r_istore dL_isBox_320 (by decide) rfl ?_
                                      refine r_iinc (nI (u + 1)) dL_isBox_322 rfl (nI_1 u) (by decide) rfl ?_
                                      refine r_goto 222 dL_isBox_325 (by decide) ?_
                                      exact ih (u + 1) false (by omega) (by rw [anyb, ← ht, c230]; simp [shC, n237, c258, c270, c284, c298]) (by omega)
                                    ·
                                      refine r_iload dL_isBox_301 rfl ?_
                                      refine r_aload_n dL_isBox_303 rfl ?_
                                      refine r_bipush 6 dL_isBox_304 (by decide) ?_
                                      refine r_iload dL_isBox_306 rfl ?_
                                      refine r_imul dL_isBox_308 ?_
                                      refine r_iconst 4 dL_isBox_309 (by decide) ?_
                                      refine r_iadd dL_isBox_310 ?_
                                      refine ldM369 (6 * u + 4) (ix6c u 4) (by omega) dL_isBox_311 ?_
                                      rw [hs.2.1, en4 he (by omega)]
                                      refine r_icmp_ge 319 dL_isBox_312 (by decide) (fun c312 => ?_) (fun c312 => ?_)
                                      ·
                                        replace c312 := Int32.not_lt.mpr c312
                                        refine r_iconst 0 dL_isBox_319 (by decide) ?_
                                        refine r_istore dL_isBox_320 (by decide) rfl ?_
                                        refine r_iinc (nI (u + 1)) dL_isBox_322 rfl (nI_1 u) (by decide) rfl ?_
                                        refine r_goto 222 dL_isBox_325 (by decide) ?_
                                        exact ih (u + 1) false (by omega) (by rw [anyb, ← ht, c230]; simp [shC, n237, c258, c270, c284, c298, c312]) (by omega)
                                      ·
                                        replace c312 := Int32.not_le.mp c312
                                        refine r_iconst 1 dL_isBox_315 (by decide) ?_
                                        refine r_goto 320 dL_isBox_316 (by decide) ?_
                                        refine r_istore dL_isBox_320 (by decide) rfl ?_
                                        refine r_iinc (nI (u + 1)) dL_isBox_322 rfl (nI_1 u) (by decide) rfl ?_
                                        refine r_goto 222 dL_isBox_325 (by decide) ?_
                                        exact ih (u + 1) true (by omega) (by rw [anyb, ← ht, c230]; simp [shC, n237, c258, c270, c284, c298, c312]) (by omega)
                    exact L4 (vN (qC S) + 1) 0 false (by omega) rfl (by omega)
              exact L3 (b1 - a1 + 1) 0 _ _ _ (by omega) (by rw [hsh]; exact (Int32.add_zero _).symm) (by omega)
        exact L2 (b0 - a0 + 1) 0 0 _ _ _ (by omega) rfl (by omega)
      ·
        replace c26 := Int32.not_le.mp c26
        have n26 := (nI_ltI (a := i) (b := vN (qC S)) (by omega) (by omega)).mp c26
        have J1 : ∀ (a2 b2 : Int32) (ha2 : a2 = cntI (fun j => hasB (HV (qC S) j) k) (i + 1)) (hb2 : b2 = cntI (fun j => beB (vLo (qC S) j) (vHi (qC S) j) (vLo (qC S) k) (vHi (qC S) k)) (i + 1)), AtW mL_isBox Γ Ω τ 64 [some (.ref (ad Ω 368)), some (.ref (ad Ω 369)), some (.ref (ad Ω 370)), some (.int (nI (vN (qC S)))), some (.int (nI k)), some (.int (vNu (qC S) k)), some (.int (a2)), some (.int (b2)), some (.int (c)), some (.int (0)), some (.int (nI i)), v11, v12, v13] [] := by
          intro a2 b2 ha2 hb2
          refine r_iload dL_isBox_64 rfl ?_
          have J2 : ∀ (c2 : Int32) (hc2 : c2 = cntI (fun j => beB (vLo (qC S) j) (vHi (qC S) j) (vLo (qC S) k) (vHi (qC S) k) && decide (vHi (qC S) j 2 = vLo (qC S) k 2)) (i + 1)), AtW mL_isBox Γ Ω τ 106 [some (.ref (ad Ω 368)), some (.ref (ad Ω 369)), some (.ref (ad Ω 370)), some (.int (nI (vN (qC S)))), some (.int (nI k)), some (.int (vNu (qC S) k)), some (.int (a2)), some (.int (b2)), some (.int (c2)), some (.int (0)), some (.int (nI i)), v11, v12, v13] [] := by
            intro c2 hc2
            refine r_iload dL_isBox_106 rfl ?_
            refine r_iload dL_isBox_108 rfl ?_
            refine r_icmp_eq 162 dL_isBox_110 (by decide) (fun c110 => ?_) (fun c110 => ?_)
            ·
              have n110 := (nI_eq (a := i) (b := k) (by omega) (by omega)).mp c110
              refine r_iinc (nI (i + 1)) dL_isBox_162 rfl (nI_1 i) (by decide) rfl ?_
              refine r_goto 23 dL_isBox_165 (by decide) ?_
              exact ih (i + 1) _ _ _ _ _ _ _ (by omega) hs ha2 hb2 hc2 (by omega)
            ·
              have n110 : ¬ i = k := fun q => c110 ((nI_eq (a := i) (b := k) (by omega) (by omega)).mpr q)
              refine r_aload_n dL_isBox_113 rfl ?_
              refine r_iload dL_isBox_114 rfl ?_
              refine r_aload_n dL_isBox_116 rfl ?_
              refine r_iload dL_isBox_117 rfl ?_
              refine r_callVJ (368) hL (ctX5_box l Ω _ S hs.1 _) kL_isBox_15 (by omega) ⟨_, _, _, rfl, rfl, rfl⟩ rfl rfl (Nat.le_of_ble_eq_true rfl) dL_isBox_119 ?_
              intro x119 σ119 hσ119
              obtain ⟨e119, hs⟩ := lw_q hs hσ119 rfl
              replace e119 := e119.trans (box_at (by omega) (show i < _ by omega))
              subst e119
              refine r_callVJ (368) hL (ctX5_pair l Ω _ S hs.1 _ _) kL_isBox_42 (by omega) ⟨_, _, _, rfl, rfl, rfl⟩ rfl rfl (Nat.le_of_ble_eq_true rfl) dL_isBox_122 ?_
              intro x122 σ122 hσ122
              obtain ⟨e122, hs⟩ := lw_q hs hσ122 rfl
              replace e122 := e122.trans (pair_at (a := k) (b := i) hg hk (by omega) (fun q => n110 q.symm))
              subst e122
              refine r_aload_n dL_isBox_125 rfl ?_
              refine r_iload dL_isBox_126 rfl ?_
              refine r_iload dL_isBox_128 rfl ?_
              refine r_callSI hL (ctL_by l Ω _ E (qC S) hs.2.1 he hn i k (by omega) (by omega)) kL_isBox_46 rfl rfl (Nat.le_of_ble_eq_true rfl) dL_isBox_130 ?_
              refine r_if_le 149 dL_isBox_133 (by decide) (fun c133 => ?_) (fun c133 => ?_)
              ·
                replace c133 := Int32.not_lt.mpr c133
                refine r_aload_n dL_isBox_149 rfl ?_
                refine r_iload dL_isBox_150 rfl ?_
                refine r_iload dL_isBox_152 rfl ?_
                refine r_callSI hL (ctL_by l Ω _ E (qC S) hs.2.1 he hn k i (by omega) (by omega)) kL_isBox_46 rfl rfl (Nat.le_of_ble_eq_true rfl) dL_isBox_154 ?_
                refine r_icmp_eq 162 dL_isBox_157 (by decide) (fun c157 => ?_) (fun c157 => absurd c157 (fun q => q (if_neg c133)))
                refine r_iinc (nI (i + 1)) dL_isBox_162 rfl (nI_1 i) (by decide) rfl ?_
                refine r_goto 23 dL_isBox_165 (by decide) ?_
                exact ih (i + 1) _ _ _ _ _ _ _ (by omega) hs ha2 hb2 hc2 (by omega)
              ·
                replace c133 := Int32.not_le.mp c133
                refine r_iconst 3 dL_isBox_136 (by decide) ?_
                refine r_aload_n dL_isBox_137 rfl ?_
                refine r_iload dL_isBox_138 rfl ?_
                refine r_iload dL_isBox_140 rfl ?_
                refine r_callSI hL (ctL_by l Ω _ E (qC S) hs.2.1 he hn i k (by omega) (by omega)) kL_isBox_46 rfl rfl (Nat.le_of_ble_eq_true rfl) dL_isBox_142 ?_
                refine r_iadd dL_isBox_145 ?_
                refine r_goto 157 dL_isBox_146 (by decide) ?_
                refine r_icmp_eq 162 dL_isBox_157 (by decide) (fun c157 => ?_) (fun c157 => absurd c157 (fun q => q (if_pos c133)))
                refine r_iinc (nI (i + 1)) dL_isBox_162 rfl (nI_1 i) (by decide) rfl ?_
                refine r_goto 23 dL_isBox_165 (by decide) ?_
                exact ih (i + 1) _ _ _ _ _ _ _ (by omega) hs ha2 hb2 hc2 (by omega)
          refine r_aload_n dL_isBox_66 rfl ?_
          refine r_iload dL_isBox_67 rfl ?_
          refine r_iload dL_isBox_69 rfl ?_
          refine r_callSI hL (ctL_isBelow l Ω _ E (qC S) hs.2.1 he hn (gd_lt hg) i k (by omega) (by omega)) kL_isBox_39 rfl rfl (Nat.le_of_ble_eq_true rfl) dL_isBox_71 ?_
          refine r_if_eq 102 dL_isBox_74 (by decide) (fun c74 => ?_) (fun c74 => ?_)
          ·
            replace c74 := bI_f c74
            refine r_iconst 0 dL_isBox_102 (by decide) ?_
            refine r_iadd dL_isBox_103 ?_
            refine r_istore dL_isBox_104 (by decide) rfl ?_
            exact J2 _ (cn_n hc (by simp [c74]))
          ·
            replace c74 := bI_t c74
            refine r_aload_n dL_isBox_77 rfl ?_
            refine r_bipush 6 dL_isBox_78 (by decide) ?_
            refine r_iload dL_isBox_80 rfl ?_
            refine r_imul dL_isBox_82 ?_
            refine r_iconst 5 dL_isBox_83 (by decide) ?_
            refine r_iadd dL_isBox_84 ?_
            refine ldM369 (6 * i + 5) (ix6c i 5) (by omega) dL_isBox_85 ?_
            rw [hs.2.1, en5 he (by omega)]
            refine r_aload_n dL_isBox_86 rfl ?_
            refine r_bipush 6 dL_isBox_87 (by decide) ?_
            refine r_iload dL_isBox_89 rfl ?_
            refine r_imul dL_isBox_91 ?_
            refine r_iconst 2 dL_isBox_92 (by decide) ?_
            refine r_iadd dL_isBox_93 ?_
            refine ldM369 (6 * k + 2) (ix6c k 2) (by omega) dL_isBox_94 ?_
            rw [hs.2.1, en2 he (by omega)]
            refine r_icmp_ne 102 dL_isBox_95 (by decide) (fun c95 => ?_) (fun c95 => ?_)
            ·
              refine r_iconst 0 dL_isBox_102 (by decide) ?_
              refine r_iadd dL_isBox_103 ?_
              refine r_istore dL_isBox_104 (by decide) rfl ?_
              exact J2 _ (cn_n hc (by simp [c95]))
            ·
              refine r_iconst 1 dL_isBox_98 (by decide) ?_
              refine r_goto 103 dL_isBox_99 (by decide) ?_
              refine r_iadd dL_isBox_103 ?_
              refine r_istore dL_isBox_104 (by decide) rfl ?_
              exact J2 _ (cn_y hc (by simp [c74, c95]))
        refine r_iload dL_isBox_29 rfl ?_
        refine r_aload_n dL_isBox_31 rfl ?_
        refine r_iload dL_isBox_32 rfl ?_
        refine ldM370 i rfl (by omega) dL_isBox_34 ?_
        rw [hs.2.2, hG i (by omega)]
        refine r_iload dL_isBox_35 rfl ?_
        refine r_ishr dL_isBox_37 ?_
        refine r_iconst 1 dL_isBox_38 (by decide) ?_
        refine r_iand dL_isBox_39 ?_
        refine r_iadd dL_isBox_40 ?_
        refine r_istore dL_isBox_41 (by decide) rfl ?_
        refine r_iload dL_isBox_43 rfl ?_
        refine r_aload_n dL_isBox_45 rfl ?_
        refine r_iload dL_isBox_46 rfl ?_
        refine r_iload dL_isBox_48 rfl ?_
        refine r_callSI hL (ctL_isBelow l Ω _ E (qC S) hs.2.1 he hn (gd_lt hg) i k (by omega) (by omega)) kL_isBox_39 rfl rfl (Nat.le_of_ble_eq_true rfl) dL_isBox_50 ?_
        refine r_if_eq 60 dL_isBox_53 (by decide) (fun c53 => ?_) (fun c53 => ?_)
        ·
          replace c53 := bI_f c53
          refine r_iconst 0 dL_isBox_60 (by decide) ?_
          refine r_iadd dL_isBox_61 ?_
          refine r_istore dL_isBox_62 (by decide) rfl ?_
          exact J1 _ _ (cn_has ha rfl) (cn_n hb c53)
        ·
          replace c53 := bI_t c53
          refine r_iconst 1 dL_isBox_56 (by decide) ?_
          refine r_goto 61 dL_isBox_57 (by decide) ?_
          refine r_iadd dL_isBox_61 ?_
          refine r_istore dL_isBox_62 (by decide) rfl ?_
          exact J1 _ _ (cn_has ha rfl) (cn_y hb c53)
  exact L1 (vN (qC S) + 1) 0 0 0 0 _ _ _ _ (by omega) hs rfl rfl rfl (by omega)
