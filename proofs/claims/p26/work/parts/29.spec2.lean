/-! behind a change: the history holds the state before it -/
theorem ne_63 {t j : Nat} (ht : t < 7) (hj : j < 16) : (iBo (bx t j) ≠ 363 ∧ iL (bx t j) ≠ 363 ∧ iH (bx t j) ≠ 363) ∧ (iBo (bx t j) ≠ 364 ∧ iL (bx t j) ≠ 364 ∧ iH (bx t j) ≠ 364) := by
  refine ⟨⟨?_, ?_, ?_⟩, ?_, ?_, ?_⟩
  · unfold iBo bx; omega
  · unfold iL bx; omega
  · unfold iH bx; omega
  · unfold iBo bx; omega
  · unfold iL bx; omega
  · unfold iH bx; omega
theorem isV_fr2 {σ σ1 : Sg} {u t : Nat} {v : SpV} (h : isV σ t v) (hut : u ≠ t) (hu : u < 7) (ht : t < 7) (f : ∀ q, q ≠ 363 → q ≠ 364 → q ≠ iS u → outB u q → σ1 q = σ q) : isV σ1 t v := by
  refine isV_keep h (f _ (by unfold iS; omega) (by unfold iS; omega) (by unfold iS; omega) (outB_S u t hu)) (fun j hj => ?_)
  obtain ⟨⟨a1, a2, a3⟩, b1, b2, b3⟩ := ne_63 ht hj
  have hB := outB_bx (s := u) hut hj
  have hb := bx_lt ht hj
  exact ⟨f _ a1 b1 (nSB u _ hb).symm hB.1, f _ a2 b2 (nSL u _ hb).symm hB.2.1, f _ a3 b3 (nSH u _ hb).symm hB.2.2⟩
theorem isV_fr0 {σ σ1 : Sg} {t : Nat} {v : SpV} (h : isV σ t v) (ht : t < 7) (f : ∀ q, q ≠ 363 → q ≠ 364 → σ1 q = σ q) : isV σ1 t v := by
  refine isV_keep h (f _ (by unfold iS; omega) (by unfold iS; omega)) (fun j hj => ?_)
  obtain ⟨⟨a1, a2, a3⟩, b1, b2, b3⟩ := ne_63 ht hj
  exact ⟨f _ a1 b1, f _ a2 b2, f _ a3 b3⟩
theorem outB_hi {u q : Nat} (hu : u < 7) (hq : 339 ≤ q) : outB u q := by
  intro j hj
  have := bx_lt hu hj
  refine ⟨?_, ?_, ?_⟩
  · unfold iBo; omega
  · unfold iL; omega
  · unfold iH; omega
theorem adopt_ok {σ σ1 σ2 : Sg} {S : StV} {w : SpV} {pm : Nat → Nat} (hc : isV σ 0 (qC S)) (h0 : hOk σ (qN S) pm) (hh : ∀ i, i < qN S → isV σ (pm i) (qH S i)) (hp : snaC σ (qP S)) (ht : txtC σ (qL S) (qT S)) (hw : isV σ 1 w)
    (h1 : rmI σ 0 (vN (qC S)) (qN S) pm σ1) (h2 : spC σ2 0 σ1 1 (vN w)) (h3 : frS 0 σ1 σ2) : isC σ2 (pushS S w) ∧ isV σ2 1 w ∧ keepM σ σ2 := by
  obtain ⟨pm', τ, c', g0, g1, g2, g3, g4, g5⟩ := h1
  have hc4 : c' < 4 := by
    have := h0.2.1
    omega
  obtain ⟨-, m1, m2⟩ := g0.2.2.1 c' hc4
  have inj := g0.2.2.2
  have f1 : ∀ q, q ≠ 363 → q ≠ 364 → q ≠ iS (pm' c') → outB (pm' c') q → σ1 q = σ q := fun q a b c d => (g5 q a c d).trans (g1 q a b)
  have f3 : ∀ q, q ≠ 363 → q ≠ 364 → q ≠ iS 0 → outB 0 q → σ2 q = σ1 q := fun q _ _ c d => h3 q c d
  have w1 : isV σ1 1 w := isV_fr2 hw (by omega) m2 (by omega) f1
  have e2 : ∀ q, 345 ≤ q → σ2 q = σ1 q := fun q hq => h3 q (by unfold iS; omega) (outB_hi (by omega) (by omega))
  have e1 : ∀ q, 365 ≤ q → σ1 q = σ q := fun q hq => f1 q (by omega) (by omega) (by unfold iS; omega) (outB_hi m2 (by omega))
  have eN : psN S = c' + 1 := by
    unfold psN
    rcases g2 with ⟨a, b, -⟩ | ⟨a, b, -⟩
    · rw [if_pos a, b]
    · rw [if_neg (by omega), b]
  refine ⟨⟨isV_sp w1 h2, ⟨pm', ?_, fun i hi => ?_⟩, ?_, ?_⟩, isV_fr2 w1 (by omega) (by omega) (by omega) f3, fun q hq => (e2 q (by omega)).trans (e1 q (by omega))⟩
  · show hOk σ2 (psN S) pm'
    rw [eN]
    exact hOk_eq g3 (e2 _ (by omega)) (e2 _ (by omega))
  · have hi' : i < c' + 1 := by rw [← eN]; exact hi
    obtain ⟨-, n1, n2⟩ := g0.2.2.1 i (by omega)
    refine isV_fr2 ?_ (by omega) (by omega) n2 f3
    show isV σ1 (pm' i) (psH S i)
    unfold psH
    by_cases e : i + 1 = psN S
    · rw [if_pos e]
      have ei : i = c' := by omega
      subst ei
      exact isV_sp (isV_fr0 hc (by omega) g1) g4
    · rw [if_neg e]
      have hne : pm' c' ≠ pm' i := fun q => by
        have := inj _ _ hc4 (by omega) q
        omega
      refine isV_fr2 ?_ hne m2 n2 f1
      rcases g2 with ⟨a, b, c, -⟩ | ⟨a, b, c⟩
      · rw [if_pos a, c]
        exact hh i (by omega)
      · rw [if_neg (by omega), c]
        simp only
        rw [if_pos (by omega)]
        exact hh (i + 1) (by omega)
  · show snaC σ2 (qP S)
    unfold snaC at hp ⊢
    rw [e2 368 (by omega), e1 368 (by omega)]
    rcases hp with ⟨a, v, b, c⟩ | hp
    · exact Or.inl ⟨a, v, b, isV_fr2 (isV_fr2 c (by omega) m2 (by omega) f1) (by omega) (by omega) (by omega) f3⟩
    · exact Or.inr hp
  · show txtC σ2 (qL S) (qT S)
    unfold txtC at ht ⊢
    rw [e2 365 (by omega), e1 365 (by omega), e2 366 (by omega), e1 366 (by omega)]
    exact ht
/-! the second space: what a write there leaves -/
theorem isV_take {σ σ1 : Sg} {s k : Nat} {v : SpV} (h : isV σ s v) (hk : k < vN v) (h1 : tkS σ s k (vN v) σ1) : isV σ1 s (rmV v k) := by
  obtain ⟨a, b, c, d, e, f⟩ := h
  obtain ⟨t1, t2, t3, t4⟩ := h1
  refine ⟨?_, t1, (t2 2 (by omega)).trans c, (t2 3 (by omega)).trans d, (t2 4 (by omega)).trans e, fun j hj => ?_⟩
  · show vN v - 1 ≤ 16
    omega
  · have hj' : j < vN v - 1 := hj
    have g := t3 j (by omega)
    have hm : mvI k (vN v - 1) j < vN v := by
      unfold mvI
      split <;> omega
    have f' := f _ hm
    exact ⟨g.1.trans f'.1, fun d hd => ⟨(g.2 d hd).1.trans (f'.2 d hd).1, (g.2 d hd).2.trans (f'.2 d hd).2⟩⟩
theorem isV_cut {σ σ1 : Sg} {s k d : Nat} {x r : Int32} {v : SpV} (h : isV σ s v) (hn : vN v < 16) (h1 : cuS σ s k d x (vN v) r σ1) (hk : k < vN v) : r = vX v ∧ isV σ1 s (cutV v k d x) := by
  obtain ⟨a, b, c, e, g, f⟩ := h
  obtain ⟨t0, t1, t2, t3, t4, t5, t6, t7, t8⟩ := h1.2 hn
  refine ⟨t0.trans c, ?_, t1, t2.trans (by rw [c]; rfl), t3.trans (by rw [e]; rfl), t4.trans g, fun j hj => ?_⟩
  · show vN v + 1 ≤ 16
    omega
  · have hj' : j < vN v + 1 := hj
    by_cases ej : j = vN v
    · subst ej
      refine ⟨t6.trans (by rw [c]; simp [cutV_nu]), fun i hi => ⟨?_, ?_⟩⟩
      · rw [(t7 i hi).1]
        rw [((f k hk).2 i hi).1]
        simp [cutV_lo]
      · rw [(t7 i hi).2]
        rw [((f k hk).2 i hi).2]
        simp [cutV_hi]
    · have hjn : j < vN v := by omega
      refine ⟨(t5 j hjn).1.trans (by rw [(f j hjn).1]; simp [cutV_nu, cutV_lo, cutV_hi, ej]), fun i hi => ⟨?_, ?_⟩⟩
      · rw [((t5 j hjn).2 i hi).1, ((f j hjn).2 i hi).1]
        simp [cutV_nu, cutV_lo, cutV_hi, ej]
      · rw [((t5 j hjn).2 i hi).2, ((f j hjn).2 i hi).2]
        simp [cutV_nu, cutV_lo, cutV_hi, ej]
theorem isV_qt {σ σ1 : Sg} {s : Nat} {v : SpV} (hs : s < 7) (h : isV σ s v) (h1 : qtI σ s (vN v) σ1) : isV σ1 s (qtV v) := by
  obtain ⟨a, b, c, d, e, f⟩ := h
  have eS := h1.2.2 _ (outB_S s s hs)
  refine ⟨a, by rw [eS]; exact b, by rw [eS]; exact c, by rw [eS]; exact d, by rw [eS]; exact e, fun j hj => ?_⟩
  obtain ⟨q0, q1, q2, q3, q4, q5, q6⟩ := h1.1 j hj
  have g := f j hj
  refine ⟨by rw [q0]; exact g.1, fun i hi => ?_⟩
  obtain rfl | rfl | rfl : i = 0 ∨ i = 1 ∨ i = 2 := by omega
  · exact ⟨by rw [q1, (g.2 1 (by omega)).2]; simp [qtV_lo, qtV_hi], by rw [q2, (g.2 1 (by omega)).1]; simp [qtV_lo, qtV_hi]⟩
  · exact ⟨by rw [q3, (g.2 0 (by omega)).1]; simp [qtV_lo, qtV_hi], by rw [q4, (g.2 0 (by omega)).2]; simp [qtV_lo, qtV_hi]⟩
  · exact ⟨by rw [q5, (g.2 2 (by omega)).1]; simp [qtV_lo, qtV_hi], by rw [q6, (g.2 2 (by omega)).2]; simp [qtV_lo, qtV_hi]⟩
theorem isV_sh {σ : Sg} {s k d : Nat} {x : Int32} {v : SpV} (hs : s < 7) (h : isV σ s v) (hk : k < vN v) : isV (upS (upS σ (iL (bx s k)) d (σ (iL (bx s k)) d + x)) (iH (bx s k)) d (σ (iH (bx s k)) d + x)) s (shV v k d x) := by
  obtain ⟨a, b, c, e, g, f⟩ := h
  have hb := bx_lt hs (show k < 16 by omega)
  have eS : upS (upS σ (iL (bx s k)) d (σ (iL (bx s k)) d + x)) (iH (bx s k)) d (σ (iH (bx s k)) d + x) (iS s) = σ (iS s) := by rw [up_ne (nSH _ _ hb), up_ne (nSL _ _ hb)]
  refine ⟨a, by rw [eS]; exact b, by rw [eS]; exact c, by rw [eS]; exact e, by rw [eS]; exact g, fun j hj => ?_⟩
  have hj2 : j < vN v := hj
  have fj := f j hj2
  refine ⟨by rw [up_ne (nBH _ _), up_ne (nBL _ _)]; exact fj.1, fun i hi => ?_⟩
  by_cases ej : j = k
  · subst ej
    refine ⟨?_, ?_⟩
    · rw [up_ne (nLH _ _), up_get]
      simp only [true_and, shV_lo, shV_hi]
      by_cases ei : i = d
      · subst ei
        simp [(fj.2 i hi).1]
      · simp [ei, (fj.2 i hi).1]
    · rw [up_get, up_ne (nHL _ _)]
      simp only [true_and, shV_lo, shV_hi]
      by_cases ei : i = d
      · subst ei
        simp [(fj.2 i hi).2]
      · simp [ei, (fj.2 i hi).2]
  · have hne := bx_ne (s := s) ej
    refine ⟨?_, ?_⟩
    · rw [up_ne (nLH _ _), up_ne hne.2.1, (fj.2 i hi).1]
      simp [shV_lo, shV_hi, ej]
    · rw [up_ne hne.2.2, up_ne (nHL _ _), (fj.2 i hi).2]
      simp [shV_lo, shV_hi, ej]
theorem isV_ap {σ σ1 : Sg} {s o : Nat} {r : Int32} {v : SpV} {l h : V3} (hv : isV σ s v) (hn : vN v < 16) (hl : ∀ d, d < 3 → σ (iL o) d = l d ∧ σ (iH o) d = h d) (h1 : apS σ s o (vN v) r σ1) (hs : s < 7) : r = vX v ∧ isV σ1 s (addV v l h) := by
  obtain ⟨a, b, c, e, g, f⟩ := hv
  obtain ⟨t0, t1, t2, t3, t4, t5, t6⟩ := h1.2 hn
  refine ⟨t0.trans c, ?_, t1, t2.trans (by rw [c]; rfl), (t3 3 (by omega) (by omega)).trans e, (t3 4 (by omega) (by omega)).trans g, fun j hj => ?_⟩
  · show vN v + 1 ≤ 16
    omega
  · have hj' : j < vN v + 1 := hj
    by_cases ej : j = vN v
    · subst ej
      refine ⟨t4.trans (by rw [c]; simp [addV_nu, addV_lo, addV_hi]), fun i hi => ⟨?_, ?_⟩⟩
      · rw [(t5 i hi).1, (hl i hi).1]
        simp [addV_nu, addV_lo, addV_hi]
      · rw [(t5 i hi).2, (hl i hi).2]
        simp [addV_nu, addV_lo, addV_hi]
    · have hb := bx_lt hs (show j < 16 by omega)
      have hne := bx_ne (s := s) ej
      have g0 := t6 (iBo (bx s j)) (nSB _ _ hb).symm hne.1 (nBL _ _) (nBH _ _)
      have g1 := t6 (iL (bx s j)) (nSL _ _ hb).symm (nLB _ _) hne.2.1 (nLH _ _)
      have g2 := t6 (iH (bx s j)) (nSH _ _ hb).symm (nHB _ _) (nHL _ _) hne.2.2
      have fj := f j (by omega)
      rw [g0, g1, g2]
      refine ⟨fj.1.trans (by simp [addV_nu, addV_lo, addV_hi, ej]), fun i hi => ⟨(fj.2 i hi).1.trans (by simp [addV_nu, addV_lo, addV_hi, ej]), (fj.2 i hi).2.trans (by simp [addV_nu, addV_lo, addV_hi, ej])⟩⟩
theorem rm_keep1 {σ σ1 : Sg} {n c : Nat} {pm : Nat → Nat} {w : SpV} (h0 : hOk σ c pm) (hw : isV σ 1 w) (h1 : rmI σ 0 n c pm σ1) : isV σ1 1 w := by
  obtain ⟨pm', τ, c', g0, g1, g2, g3, g4, g5⟩ := h1
  have hc4 : c' < 4 := by
    have := h0.2.1
    omega
  obtain ⟨-, m1, m2⟩ := g0.2.2.1 c' hc4
  exact isV_fr2 hw (by omega) m2 (by omega) (fun q a b c d => (g5 q a c d).trans (g1 q a b))
theorem keepC_up {σ : Sg} {k i i' : Nat} {x y : Int32} (hk : k < 16) : keepC σ (upS (upS σ (iL (bx 1 k)) i x) (iH (bx 1 k)) i' y) := by
  intro q hq
  have h1 : ¬ (48 ≤ q ∧ q < 96) := fun e => hq (Or.inl e)
  rw [up_ne (by unfold iH bx; omega), up_ne (by unfold iL bx; omega)]
theorem anyb_e {p q : Nat → Bool} {n : Nat} (h : ∀ k, k < n → p k = q k) : bI (anyb p n) = bI (anyb q n) := by rw [anyb_c h]
theorem v_mvcut {σ : Sg} {v : SpV} {k d : Nat} {x : Int32} (h : isV σ 1 (shV v k d x)) (hk : k < vN v) : anyb (fun j => !decide (nI j = nI k) && ctBx (σ (iL (bx 1 j))) (σ (iH (bx 1 j))) (σ (iL (bx 1 k))) (σ (iH (bx 1 k)))) (vN v) = mvCut v k d x := by
  have hn : vN v ≤ 16 := h.1
  refine anyb_c (fun j hj => ?_)
  rw [ctBx_c (v_lo h (show j < vN (shV v k d x) from hj)) (v_hi h (show j < vN (shV v k d x) from hj)) (v_lo h (show k < vN (shV v k d x) from hk)) (v_hi h (show k < vN (shV v k d x) from hk))]
  congr 2
  exact decide_eq_decide.mpr (nI_eq (by omega) (by omega))
theorem oMove_at {S : StV} {x d b : Int32} {k : Nat} (ek : locO (qC S) x = some k) (hd : dirB d = true) : oMove S x d b = (if b < -(vLo (qC S) k d.toNatClampNeg) then (-2, S) else if 32 - vHi (qC S) k d.toNatClampNeg < b then (-2, S) else if mvCut (qC S) k d.toNatClampNeg b then (-4, S) else if b = 0 then (-5, S) else (vLo (qC S) k d.toNatClampNeg + b, pushS S (shV (qC S) k d.toNatClampNeg b))) := by
  unfold oMove
  rw [ek]
  simp [hd]
theorem oMove_no {S : StV} {x d b : Int32} (h : locO (qC S) x = none ∨ dirB d = false) : oMove S x d b = (-1, S) := by
  unfold oMove
  cases e : locO (qC S) x with
  | none => rfl
  | some k =>
    rcases h with h | h
    · rw [e] at h; cases h
    · simp [h]
theorem oSplit_at {S : StV} {x d t : Int32} {k : Nat} (ek : locO (qC S) x = some k) (hd : dirB d = true) : oSplit S x d t = (if !decide (vLo (qC S) k d.toNatClampNeg < t) then (-2, S) else if !decide (t < vHi (qC S) k d.toNatClampNeg) then (-2, S) else if vN (qC S) = 16 then (-3, S) else (vX (qC S), pushS S (cutV (qC S) k d.toNatClampNeg t))) := by
  unfold oSplit
  rw [ek]
  simp [hd]
theorem oSplit_no {S : StV} {x d t : Int32} (h : locO (qC S) x = none ∨ dirB d = false) : oSplit S x d t = (-1, S) := by
  unfold oSplit
  cases e : locO (qC S) x with
  | none => rfl
  | some k =>
    rcases h with h | h
    · rw [e] at h; cases h
    · simp [h]
theorem oEnd_at {S : StV} {x d h : Int32} {k : Nat} (ek : locO (qC S) x = some k) (hd : dirB d = true) : oEnd S x d h = (if h = 0 then vLo (qC S) k d.toNatClampNeg else vHi (qC S) k d.toNatClampNeg, S) := by
  unfold oEnd
  rw [ek]
  simp [hd]
theorem oEnd_no {S : StV} {x d y : Int32} (h : locO (qC S) x = none ∨ dirB d = false) : oEnd S x d y = (-1, S) := by
  unfold oEnd
  cases e : locO (qC S) x with
  | none => rfl
  | some k =>
    rcases h with h | h
    · rw [e] at h; cases h
    · simp [h]
theorem okC_of {σ σ1 : Sg} {o : Int32 × StV} {r : Int32} {S' : StV} (e : o = (r, S')) (h : isC σ1 S') (hk : keepM σ σ1) : okC σ o r σ1 := by
  rw [e]
  exact ⟨rfl, h, hk⟩
theorem keepC_ru {σ : Sg} {x : Int32} : keepC σ (upS σ (iS 1) 4 x) := fun q hq => up_ne (fun e => hq (Or.inr (Or.inl (by rw [e]; rfl))))
theorem isV_ru {σ : Sg} {v : SpV} {x : Int32} (h : isV σ 1 v) : isV (upS σ (iS 1) 4 x) 1 (ruV v x) := by
  obtain ⟨a, b, c, d, e, f⟩ := h
  refine ⟨a, ?_, ?_, ?_, ?_, fun j hj => ?_⟩
  · rw [up_get, if_neg (by omega)]
    exact b
  · rw [up_get, if_neg (by omega)]
    exact c
  · rw [up_get, if_neg (by omega)]
    exact d
  · rw [up_get, if_pos ⟨rfl, rfl⟩]
    rfl
  · have hj' : j < vN v := hj
    have hb := bx_lt (s := 1) (by omega) (show j < 16 by omega)
    rw [up_ne (nSB _ _ hb).symm, up_ne (nSL _ _ hb).symm, up_ne (nSH _ _ hb).symm]
    exact f j hj'
theorem undo_ok {σ σ1 : Sg} {S : StV} {pm : Nat → Nat} (h0 : hOk σ (qN S) pm) (hh : ∀ i, i < qN S → isV σ (pm i) (qH S i)) (hp : snaC σ (qP S)) (ht : txtC σ (qL S) (qT S)) (hq : 0 < qN S) (h1 : rcI σ 0 (vN (qH S (qN S - 1))) (qN S - 1) pm σ1) : okC σ (oUndo S) (nI (qN S - 1)) σ1 := by
  obtain ⟨g0, g1, g2⟩ := h1
  have h4 := h0.2.1
  have f : ∀ q, q ≠ 363 → q ≠ 364 → q ≠ iS 0 → outB 0 q → σ1 q = σ q := fun q a _ c d => g2 q a c d
  have e2 : ∀ q, 365 ≤ q → σ1 q = σ q := fun q hq => g2 q (by omega) (by unfold iS; omega) (outB_hi (by omega) (by omega))
  rw [oUndo, if_neg (by omega)]
  refine ⟨rfl, ⟨isV_sp (hh _ (by omega)) g1, ⟨pm, g0, fun i hi => ?_⟩, ?_, ?_⟩, fun q hq => e2 q (by omega)⟩
  · have hi' : i < qN S - 1 := hi
    obtain ⟨-, m1, m2⟩ := h0.2.2.1 i (by omega)
    exact isV_fr2 (hh i (by omega)) (by omega) (by omega) m2 f
  · show snaC σ1 (qP S)
    unfold snaC at hp ⊢
    rw [e2 368 (by omega)]
    rcases hp with ⟨a, v, b, c⟩ | hp
    · exact Or.inl ⟨a, v, b, isV_fr2 c (by omega) (by omega) (by omega) f⟩
    · exact Or.inr hp
  · show txtC σ1 (qL S) (qT S)
    unfold txtC at ht ⊢
    rw [e2 365 (by omega), e2 366 (by omega)]
    exact ht
theorem keep_ok {σ σ1 : Sg} {S : StV} {pm : Nat → Nat} (hc : isV σ 0 (qC S)) (h0 : hOk σ (qN S) pm) (hh : ∀ i, i < qN S → isV σ (pm i) (qH S i)) (ht : txtC σ (qL S) (qT S)) (h1 : spC σ1 2 σ 0 (vN (qC S)) ∧ frS 2 σ σ1) : okC σ (oKeep S) (nI (vN (qC S))) (upS σ1 368 3 1) := by
  have e2 : ∀ q, 345 ≤ q → q ≠ 368 → upS σ1 368 3 1 q = σ q := fun q hq h3 => (up_ne h3).trans (h1.2 q (by unfold iS; omega) (outB_hi (by omega) (by omega)))
  have hlow : ∀ t v, t < 7 → isV σ1 t v → isV (upS σ1 368 3 1) t v := by
    intro t v h7 hv
    refine isV_keep hv (up_ne (by unfold iS; omega)) (fun j hj => ?_)
    have hb := bx_lt h7 hj
    exact ⟨up_ne (by unfold iBo; omega), up_ne (by unfold iL; omega), up_ne (by unfold iH; omega)⟩
  refine ⟨rfl, ⟨hlow 0 _ (by omega) (isV_fr hc (by omega) (by omega) (by omega) h1.2), ⟨pm, hOk_eq h0 (e2 _ (by omega) (by omega)) (e2 _ (by omega) (by omega)), fun i hi => ?_⟩, Or.inl ⟨?_, qC S, rfl, hlow 2 _ (by omega) (isV_sp hc h1.1)⟩, ?_⟩, fun q hq => e2 q (by omega) (by omega)⟩
  · have hi' : i < qN S := hi
    have h4 := h0.2.1
    obtain ⟨-, m1, m2⟩ := h0.2.2.1 i (by omega)
    exact hlow _ _ m2 (isV_fr (hh i hi') (by omega) (by omega) m2 h1.2)
  · rw [up_get, if_pos ⟨rfl, rfl⟩]
  · show txtC _ (qL S) (qT S)
    unfold txtC at ht ⊢
    rw [e2 365 (by omega) (by omega), e2 366 (by omega) (by omega)]
    exact ht
