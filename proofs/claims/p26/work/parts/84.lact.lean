/-! THE LAW OF ITS OWN: what an act answers and leaves -/
theorem nn_5 {k : Nat} (h : k < 2 ^ 31) : ¬ nI k < -5 := fun q => by
  rw [Int32.lt_iff_toInt_lt, nI_toInt h, show (-5 : Int32).toInt = -5 from by decide] at q
  omega
theorem pos_5 {x : Int32} (h : 0 < x) : ¬ x < -5 := fun q => by
  rw [Int32.lt_iff_toInt_lt, show (0 : Int32).toInt = 0 from by decide] at h
  rw [Int32.lt_iff_toInt_lt, show (-5 : Int32).toInt = -5 from by decide] at q
  omega
def acP (B : Nat) (z : Int32) (σ1 : Sg) : Prop := ¬ z < -5 ∧ ∃ S1, isC σ1 S1 ∧ goS (B + 1) S1 ∧ vN (qC S1) ≤ 10
theorem isC_4 {σ : Sg} {S : StV} (h : isC σ S) : qN S ≤ 4 := by
  obtain ⟨_, ⟨pm, h2, _⟩, _⟩ := h
  exact h2.2.1
theorem vx_5 {v : SpV} {B : Nat} (h : nuV B v) (hB : B < 2 ^ 31) : ¬ vX v < -5 := by
  obtain ⟨M, e, hM, _⟩ := h
  rw [e]
  exact nn_5 (by omega)
theorem vo_5 {v : SpV} {k : Nat} (hg : gdV v) (hk : k < vN v) : ¬ voG (vLo v) (vHi v) k < -5 := by
  obtain ⟨s0, _, h0, e0⟩ := gd_sz hg hk (d := 0) (by omega)
  obtain ⟨s1, _, h1, e1⟩ := gd_sz hg hk (d := 1) (by omega)
  obtain ⟨s2, _, h2, e2⟩ := gd_sz hg hk (d := 2) (by omega)
  unfold voG
  rw [e0, e1, e2, nI_mulR, nI_mulR]
  have := Nat.mul_le_mul (Nat.mul_le_mul h0 h1) h2
  exact nn_5 (by omega)
section ACTS
variable {B : Nat} {σ σ1 : Sg} {S : StV} {r : Int32}
theorem ac_none (h : isC σ S) (hgo : goS B S) (hn : vN (qC S) ≤ 10) : acP B 0 σ := ⟨by decide, S, h, goS_up hgo (by omega), hn⟩
theorem ac_add {x y z a b c : Int32} (h : isC σ S) (hgo : goS B S) (hB : B + 200 < 2 ^ 30) (hn : vN (qC S) < 10) (ho : okC σ (oAdd S x y z a b c) r σ1) : acP B r σ1 := by
  have hx := vx_5 hgo.1.2 (by omega)
  refine ⟨?_, _, ho.2.1, go_add hgo (isC_4 h) (by omega), ?_⟩
  · rw [ho.1]
    unfold oAdd
    by_cases d : entOk (qC S) x y z a b c = true
    · rw [if_pos d]
      exact hx
    · rw [if_neg d]
      show ¬ entA (qC S) x y z a b c < -5
      unfold entA
      split
      · decide
      · split
        · decide
        · split
          · decide
          · exact hx
  · unfold oAdd
    by_cases d : entOk (qC S) x y z a b c = true
    · rw [if_pos d]
      show vN (qC S) + 1 ≤ 10
      omega
    · rw [if_neg d]
      show vN (qC S) ≤ 10
      omega
theorem ac_remove {x : Int32} (h : isC σ S) (hgo : goS B S) (hB : B + 200 < 2 ^ 30) (hn : vN (qC S) ≤ 10) (ho : okC σ (oRemove S x) r σ1) : acP B r σ1 := by
  refine ⟨?_, _, ho.2.1, goS_up (go_remove hgo (isC_4 h)) (by omega), ?_⟩
  · rw [ho.1]
    unfold oRemove
    cases e : locO (qC S) x with
    | none => exact (show ¬ (-1 : Int32) < -5 by decide)
    | some k => exact vo_5 hgo.1.1 (lo_lt e)
  · unfold oRemove
    cases e : locO (qC S) x with
    | none => exact hn
    | some k =>
      show vN (qC S) - 1 ≤ 10
      omega
theorem ac_move {x d y : Int32} (h : isC σ S) (hgo : goS B S) (hB : B + 200 < 2 ^ 30) (hn : vN (qC S) ≤ 10) (ho : okC σ (oMove S x d y) r σ1) : acP B r σ1 := by
  refine ⟨?_, _, ho.2.1, goS_up (go_move hgo (isC_4 h)) (by omega), ?_⟩
  · rw [ho.1]
    cases e : locO (qC S) x with
    | none =>
      rw [oMove_no (Or.inl e)]
      exact (show ¬ (-1 : Int32) < -5 by decide)
    | some k =>
      by_cases dd : dirB d = true
      · obtain ⟨f, hf, ef⟩ := dir_ix dd
        rw [oMove_at e dd, ef, nI_clamp (by omega)]
        by_cases c1 : y < -(vLo (qC S) k f)
        · rw [if_pos c1]
          exact (show ¬ (-2 : Int32) < -5 by decide)
        · rw [if_neg c1]
          by_cases c2 : 32 - vHi (qC S) k f < y
          · rw [if_pos c2]
            exact (show ¬ (-2 : Int32) < -5 by decide)
          · rw [if_neg c2]
            by_cases c3 : mvCut (qC S) k f y = true
            · rw [if_pos c3]
              exact (show ¬ (-4 : Int32) < -5 by decide)
            · rw [if_neg c3]
              by_cases c4 : y = 0
              · rw [if_pos c4]
                exact (show ¬ (-5 : Int32) < -5 by decide)
              · rw [if_neg c4]
                have hk := lo_lt e
                have g := (gd_move hgo.1.1 hgo.1.2 hk hf c1 c2 (by simpa using c3)).1
                obtain ⟨a, b, e1, _, e3, e4, _⟩ := g.2.2.1 k hk f hf
                have e5 : vLo (qC S) k f + y = nI a := by
                  rw [← e1, shV_lo, if_pos ⟨rfl, rfl⟩]
                show ¬ vLo (qC S) k f + y < -5
                rw [e5]
                exact nn_5 (by omega)
      · rw [oMove_no (Or.inr (by simpa using dd))]
        exact (show ¬ (-1 : Int32) < -5 by decide)
  · cases e : locO (qC S) x with
    | none =>
      rw [oMove_no (Or.inl e)]
      exact hn
    | some k =>
      by_cases dd : dirB d = true
      · rw [oMove_at e dd]
        split
        · exact hn
        · split
          · exact hn
          · split
            · exact hn
            · split
              · exact hn
              · exact hn
      · rw [oMove_no (Or.inr (by simpa using dd))]
        exact hn
theorem ac_fall {x : Int32} (h : isC σ S) (hgo : goS B S) (hB : B + 200 < 2 ^ 30) (hn : vN (qC S) ≤ 10) (ho : okC σ (oFall S x) r σ1) : acP B r σ1 := by
  refine ⟨?_, _, ho.2.1, goS_up (go_fall hgo (isC_4 h)) (by omega), ?_⟩
  · rw [ho.1]
    unfold oFall
    cases e : locO (qC S) x with
    | none => exact (show ¬ (-1 : Int32) < -5 by decide)
    | some k =>
      simp only
      split
      · rename_i c
        exact pos_5 c
      · exact (show ¬ (-5 : Int32) < -5 by decide)
  · unfold oFall
    cases e : locO (qC S) x with
    | none => exact hn
    | some k =>
      simp only
      split
      · exact hn
      · exact hn
theorem ac_split {x d t : Int32} (h : isC σ S) (hgo : goS B S) (hB : B + 200 < 2 ^ 30) (hn : vN (qC S) < 10) (ho : okC σ (oSplit S x d t) r σ1) : acP B r σ1 := by
  have hx := vx_5 hgo.1.2 (by omega)
  have hn2 : vN (qC S) ≤ 10 := by omega
  refine ⟨?_, _, ho.2.1, go_split hgo (isC_4 h) (by omega), ?_⟩
  · rw [ho.1]
    cases e : locO (qC S) x with
    | none =>
      rw [oSplit_no (Or.inl e)]
      exact (show ¬ (-1 : Int32) < -5 by decide)
    | some k =>
      by_cases dd : dirB d = true
      · rw [oSplit_at e dd]
        split
        · exact (show ¬ (-2 : Int32) < -5 by decide)
        · split
          · exact (show ¬ (-2 : Int32) < -5 by decide)
          · split
            · exact (show ¬ (-3 : Int32) < -5 by decide)
            · exact hx
      · rw [oSplit_no (Or.inr (by simpa using dd))]
        exact (show ¬ (-1 : Int32) < -5 by decide)
  · cases e : locO (qC S) x with
    | none =>
      rw [oSplit_no (Or.inl e)]
      exact hn2
    | some k =>
      by_cases dd : dirB d = true
      · rw [oSplit_at e dd]
        split
        · exact hn2
        · split
          · exact hn2
          · split
            · exact hn2
            · show vN (qC S) + 1 ≤ 10
              omega
      · rw [oSplit_no (Or.inr (by simpa using dd))]
        exact hn2
theorem ac_break (h : isC σ S) (hgo : goS B S) (hB : B + 200 < 2 ^ 30) (hn : vN (qC S) < 10) (ho : okC σ (oBreak S) r σ1) : acP B r σ1 := by
  have hx := vx_5 hgo.1.2 (by omega)
  refine ⟨?_, _, ho.2.1, go_break hgo (isC_4 h) (by omega), ?_⟩
  · rw [ho.1]
    unfold oBreak
    rcases br_cases (qC S) with ⟨e1, e2⟩ | ⟨k, _, _, _, e2, e1⟩
    · rw [e1]
      show ¬ brA (qC S) < -5
      rcases e2 with e2 | e2 | e2 <;> rw [e2] <;> decide
    · rw [e1]
      show ¬ brA (qC S) < -5
      rw [e2]
      exact hx
  · unfold oBreak
    rcases br_cases (qC S) with ⟨e1, e2⟩ | ⟨k, _, _, _, e2, e1⟩
    · rw [e1]
      show vN (qC S) ≤ 10
      omega
    · rw [e1]
      show vN (qC S) + 1 ≤ 10
      omega
theorem su_nn {f : Nat → Int32} : ∀ {n : Nat}, n ≤ 16 → (∀ k, k < n → ∃ c, c ≤ 16 ∧ f k = nI c) → ∃ c, c ≤ 16 * n ∧ sumI f n = nI c
  | 0, _, _ => ⟨0, Nat.le_refl _, rfl⟩
  | n + 1, hn, h => by
    obtain ⟨c, hc, e⟩ := su_nn (n := n) (by omega) (fun k hk => h k (Nat.lt_succ_of_lt hk))
    obtain ⟨d, hd, e2⟩ := h n (Nat.lt_succ_self n)
    refine ⟨c + d, by omega, ?_⟩
    rw [sumI, e, e2, nI_add]
theorem ac_turn (h : isC σ S) (hgo : goS B S) (hB : B + 200 < 2 ^ 30) (hn : vN (qC S) ≤ 10) (ho : okC σ (oTurn S) r σ1) : acP B r σ1 := by
  refine ⟨?_, _, ho.2.1, goS_up (go_turn hgo (isC_4 h)) (by omega), ?_⟩
  · rw [ho.1]
    unfold oTurn
    by_cases c : vN (qC S) = 0
    · rw [if_pos c]
      exact (show ¬ (-5 : Int32) < -5 by decide)
    · rw [if_neg c]
      obtain ⟨d, hd, e⟩ := su_nn (f := fun k => bcI (HV (qC S) k &&& (HV (qtV (qC S)) k ^^^ -1))) (n := vN (qC S)) (by omega) (fun k hk => ⟨cntBt (HV (qC S) k &&& (HV (qtV (qC S)) k ^^^ -1)) 16, cntBt_le _ _, bc_Bt (Nat.le_refl _) (fun j a b => by rw [hasB_and _ _ b, hv_16 (by omega) a b, Bool.false_and])⟩)
      show ¬ sumI (fun k => bcI (HV (qC S) k &&& (HV (qtV (qC S)) k ^^^ -1))) (vN (qC S)) < -5
      rw [e]
      exact nn_5 (by omega)
  · unfold oTurn
    by_cases c : vN (qC S) = 0
    · rw [if_pos c]
      exact hn
    · rw [if_neg c]
      exact hn
theorem ac_set {s x : Int32} (h : isC σ S) (hgo : goS B S) (hB : B + 200 < 2 ^ 30) (hn : vN (qC S) ≤ 10) (ho : okC σ (oSet S s x) r σ1) : acP B r σ1 := by
  refine ⟨?_, _, ho.2.1, goS_up (go_set hgo (isC_4 h)) (by omega), ?_⟩
  · rw [ho.1]
    unfold oSet
    split
    · exact (show ¬ (-1 : Int32) < -5 by decide)
    · split
      · exact (show ¬ (-2 : Int32) < -5 by decide)
      · split
        · exact (show ¬ (-2 : Int32) < -5 by decide)
        · split
          · exact (show ¬ (-5 : Int32) < -5 by decide)
          · show ¬ vRu (qC S) < -5
            rcases hgo.1.1.2.1 with e | e | e <;> rw [e] <;> decide
  · unfold oSet
    split
    · exact hn
    · split
      · exact hn
      · split
        · exact hn
        · split
          · exact hn
          · exact hn
end ACTS
