/-! PURE: the whole stays good, the rest -/
theorem go_move {B : Nat} {S : StV} {x d y : Int32} (h : goS B S) (h4 : qN S ≤ 4) : goS B (oMove S x d y).2 := by
  cases e : locO (qC S) x with
  | none =>
    rw [oMove_no (Or.inl e)]
    exact h
  | some k =>
    by_cases c : dirB d = true
    · obtain ⟨q, hq, rfl⟩ := dir_ix c
      rw [oMove_at e c, nI_clamp (by omega)]
      by_cases c1 : y < -(vLo (qC S) k q)
      · rw [if_pos c1]; exact h
      · rw [if_neg c1]
        by_cases c2 : 32 - vHi (qC S) k q < y
        · rw [if_pos c2]; exact h
        · rw [if_neg c2]
          by_cases c3 : mvCut (qC S) k q y = true
          · rw [if_pos c3]; exact h
          · rw [if_neg c3]
            by_cases c4 : y = 0
            · rw [if_pos c4]; exact h
            · rw [if_neg c4]
              exact go_push h h4 (gd_move h.1.1 h.1.2 (lo_lt e) hq c1 c2 (by simpa using c3))
    · rw [oMove_no (Or.inr (by simpa using c))]
      exact h
theorem go_split {B : Nat} {S : StV} {x d t : Int32} (h : goS B S) (h4 : qN S ≤ 4) (hB : B + 1 < 2 ^ 31) : goS (B + 1) (oSplit S x d t).2 := by
  have h0 : goS (B + 1) S := goS_up h (by omega)
  cases e : locO (qC S) x with
  | none =>
    rw [oSplit_no (Or.inl e)]
    exact h0
  | some k =>
    by_cases c : dirB d = true
    · obtain ⟨q, hq, rfl⟩ := dir_ix c
      rw [oSplit_at e c, nI_clamp (by omega)]
      by_cases c1 : vLo (qC S) k q < t
      · rw [decide_eq_true c1, if_neg (by decide)]
        by_cases c2 : t < vHi (qC S) k q
        · rw [decide_eq_true c2, if_neg (by decide)]
          by_cases c3 : vN (qC S) = 16
          · rw [if_pos c3]; exact h0
          · rw [if_neg c3]
            obtain ⟨a, b, e1, e2, e3, e4, e5⟩ := h.1.1.2.2.1 k (lo_lt e) q hq
            rw [e1] at c1
            rw [e2] at c2
            have hl : ¬ t < 0 := fun z => by
              rw [Int32.lt_iff_toInt_lt, nI_toInt (by omega)] at c1
              rw [Int32.lt_iff_toInt_lt, show (0 : Int32).toInt = 0 from by decide] at z
              omega
            obtain ⟨s, hs, rfl⟩ := slot_ix hl c2 (by omega)
            have u1 := (nI_ltI (by omega) (by omega)).mp c1
            exact go_push h0 h4 (gd_cut h.1.1 h.1.2 hB (lo_lt e) hq e1 e2 u1 hs e4 e5)
        · rw [decide_eq_false c2, if_pos (by decide)]; exact h0
      · rw [decide_eq_false c1, if_pos (by decide)]; exact h0
    · rw [oSplit_no (Or.inr (by simpa using c))]
      exact h0
theorem go_set {B : Nat} {S : StV} {s x : Int32} (h : goS B S) (h4 : qN S ≤ 4) : goS B (oSet S s x).2 := by
  unfold oSet
  by_cases c1 : ¬ s = 0
  · rw [if_pos c1]; exact h
  · rw [if_neg c1]
    by_cases c2 : x < 0
    · rw [if_pos c2]; exact h
    · rw [if_neg c2]
      by_cases c3 : 2 < x
      · rw [if_pos c3]; exact h
      · rw [if_neg c3]
        by_cases c4 : x = vRu (qC S)
        · rw [if_pos c4]; exact h
        · rw [if_neg c4]
          refine go_push h h4 (gd_ru h.1.1 h.1.2 ?_)
          have d1 : dirB x = true := by
            rw [← dirB_W]
            unfold inW
            rw [decide_eq_false c2, decide_eq_false c3]
            rfl
          obtain ⟨e, he, rfl⟩ := dir_ix d1
          rcases (show e = 0 ∨ e = 1 ∨ e = 2 by omega) with rfl | rfl | rfl
          · exact Or.inl rfl
          · exact Or.inr (Or.inl rfl)
          · exact Or.inr (Or.inr rfl)
theorem go_type {B : Nat} {S : StV} {x : Int32} (h : goS B S) : goS B (oType S x).2 := by
  unfold oType
  split
  · exact h
  · exact h
theorem go_clear {B : Nat} {S : StV} (h : goS B S) : goS B (oClear S).2 := h
theorem go_aaF {vs : Nat → Int32} : ∀ {m i B : Nat} {w u : SpV} {r : Int32}, goV B w → B + m < 2 ^ 31 → aaF vs m i w = (r, some u) → goV (B + m) u
  | 0, i, B, w, u, r, h, _, e => by
    rw [aaF] at e
    injection e with e1 e2
    injection e2 with e2
    rw [← e2]
    exact h
  | m + 1, i, B, w, u, r, h, hB, e => by
    rw [aaF] at e
    by_cases c : ent6 w vs i = true
    · rw [if_pos c] at e
      have := go_aaF (B := B + 1) (gd_ent h.1 h.2 (by omega) c) (by omega) e
      rw [show B + (m + 1) = B + 1 + m by omega]
      exact this
    · rw [if_neg c] at e
      injection e with e1 e2
      cases e2
theorem go_addAll {B : Nat} {S : StV} (h : goS B S) (h4 : qN S ≤ 4) (hB : B + 100 < 2 ^ 31) (ht : txB S ≤ 16) : goS (B + 16) (oAddAll S).2 := by
  have h0 : goS (B + 16) S := goS_up h (by omega)
  unfold oAddAll
  by_cases c : rdF (qT S) (qL S) = -1
  · rw [if_pos c]
    cases e : aaF (txV S) (txB S) 0 (qC S) with
    | mk r o =>
      cases o with
      | none => exact h0
      | some w => exact go_push h0 h4 (goV_up (go_aaF h.1 (by omega) e) (by omega))
  · rw [if_neg c]
    exact h0
