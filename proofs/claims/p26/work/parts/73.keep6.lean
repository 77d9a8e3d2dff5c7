/-! PURE: premises of the class's calls -/
theorem gd_hY {v : SpV} (hg : gdV v) : ∀ k, k < vN v → vLo v k 1 = nI (yA v k) ∧ vHi v k 1 = nI (yA v k + yM v k) ∧ yA v k + yM v k ≤ 64 := fun k hk => by
  obtain ⟨a, b, e1, e2, e3, e4, e5⟩ := hg.2.2.1 k hk 1 (by omega)
  have ya : yA v k = a := by
    unfold yA
    rw [e1, nI_clamp (by omega)]
  have ym : yM v k = b - a := by
    unfold yM
    rw [e1, e2, nI_clamp (by omega), nI_clamp (by omega)]
  rw [ya, ym, show a + (b - a) = b by omega]
  exact ⟨e1, e2, by omega⟩
theorem nu_x0 {v : SpV} {B : Nat} (h : nuV B v) (hB : B < 2 ^ 31) : ¬ vX v < 0 := by
  obtain ⟨M, m1, m2, _⟩ := h
  rw [m1]
  exact nI_pos (by omega)
theorem nu_m0 {v : SpV} {B : Nat} (h : nuV B v) (hB : B < 2 ^ 30) : ∃ m0, m0 < 2 ^ 30 ∧ vX v = nI m0 := by
  obtain ⟨M, m1, m2, _⟩ := h
  exact ⟨M, by omega, m1⟩
theorem tx_16 {S : StV} (hL : qL S ≤ 80) : txB S ≤ 16 := by
  unfold txB
  cases e : rdS (qT S) (qL S) with
  | none => exact Nat.zero_le _
  | some q =>
    have := (rdS_cnt e).2
    simp only
    omega
