/-! REFERENCE: what breaking keeps -/
def nuV (B : Nat) (v : SpV) : Prop := ∃ M, vX v = nI M ∧ M ≤ B ∧ ∀ k, k < vN v → ∃ a, a < M ∧ vNu v k = nI a
theorem ct_iff (l1 h1 l2 h2 : V3) : ctBx l1 h1 l2 h2 = true ↔ ∀ d, d < 3 → l1 d < h2 d ∧ l2 d < h1 d := by
  unfold ctBx mtB
  simp only [Bool.and_eq_true, decide_eq_true_eq]
  constructor
  · rintro ⟨⟨a, b⟩, c⟩ d hd
    rcases (show d = 0 ∨ d = 1 ∨ d = 2 by omega) with rfl | rfl | rfl
    · exact a
    · exact b
    · exact c
  · intro h
    exact ⟨⟨h 0 (by omega), h 1 (by omega)⟩, h 2 (by omega)⟩
theorem ct_mono {l1 h1 l2 h2 m1 g1 m2 g2 : V3} (a : ∀ d, d < 3 → m1 d ≤ l1 d) (b : ∀ d, d < 3 → h1 d ≤ g1 d) (c : ∀ d, d < 3 → m2 d ≤ l2 d) (e : ∀ d, d < 3 → h2 d ≤ g2 d) (h : ctBx m1 g1 m2 g2 = false) : ctBx l1 h1 l2 h2 = false := by
  cases q : ctBx l1 h1 l2 h2 with
  | false => rfl
  | true =>
    have q2 := (ct_iff _ _ _ _).mp q
    have : ctBx m1 g1 m2 g2 = true := (ct_iff _ _ _ _).mpr (fun d hd => by
      have x := q2 d hd
      have y1 := a d hd
      have y2 := b d hd
      have y3 := c d hd
      have y4 := e d hd
      simp only [Int32.lt_iff_toInt_lt, Int32.le_iff_toInt_le] at *
      omega)
    rw [this] at h
    cases h
theorem gd_cut {v : SpV} {B k e a b t : Nat} (hg : gdV v) (hu : nuV B v) (hB : B + 1 < 2 ^ 31) (hk : k < vN v) (he : e < 3) (h1 : vLo v k e = nI a) (h2 : vHi v k e = nI b) (h3 : a < t) (h4 : t < b) (h5 : b ≤ 32) (h6 : b ≤ a + 12) : gdV (cutV v k e (nI t)) ∧ nuV (B + 1) (cutV v k e (nI t)) := by
  obtain ⟨M, m1, m2, m3⟩ := hu
  obtain ⟨g1, g2, g3, g4⟩ := hg
  have cl : ∀ j d, vLo (cutV v k e (nI t)) j d = if j = vN v then (if d = e then nI t else vLo v k d) else vLo v j d := cutV_lo v k e (nI t)
  have ch : ∀ j d, vHi (cutV v k e (nI t)) j d = if j = vN v then vHi v k d else if j = k ∧ d = e then nI t else vHi v j d := cutV_hi v k e (nI t)
  have cn : ∀ j, vNu (cutV v k e (nI t)) j = if j = vN v then vX v else vNu v j := cutV_nu v k e (nI t)
  have c1 : vN (cutV v k e (nI t)) = vN v + 1 := rfl
  have lt1 : nI a ≤ nI t := nI_le (by omega) (by omega)
  have lt2 : nI t ≤ nI b := nI_le (by omega) (by omega)
  -- each box of the cut space lies in one of the old
  have up1 : ∀ j, j < vN v → ∀ d, d < 3 → vLo (cutV v k e (nI t)) j d = vLo v j d ∧ vHi (cutV v k e (nI t)) j d ≤ vHi v j d := fun j hj d hd => by
    rw [cl, ch, if_neg (by omega), if_neg (by omega)]
    refine ⟨rfl, ?_⟩
    by_cases c : j = k ∧ d = e
    · rw [if_pos c, c.1, c.2, h2]
      exact lt2
    · rw [if_neg c]
      exact Int32.le_refl _
  have up2 : ∀ d, d < 3 → vLo v k d ≤ vLo (cutV v k e (nI t)) (vN v) d ∧ vHi (cutV v k e (nI t)) (vN v) d = vHi v k d := fun d hd => by
    rw [cl, ch, if_pos rfl, if_pos rfl]
    refine ⟨?_, rfl⟩
    by_cases c : d = e
    · rw [if_pos c, c, h1]
      exact lt1
    · rw [if_neg c]
      exact Int32.le_refl _
  refine ⟨⟨fun j i hj hi => ?_, g2, fun j hj d hd => ?_, fun j i hj hi hji => ?_⟩, M + 1, by show vX v + 1 = _; rw [m1, nI_1], by omega, fun j hj => ?_⟩
  · rw [c1] at hi
    rw [cn, cn, if_neg (by omega)]
    by_cases c : i = vN v
    · rw [if_pos c, m1]
      obtain ⟨q, q1, q2⟩ := m3 j (by omega)
      rw [q2]
      intro z
      have := (nI_eq (by omega) (by omega)).mp z
      omega
    · rw [if_neg c]
      exact g1 j i hj (by omega)
  · rw [c1] at hj
    rw [cl, ch]
    by_cases c : j = vN v
    · rw [if_pos c, if_pos c]
      by_cases q : d = e
      · rw [if_pos q, q]
        exact ⟨t, b, rfl, h2, h4, h5, by omega⟩
      · rw [if_neg q]
        exact g3 k hk d hd
    · rw [if_neg c, if_neg c]
      by_cases q : j = k ∧ d = e
      · rw [if_pos q, q.1, q.2]
        exact ⟨a, t, h1, rfl, h3, by omega, by omega⟩
      · rw [if_neg q]
        exact g3 j (by omega) d hd
  · rw [c1] at hj hi
    by_cases cj : j = vN v
    · by_cases ci : i = vN v
      · omega
      · by_cases ck : i = k
        · -- the two halves
          subst ck
          cases q : ctBx (vLo (cutV v i e (nI t)) j) (vHi (cutV v i e (nI t)) j) (vLo (cutV v i e (nI t)) i) (vHi (cutV v i e (nI t)) i) with
          | false => rfl
          | true =>
            have x := ((ct_iff _ _ _ _).mp q e he).1
            rw [cl, ch, if_pos cj, if_pos rfl, if_neg ci, if_pos ⟨rfl, rfl⟩] at x
            exact (Int32.lt_irrefl x).elim
        · rw [cj]
          refine ct_mono (fun d hd => (up2 d hd).1) (fun d hd => by rw [(up2 d hd).2]; exact Int32.le_refl _) (fun d hd => by rw [(up1 i (by omega) d hd).1]; exact Int32.le_refl _) (fun d hd => (up1 i (by omega) d hd).2) (g4 k i hk (by omega) (fun q => ck q.symm))
    · by_cases ci : i = vN v
      · by_cases ck : j = k
        · subst ck
          cases q : ctBx (vLo (cutV v j e (nI t)) j) (vHi (cutV v j e (nI t)) j) (vLo (cutV v j e (nI t)) i) (vHi (cutV v j e (nI t)) i) with
          | false => rfl
          | true =>
            have x := ((ct_iff _ _ _ _).mp q e he).2
            rw [cl, ch, if_pos ci, if_pos rfl, if_neg cj, if_pos ⟨rfl, rfl⟩] at x
            exact (Int32.lt_irrefl x).elim
        · rw [ci]
          refine ct_mono (fun d hd => by rw [(up1 j (by omega) d hd).1]; exact Int32.le_refl _) (fun d hd => (up1 j (by omega) d hd).2) (fun d hd => (up2 d hd).1) (fun d hd => by rw [(up2 d hd).2]; exact Int32.le_refl _) (g4 j k (by omega) hk ck)
      · exact ct_mono (fun d hd => by rw [(up1 j (by omega) d hd).1]; exact Int32.le_refl _) (fun d hd => (up1 j (by omega) d hd).2) (fun d hd => by rw [(up1 i (by omega) d hd).1]; exact Int32.le_refl _) (fun d hd => (up1 i (by omega) d hd).2) (g4 j i (by omega) (by omega) hji)
  · rw [c1] at hj
    rw [cn]
    by_cases c : j = vN v
    · rw [if_pos c, m1]
      exact ⟨M, by omega, rfl⟩
    · rw [if_neg c]
      obtain ⟨q, q1, q2⟩ := m3 j (by omega)
      exact ⟨q, by omega, q2⟩
theorem half_nI : ∀ s : Fin 13, nI s.val / 2 = nI (s.val / 2) := by decide +kernel
theorem gd_br {v : SpV} {B k : Nat} (hg : gdV v) (hu : nuV B v) (hB : B + 1 < 2 ^ 31) (hk : k < vN v) (h : 1 < szG (vLo v) (vHi v) k (brD v k)) : gdV (brV v k) ∧ nuV (B + 1) (brV v k) := by
  obtain ⟨a, b, e1, e2, e3, e4, e5⟩ := hg.2.2.1 k hk (brD v k) (brD_lt v k)
  have es : szG (vLo v) (vHi v) k (brD v k) = nI (b - a) := by
    unfold szG
    rw [e1, e2, nI_subR (by omega)]
  rw [es] at h
  have h2 : 1 < b - a := (nI_ltI (a := 1) (b := b - a) (by omega) (by omega)).mp h
  have eh : nI (b - a) / 2 = nI ((b - a) / 2) := half_nI ⟨b - a, by omega⟩
  have et : vLo v k (brD v k) + szG (vLo v) (vHi v) k (brD v k) / 2 = nI (a + (b - a) / 2) := by rw [es, e1, eh, nI_add]
  have := gd_cut (t := a + (b - a) / 2) hg hu hB hk (brD_lt v k) e1 e2 (by omega) (by omega) e4 e5
  rw [← et] at this
  exact this
theorem md_back {σ σ1 : Sg} {S : StV} (h : isMd σ S) (hk : ∀ q, q ≠ 370 → q ≠ 371 → q ≠ 375 → q ≠ 376 → σ1 q = σ q) (hz : isZ (σ1 370) (qC S)) : isMd σ1 S ∧ keepLw σ σ1 := by
  obtain ⟨h1, h2, h3, h4⟩ := h
  refine ⟨⟨hz, ?_, ?_, ?_⟩, fun q hq => hk q (by omega) (by omega) (by omega) (by omega)⟩
  · unfold hsM
    rw [hk 369 (by omega) (by omega) (by omega) (by omega), hk 372 (by omega) (by omega) (by omega) (by omega)]
    exact h2
  · unfold snM
    rw [hk 369 (by omega) (by omega) (by omega) (by omega), hk 373 (by omega) (by omega) (by omega) (by omega)]
    exact h3
  · unfold txM
    rw [hk 369 (by omega) (by omega) (by omega) (by omega), hk 374 (by omega) (by omega) (by omega) (by omega)]
    exact h4
/-- b breaks were made, and w is what they left -/
def bkJ (B : Nat) (v : SpV) (b : Nat) (w : SpV) : Prop := vN w = vN v + b ∧ vN w ≤ 16 ∧ gdV w ∧ nuV (B + b) w ∧ bksA v 0 17 = bksA w b (17 - b)
theorem bkJ_s {B b k : Nat} {v w : SpV} (h : bkJ B v b w) (hB : B + 20 < 2 ^ 31) (hk : k < vN w) (h16 : ¬ vN w = 16) (eo : brO w = some (brV w k)) (hs : 1 < szG (vLo w) (vHi w) k (brD w k)) : bkJ B v (b + 1) (brV w k) := by
  obtain ⟨h1, h2, h3, h4, h5⟩ := h
  have g := gd_br h3 h4 (by omega) hk hs
  refine ⟨by show vN w + 1 = _; omega, by show vN w + 1 ≤ 16; omega, g.1, g.2, ?_⟩
  rw [h5, show 17 - b = (17 - (b + 1)) + 1 by omega, bksA, eo]
theorem bkJ_e {B b : Nat} {v w : SpV} (h : bkJ B v b w) (eo : brO w = none) : bksA v 0 17 = if brA w = -5 then nI b else brA w := by
  obtain ⟨h1, h2, h3, h4, h5⟩ := h
  rw [h5, show 17 - b = (16 - b) + 1 by omega, bksA, eo]
