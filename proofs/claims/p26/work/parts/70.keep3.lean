/-! PURE: moving and falling keep the space good -/
theorem shV_k {v : SpV} {k e : Nat} {x : Int32} (d : Nat) : vLo (shV v k e x) k d = (if d = e then vLo v k d + x else vLo v k d) ∧ vHi (shV v k e x) k d = (if d = e then vHi v k d + x else vHi v k d) := by
  rw [shV_lo, shV_hi]
  by_cases c : d = e
  · simp [c]
  · simp [c]
theorem gd_move {v : SpV} {k e B : Nat} {x : Int32} (hg : gdV v) (hu : nuV B v) (hk : k < vN v) (he : e < 3) (r1 : ¬ x < -(vLo v k e)) (r2 : ¬ 32 - vHi v k e < x) (hc : mvCut v k e x = false) : gdV (shV v k e x) ∧ nuV B (shV v k e x) := by
  obtain ⟨a, b, e1, e2, e3, e4, e5⟩ := hg.2.2.1 k hk e he
  rw [e1, Int32.lt_iff_toInt_lt, neg_toInt (by omega)] at r1
  rw [e2, show (32 : Int32) = nI 32 from rfl, nI_subR e4, Int32.lt_iff_toInt_lt, nI_toInt (by omega)] at r2
  have g : ∀ q : Nat, q ≤ 32 → 0 ≤ (q : Int) + x.toInt → (q : Int) + x.toInt ≤ 64 → nI q + x = nI ((q : Int) + x.toInt).toNat := fun q h1 h2 h3 => Int32.toInt_inj.mp (by
    rw [Int32.toInt_add, nI_toInt (by omega), nI_toInt (by omega), Int.bmod_def]
    omega)
  refine gd_shf (a := ((a : Int) + x.toInt).toNat) (b := ((b : Int) + x.toInt).toNat) hg hu hk he (by rw [e1]; exact g a (by omega) (by omega) (by omega)) (by rw [e2]; exact g b (by omega) (by omega) (by omega)) (by omega) (by omega) (by omega) (fun j hj hjk => ?_)
  have ne : vLo (shV v k e x) j = vLo v j ∧ vHi (shV v k e x) j = vHi v j := ⟨funext (fun d => by rw [shV_lo, if_neg (fun z => hjk z.1)]), funext (fun d => by rw [shV_hi, if_neg (fun z => hjk z.1)])⟩
  cases q : ctBx (vLo v j) (vHi v j) (vLo (shV v k e x) k) (vHi (shV v k e x) k) with
  | false => rfl
  | true =>
    have : mvCut v k e x = true := anyb_t (k := j) (by rw [ne.1, ne.2, q, decide_eq_false hjk]; rfl) hj
    rw [this] at hc
    cases hc
theorem gr_ge {v : SpV} {k : Nat} (hg : gdV v) (hk : k < vN v) : ∀ {n j : Nat}, n ≤ vN v → j < n → beB (vLo v j) (vHi v j) (vLo v k) (vHi v k) = true → ¬ grG (vLo v) (vHi v) k n < vHi v j 2
  | 0, j, _, hj, _ => absurd hj (Nat.not_lt_zero j)
  | n + 1, j, hn, hj, h => by
    rw [grG]
    by_cases e : j = n
    · subst e
      rw [if_pos h]
      split
      · exact Int32.lt_irrefl
      · assumption
    · have ih := gr_ge hg hk (n := n) (j := j) (by omega) (by omega) h
      by_cases c : beB (vLo v n) (vHi v n) (vLo v k) (vHi v k) = true
      · rw [if_pos c]
        split
        · rename_i d
          intro z
          exact ih (Int32.lt_trans d z)
        · exact ih
      · rw [if_neg c]
        exact ih
theorem gd_fall {v : SpV} {k B : Nat} (hg : gdV v) (hu : nuV B v) (hk : k < vN v) : gdV (shV v k 2 (-(vLo v k 2 - grG (vLo v) (vHi v) k (vN v)))) ∧ nuV B (shV v k 2 (-(vLo v k 2 - grG (vLo v) (vHi v) k (vN v)))) := by
  obtain ⟨a, b, e1, e2, e3, e4, e5⟩ := hg.2.2.1 k hk 2 (by omega)
  obtain ⟨g, hga, eg⟩ := gr_nat hg hk e1 (by omega) (vN v) (Nat.le_refl _)
  have ex : -(vLo v k 2 - grG (vLo v) (vHi v) k (vN v)) = -(nI (a - g)) := by rw [e1, eg, nI_subR hga]
  have l1 : vLo v k 2 + -(vLo v k 2 - grG (vLo v) (vHi v) k (vN v)) = nI g := by
    rw [ex, e1, ← Int32.sub_eq_add_neg, nI_subR (by omega)]
    congr 1
    omega
  have l2 : vHi v k 2 + -(vLo v k 2 - grG (vLo v) (vHi v) k (vN v)) = nI (b - (a - g)) := by
    rw [ex, e2, ← Int32.sub_eq_add_neg, nI_subR (by omega)]
  refine gd_shf hg hu hk (by omega) l1 l2 (by omega) (by omega) (by omega) (fun j hj hjk => ?_)
  generalize hx : -(vLo v k 2 - grG (vLo v) (vHi v) k (vN v)) = x at l1 l2
  cases q : ctBx (vLo v j) (vHi v j) (vLo (shV v k 2 x) k) (vHi (shV v k 2 x) k) with
  | false => rfl
  | true =>
    exfalso
    have y := (ct_iff _ _ _ _).mp q
    have s0 := shV_k (v := v) (k := k) (e := 2) (x := x) 0
    have s1 := shV_k (v := v) (k := k) (e := 2) (x := x) 1
    have s2 := shV_k (v := v) (k := k) (e := 2) (x := x) 2
    rw [if_neg (by omega), if_neg (by omega)] at s0 s1
    rw [if_pos rfl, if_pos rfl, l1, l2] at s2
    have y0 := y 0 (by omega)
    have y1 := y 1 (by omega)
    have y2 := y 2 (by omega)
    rw [s0.1, s0.2] at y0
    rw [s1.1, s1.2] at y1
    rw [s2.1, s2.2] at y2
    obtain ⟨p, r, f1, f2, f3, f4, f5⟩ := hg.2.2.1 j hj 2 (by omega)
    rw [f1, f2, nI_ltI (by omega) (by omega), nI_ltI (by omega) (by omega)] at y2
    -- before the fall it was above or below
    have nc := hg.2.2.2 j k hj hk hjk
    by_cases c : a < r
    · have : ctBx (vLo v j) (vHi v j) (vLo v k) (vHi v k) = true := (ct_iff _ _ _ _).mpr (fun d hd => by
        rcases (show d = 0 ∨ d = 1 ∨ d = 2 by omega) with rfl | rfl | rfl
        · exact y0
        · exact y1
        · rw [f1, f2, e1, e2]
          exact ⟨nI_lt (by omega) (by omega), nI_lt c (by omega)⟩)
      rw [this] at nc
      cases nc
    · have hb : beB (vLo v j) (vHi v j) (vLo v k) (vHi v k) = true := by
        unfold beB mtB
        rw [decide_eq_true y0.1, decide_eq_true y0.2, decide_eq_true y1.1, decide_eq_true y1.2, e1, f2, decide_eq_false (nI_nlt (a := a) (b := r) (by omega) (by omega))]
        rfl
      have := gr_ge hg hk (Nat.le_refl _) hj hb
      rw [eg, f2] at this
      exact this (nI_lt y2.2 (by omega))
