/-! PURE: what the calls keep -/
theorem gd_ru {v : SpV} {x : Int32} {B : Nat} (hg : gdV v) (hu : nuV B v) (h : x = 0 ∨ x = 1 ∨ x = 2) : gdV (ruV v x) ∧ nuV B (ruV v x) := ⟨⟨hg.1, h, hg.2.2.1, hg.2.2.2⟩, hu⟩
theorem gd_rm {v : SpV} {k B : Nat} (hg : gdV v) (hu : nuV B v) (hk : k < vN v) : gdV (rmV v k) ∧ nuV B (rmV v k) := by
  have hm : vN (rmV v k) = vN v - 1 := rfl
  have lt : ∀ j, j < vN v - 1 → mvI k (vN v - 1) j < vN v := fun j hj => by
    have := mv_ne (k := k) hj (by omega)
    omega
  obtain ⟨M, m1, m2, m3⟩ := hu
  refine ⟨⟨fun i j hij hj => ?_, hg.2.1, fun j hj d hd => ?_, fun i j hi hj hij => ?_⟩, M, m1, m2, fun j hj => ?_⟩
  · rw [hm] at hj
    exact hg.1 _ _ (mv_mono hij hj) (lt j hj)
  · rw [hm] at hj
    exact hg.2.2.1 _ (lt j hj) d hd
  · rw [hm] at hi hj
    refine hg.2.2.2 _ _ (lt i hi) (lt j hj) (fun z => ?_)
    rcases Nat.lt_trichotomy i j with c | c | c
    · have := mv_mono (k := k) c hj
      omega
    · exact hij c
    · have := mv_mono (k := k) c hi
      omega
  · rw [hm] at hj
    exact m3 _ (lt j hj)
theorem gd_ent {v : SpV} {B : Nat} {x y z a b c : Int32} (hg : gdV v) (hu : nuV B v) (hB : B + 1 < 2 ^ 31) (h : entOk v x y z a b c = true) : gdV (entV v x y z a b c) ∧ nuV (B + 1) (entV v x y z a b c) := by
  obtain ⟨M, m1, m2, m3⟩ := hu
  have hm : vN (entV v x y z a b c) = vN v + 1 := rfl
  unfold entOk at h
  simp only [Bool.and_eq_true, Bool.not_eq_true', decide_eq_false_iff_not] at h
  obtain ⟨⟨h1, h2⟩, h3⟩ := h
  have nr : ∀ f s : Int32, inRg f s = true → ∃ p q : Nat, f = nI p ∧ f + s = nI q ∧ p < q ∧ q ≤ 32 ∧ q ≤ p + 12 := fun f s hr => by
    unfold inRg at hr
    simp only [Bool.and_eq_true, Bool.not_eq_true', decide_eq_false_iff_not] at hr
    obtain ⟨⟨⟨⟨r1, r2⟩, r3⟩, r4⟩, r5⟩ := hr
    have e1 := Int32.lt_iff_toInt_lt (x := f) (y := 0)
    have e2 := Int32.lt_iff_toInt_lt (x := 31) (y := f)
    have e3 := Int32.lt_iff_toInt_lt (x := s) (y := 1)
    have e4 := Int32.lt_iff_toInt_lt (x := 12) (y := s)
    rw [show (0 : Int32).toInt = 0 from by decide] at e1
    rw [show (31 : Int32).toInt = 31 from by decide] at e2
    rw [show (1 : Int32).toInt = 1 from by decide] at e3
    rw [show (12 : Int32).toInt = 12 from by decide] at e4
    have f1 := mt e1.mpr r1
    have f2 := mt e2.mpr r2
    have f3 := mt e3.mpr r3
    have f4 := mt e4.mpr r4
    have g1 : f = nI f.toInt.toNat := Int32.toInt_inj.mp (by rw [nI_toInt (by omega)]; omega)
    have g2 : s = nI s.toInt.toNat := Int32.toInt_inj.mp (by rw [nI_toInt (by omega)]; omega)
    have g3 : f + s = nI (f.toInt.toNat + s.toInt.toNat) := by rw [← nI_add, ← g1, ← g2]
    refine ⟨f.toInt.toNat, f.toInt.toNat + s.toInt.toNat, g1, g3, by omega, ?_, by omega⟩
    rw [g3] at r5
    have := mt (nI_ltI (a := 32) (b := f.toInt.toNat + s.toInt.toNat) (by omega) (by omega)).mpr r5
    omega
  unfold entR at h1
  simp only [Bool.and_eq_true] at h1
  have cut : ∀ k, k < vN v → ctBx (vLo v k) (vHi v k) (v3 x y z) (v3 (x + a) (y + b) (z + c)) = false := fun k hk => by
    cases e : ctBx (vLo v k) (vHi v k) (v3 x y z) (v3 (x + a) (y + b) (z + c)) with
    | false => rfl
    | true =>
      have : entCut v x y z a b c = true := anyb_t (k := k) e hk
      rw [this] at h2
      cases h2
  have lo : ∀ j, vLo (entV v x y z a b c) j = if j = vN v then v3 x y z else vLo v j := fun _ => rfl
  have hi : ∀ j, vHi (entV v x y z a b c) j = if j = vN v then v3 (x + a) (y + b) (z + c) else vHi v j := fun _ => rfl
  have nu : ∀ j, vNu (entV v x y z a b c) j = if j = vN v then vX v else vNu v j := fun _ => rfl
  refine ⟨⟨fun i j hij hj => ?_, hg.2.1, fun j hj d hd => ?_, fun i j hi2 hj hij => ?_⟩, M + 1, by show vX v + 1 = _; rw [m1, nI_1], by omega, fun j hj => ?_⟩
  · rw [hm] at hj
    rw [nu, nu, if_neg (by omega)]
    by_cases e : j = vN v
    · rw [if_pos e, m1]
      obtain ⟨q, q1, q2⟩ := m3 i (by omega)
      rw [q2]
      intro w
      have := (nI_eq (by omega) (by omega)).mp w
      omega
    · rw [if_neg e]
      exact hg.1 i j hij (by omega)
  · rw [hm] at hj
    rw [lo, hi]
    by_cases e : j = vN v
    · rw [if_pos e, if_pos e]
      rcases (show d = 0 ∨ d = 1 ∨ d = 2 by omega) with rfl | rfl | rfl
      · exact nr x a h1.1.1
      · exact nr y b h1.1.2
      · exact nr z c h1.2
    · rw [if_neg e, if_neg e]
      exact hg.2.2.1 j (by omega) d hd
  · rw [hm] at hi2 hj
    rw [lo, lo, hi, hi]
    by_cases e : i = vN v
    · rw [if_pos e, if_pos e, if_neg (by omega), if_neg (by omega), ctBx_sym]
      exact cut j (by omega)
    · rw [if_neg e, if_neg e]
      by_cases e2 : j = vN v
      · rw [if_pos e2, if_pos e2]
        exact cut i (by omega)
      · rw [if_neg e2, if_neg e2]
        exact hg.2.2.2 i j (by omega) (by omega) hij
  · rw [hm] at hj
    rw [nu]
    by_cases e : j = vN v
    · rw [if_pos e]
      exact ⟨M, by omega, m1⟩
    · rw [if_neg e]
      obtain ⟨q, q1, q2⟩ := m3 j (by omega)
      exact ⟨q, by omega, q2⟩
