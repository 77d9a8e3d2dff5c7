/-! PURE: what moving and turning keep -/
theorem gd_shf {v : SpV} {k e B a b : Nat} {x : Int32} (hg : gdV v) (hu : nuV B v) (hk : k < vN v) (he : e < 3) (h1 : vLo v k e + x = nI a) (h2 : vHi v k e + x = nI b) (h3 : a < b) (h4 : b ≤ 32) (h5 : b ≤ a + 12) (hc : ∀ j, j < vN v → ¬ j = k → ctBx (vLo v j) (vHi v j) (vLo (shV v k e x) k) (vHi (shV v k e x) k) = false) : gdV (shV v k e x) ∧ nuV B (shV v k e x) := by
  have ne : ∀ j, ¬ j = k → vLo (shV v k e x) j = vLo v j ∧ vHi (shV v k e x) j = vHi v j := fun j hj => by
    refine ⟨funext (fun d => ?_), funext (fun d => ?_)⟩
    · rw [shV_lo, if_neg (fun z => hj z.1)]
    · rw [shV_hi, if_neg (fun z => hj z.1)]
  refine ⟨⟨hg.1, hg.2.1, fun j hj d hd => ?_, fun i j hi hj hij => ?_⟩, hu⟩
  · have hj2 : j < vN v := hj
    rw [shV_lo, shV_hi]
    by_cases c : j = k ∧ d = e
    · rw [if_pos c, if_pos c, c.1, c.2]
      exact ⟨a, b, h1, h2, h3, h4, h5⟩
    · rw [if_neg c, if_neg c]
      exact hg.2.2.1 j hj2 d hd
  · have hi2 : i < vN v := hi
    have hj2 : j < vN v := hj
    by_cases c : i = k
    · have cj : ¬ j = k := fun z => hij (c.trans z.symm)
      rw [(ne j cj).1, (ne j cj).2, c, ctBx_sym]
      exact hc j hj2 cj
    · rw [(ne i c).1, (ne i c).2]
      by_cases cj : j = k
      · rw [cj]
        exact hc i hi2 c
      · rw [(ne j cj).1, (ne j cj).2]
        exact hg.2.2.2 i j hi2 hj2 hij
theorem qt_lt {a b : Nat} (ha : a ≤ 32) (hb : b ≤ 32) : ((32 : Int32) - nI a < 32 - nI b) = (nI b < nI a) := by
  rw [show (32 : Int32) = nI 32 from rfl, nI_subR ha, nI_subR hb]
  refine propext ?_
  rw [nI_ltI (by omega) (by omega), nI_ltI (by omega) (by omega)]
  omega
theorem gd_qt {v : SpV} {B : Nat} (hg : gdV v) (hu : nuV B v) : gdV (qtV v) ∧ nuV B (qtV v) := by
  refine ⟨⟨hg.1, hg.2.1, fun j hj d hd => ?_, fun i j hi hj hij => ?_⟩, hu⟩
  · have hj2 : j < vN v := hj
    rw [qtV_lo, qtV_hi]
    rcases (show d = 0 ∨ d = 1 ∨ d = 2 by omega) with rfl | rfl | rfl
    · obtain ⟨a, b, e1, e2, e3, e4, e5⟩ := hg.2.2.1 j hj2 1 (by omega)
      refine ⟨32 - b, 32 - a, ?_, ?_, by omega, by omega, by omega⟩
      · rw [if_pos rfl, e2, show (32 : Int32) = nI 32 from rfl, nI_subR (by omega)]
      · rw [if_pos rfl, e1, show (32 : Int32) = nI 32 from rfl, nI_subR (by omega)]
    · obtain ⟨a, b, e1, e2, e3⟩ := hg.2.2.1 j hj2 0 (by omega)
      exact ⟨a, b, by rw [if_neg (by omega), if_pos rfl, e1], by rw [if_neg (by omega), if_pos rfl, e2], e3⟩
    · obtain ⟨a, b, e1, e2, e3⟩ := hg.2.2.1 j hj2 2 (by omega)
      exact ⟨a, b, by rw [if_neg (by omega), if_neg (by omega), e1], by rw [if_neg (by omega), if_neg (by omega), e2], e3⟩
  · have hi2 : i < vN v := hi
    have hj2 : j < vN v := hj
    cases q : ctBx (vLo (qtV v) i) (vHi (qtV v) i) (vLo (qtV v) j) (vHi (qtV v) j) with
    | false => rfl
    | true =>
      have x := (ct_iff _ _ _ _).mp q
      obtain ⟨a, b, e1, e2, e3, e4, e5⟩ := hg.2.2.1 i hi2 1 (by omega)
      obtain ⟨a', b', f1, f2, f3, f4, f5⟩ := hg.2.2.1 j hj2 1 (by omega)
      have x0 : (32 - vHi v i 1 < 32 - vLo v j 1 ∧ 32 - vHi v j 1 < 32 - vLo v i 1) := x 0 (by omega)
      have x1 : (vLo v i 0 < vHi v j 0 ∧ vLo v j 0 < vHi v i 0) := x 1 (by omega)
      have x2 : (vLo v i 2 < vHi v j 2 ∧ vLo v j 2 < vHi v i 2) := x 2 (by omega)
      rw [e1, e2, f1, f2, qt_lt (by omega) (by omega), qt_lt (by omega) (by omega)] at x0
      have y : ctBx (vLo v i) (vHi v i) (vLo v j) (vHi v j) = true := (ct_iff _ _ _ _).mpr (fun d hd => by
        rcases (show d = 0 ∨ d = 1 ∨ d = 2 by omega) with rfl | rfl | rfl
        · exact x1
        · rw [e1, e2, f1, f2]
          exact ⟨x0.2, x0.1⟩
        · exact x2)
      rw [hg.2.2.2 i j hi2 hj2 hij] at y
      cases y
