/-! THE LAW: the tables at its start -/
theorem kn_start {s : State} {b : Nat} (hts : ∀ w ∈ lw_tbl, w.before #[Value.ref b] s = true) : ∃ (D : va_G) (ci : Nat → ClassId), KnT (D, ci, fun _ => 0) s := by
  obtain ⟨c0, t0, n0⟩ := u_known (C := RX0) (T := TX0) (N := 3) (n := 3) hts wsL_inX0 (hts (.instantiable RX0 3) (List.mem_of_getElem? (i := 41) (by decide +kernel)))
  obtain ⟨c1, t1, n1⟩ := u_known (C := RX1) (T := TX1) (N := 2) (n := 2) hts wsL_inX1 (hts (.instantiable RX1 2) (List.mem_of_getElem? (i := 87) (by decide +kernel)))
  obtain ⟨c2, t2, n2⟩ := u_known (C := RX2) (T := TX2) (N := 7) (n := 7) hts wsL_inX2 (hts (.instantiable RX2 7) (List.mem_of_getElem? (i := 123) (by decide +kernel)))
  obtain ⟨c3, t3, n3⟩ := u_known (C := RX3) (T := TX3) (N := 5) (n := 5) hts wsL_inX3 (hts (.instantiable RX3 5) (List.mem_of_getElem? (i := 34) (by decide +kernel)))
  obtain ⟨c4, t4, n4⟩ := u_known (C := RX4) (T := TX4) (N := 4) (n := 4) hts wsL_inX4 (hts (.instantiable RX4 4) (List.mem_of_getElem? (i := 104) (by decide +kernel)))
  obtain ⟨c5, t5, n5⟩ := u_known (C := RX5) (T := TX5) (N := 9) (n := 9) hts wsL_inX5 (hts (.instantiable RX5 9) (List.mem_of_getElem? (i := 26) (by decide +kernel)))
  obtain ⟨ai, ki, mi, a1, a2, a3⟩ := Cond.arrayClass_spec (hts (.arrayClass .int) (List.mem_of_getElem? (i := 62) (by decide +kernel)))
  obtain ⟨ac, kc, mc, d1, d2, d3⟩ := Cond.arrayClass_spec (hts (.arrayClass .char) (List.mem_of_getElem? (i := 121) (by decide +kernel)))
  have hB := hts (.arrayOver (.object RX0)) (List.mem_of_getElem? (i := 40) (by decide +kernel))
  have hS := hts (.arrayOver (.object RX3)) (List.mem_of_getElem? (i := 93) (by decide +kernel))
  obtain ⟨mB, aB, kB, e1, e2, e3, e4, e5⟩ := Cond.arrayOver_spec hB
  obtain ⟨mS, aS, kS, f1, f2, f3, f4, f5⟩ := Cond.arrayOver_spec hS
  refine ⟨(fun k => match k with | 0 => c0 | 1 => c1 | 2 => c2 | 3 => c3 | 4 => c4 | _ => c5, fun k => match k with | 0 => t0 | 1 => t1 | 2 => t2 | 3 => t3 | 4 => t4 | _ => t5), fun k => match k with | 0 => ai | 1 => aB | 2 => aS | _ => ac, ⟨fun k q hq => ?_, fun k q hq => ?_⟩, va_Nw.of rfl (hts _ (List.mem_of_getElem? (i := 42) (by decide +kernel))), va_Nw.of rfl (hts _ (List.mem_of_getElem? (i := 105) (by decide +kernel))), va_Nw.of rfl (hts _ (List.mem_of_getElem? (i := 124) (by decide +kernel))), va_Nw.of rfl (hts _ (List.mem_of_getElem? (i := 153) (by decide +kernel))), va_AO.of hB, va_AO.of hS⟩
  · match k, hq with
    | 0, hq => cases hq; exact n0
    | 1, hq => cases hq; exact n1
    | 2, hq => cases hq; exact n2
    | 3, hq => cases hq; exact n3
    | 4, hq => cases hq; exact n4
    | 5, hq => cases hq; exact n5
    | k + 6, hq => simp [vwCl] at hq
  · match k, hq with
    | 0, hq => cases hq; exact ⟨fun n z => ⟨fun k h => (by cases h), ki, a2, mi, a3⟩, a1⟩
    | 1, hq => cases hq; exact ⟨fun n z => ⟨fun k h => (by cases h), kB, e3, mB, e4⟩, kB, mB, e3, e4, e1, e5⟩
    | 2, hq => cases hq; exact ⟨fun n z => ⟨fun k h => (by cases h), kS, f3, mS, f4⟩, kS, mS, f3, f4, f1, f5⟩
    | 3, hq => cases hq; exact ⟨fun n z => ⟨fun k h => (by cases h), kc, d2, mc, d3⟩, d1⟩
    | k + 4, hq => simp [tysO] at hq
/-! THE LAW: its object -/
theorem inlX5 : ∀ w ∈ wsX50, w ∈ wsL_law := fun _ h => List.mem_append_left _ (List.mem_append_left _ (List.mem_append_left _ (List.mem_append_left _ (List.mem_append_left _ (List.mem_append_left _ (List.mem_append_right _ h))))))
theorem inlI : Cond.arrayClass .int ∈ wsL_law := List.mem_append_left _ (List.mem_append_left _ (List.mem_append_left _ (List.mem_append_left _ (List.mem_append_left _ (List.mem_append_left _ (List.mem_append_left _ (List.mem_append_left _ (List.mem_of_getElem? (l := wsL_law_r1) (i := 3) rfl))))))))
theorem qL_X5 : NwT mL_law 10 RX5 TX5 9 5 tyX5 [.null, .null, .null, .int 0, .null, .null, .null, .null, .null] := ⟨inlX5, tyX5_ok, by decide +kernel, by decide +kernel, by decide +kernel, rfl, fun j hj => by rcases (show j = 0 ∨ j = 1 ∨ j = 2 ∨ j = 3 ∨ j = 4 ∨ j = 5 ∨ j = 6 ∨ j = 7 ∨ j = 8 by omega) with rfl | rfl | rfl | rfl | rfl | rfl | rfl | rfl | rfl <;> rfl⟩
theorem uL_X5 : NwI mL_law yX5_init wsX5_init (rmN 4 120 368 1437) 368 1437 := ⟨cX5_init, 1, _, ggL_law_X5_init, rfl, rfl, rfl, by decide +kernel, by decide +kernel, rfl, by decide +kernel, ⟨Nat.le_of_ble_eq_true rfl, Nat.le_of_ble_eq_true rfl⟩⟩
