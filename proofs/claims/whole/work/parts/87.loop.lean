/-! THE LAW: its loop -/
theorem nI_sub7 {L : Nat} (h : L ≤ 3584) : (nI L - 7).toInt = (L : Int) - 7 := by
  rw [show (7 : Int32) = nI 7 from rfl]
  exact sub_toIntR (by omega) (by omega)
theorem law_turn {l : Launch} {Γ : GmW} {Ω : Om} {σ : Sg} {S : StV} {B b L i : Nat} {xs : Nat → Int32} (hL : gL Γ = l) (hs : ScL Γ b L xs) (hi : i + 7 ≤ L) (hB : B + 200 < 2 ^ 30) (h : ivB B σ S) (go : ∀ σ2 S2, ivB (B + 16) σ2 S2 → AtW mL Γ Ω σ2 749 (lvL Ω b i) []) : AtW mL Γ Ω σ 27 (lvL Ω b i) [] := by
  refine r_aload_n dL_law_27 rfl ?_
  refine r_iload_n dL_law_28 rfl ?_
  refine r_sld hs.1 hs.2.1 hs.2.2.1 i rfl (by omega) hs.2.2.2 dL_law_29 ?_
  refine r_bipush 31 dL_law_30 (by decide) ?_
  refine r_iand dL_law_32 ?_
  obtain ⟨k, hk, e⟩ := and31 (xs i)
  rw [e]
  have hk2 : (nI k).toInt = (k : Int) := nI_toInt (by omega)
  by_cases c : k < 23
  · have hd := dL_law_33
    rcases (show k = 0 ∨ k = 1 ∨ k = 2 ∨ k = 3 ∨ k = 4 ∨ k = 5 ∨ k = 6 ∨ k = 7 ∨ k = 8 ∨ k = 9 ∨ k = 10 ∨ k = 11 ∨ k = 12 ∨ k = 13 ∨ k = 14 ∨ k = 15 ∨ k = 16 ∨ k = 17 ∨ k = 18 ∨ k = 19 ∨ k = 20 ∨ k = 21 ∨ k = 22 by omega) with rfl | rfl | rfl | rfl | rfl | rfl | rfl | rfl | rfl | rfl | rfl | rfl | rfl | rfl | rfl | rfl | rfl | rfl | rfl | rfl | rfl | rfl | rfl
    · exact r_tableIn 107 140 hd (by decide) (by decide) (by decide) (by decide) (lc_add hL hs hi hB h go)
    · exact r_tableIn 182 215 hd (by decide) (by decide) (by decide) (by decide) (lc_remove hL hs hi hB h go)
    · exact r_tableIn 205 238 hd (by decide) (by decide) (by decide) (by decide) (lc_move hL hs hi hB h go)
    · exact r_tableIn 248 281 hd (by decide) (by decide) (by decide) (by decide) (lc_fall hL hs hi hB h go)
    · exact r_tableIn 271 304 hd (by decide) (by decide) (by decide) (by decide) (lc_split hL hs hi hB h go)
    · exact r_tableIn 314 347 hd (by decide) (by decide) (by decide) (by decide) (lc_breakRing hL hs hi hB h go)
    · exact r_tableIn 327 360 hd (by decide) (by decide) (by decide) (by decide) (lc_turn hL hs hi hB h go)
    · exact r_tableIn 340 373 hd (by decide) (by decide) (by decide) (by decide) (lc_set hL hs hi hB h go)
    · exact r_tableIn 373 406 hd (by decide) (by decide) (by decide) (by decide) (lc_type hL hs hi hB h go)
    · exact r_tableIn 398 431 hd (by decide) (by decide) (by decide) (by decide) (lc_clearText hL hs hi hB h go)
    · exact r_tableIn 411 444 hd (by decide) (by decide) (by decide) (by decide) (lc_addAll hL hs hi hB h go)
    · exact r_tableIn 424 457 hd (by decide) (by decide) (by decide) (by decide) (lc_undo hL hs hi hB h go)
    · exact r_tableIn 437 470 hd (by decide) (by decide) (by decide) (by decide) (lc_keep hL hs hi hB h go)
    · exact r_tableIn 450 483 hd (by decide) (by decide) (by decide) (by decide) (lc_restore hL hs hi hB h go)
    · exact r_tableIn 463 496 hd (by decide) (by decide) (by decide) (by decide) (lc_box hL hs hi hB h go)
    · exact r_tableIn 486 519 hd (by decide) (by decide) (by decide) (by decide) (lc_end hL hs hi hB h go)
    · exact r_tableIn 545 578 hd (by decide) (by decide) (by decide) (by decide) (lc_ofBox hL hs hi hB h go)
    · exact r_tableIn 578 611 hd (by decide) (by decide) (by decide) (by decide) (lc_pair hL hs hi hB h go)
    · exact r_tableIn 611 644 hd (by decide) (by decide) (by decide) (by decide) (lc_drawn hL hs hi hB h go)
    · exact r_tableIn 634 667 hd (by decide) (by decide) (by decide) (by decide) (lc_total hL hs hi hB h go)
    · exact r_tableIn 657 690 hd (by decide) (by decide) (by decide) (by decide) (lc_waitsFor hL hs hi hB h go)
    · exact r_tableIn 680 713 hd (by decide) (by decide) (by decide) (by decide) (lc_breaks hL hs hi hB h go)
    · exact r_tableIn 693 726 hd (by decide) (by decide) (by decide) (by decide) (lc_drawnWithout hL hs hi hB h go)
  · exact r_tableOut 749 dL_law_33 (Or.inr (by rw [hk2]; omega)) (by decide) (go σ S ⟨h.1, h.2.1, goS_up h.2.2 (by omega)⟩)
theorem law_loop {l : Launch} {Γ : GmW} {Ω : Om} {b L : Nat} {xs : Nat → Int32} (hL : gL Γ = l) (hs : ScL Γ b L xs) (fin : ∀ σ i, AtW mL Γ Ω σ 755 (lvL Ω b i) []) : ∀ n i σ S B, i ≤ 3584 → L ≤ i + 7 * n → B + 16 * n < 2 ^ 29 → ivB B σ S → AtW mL Γ Ω σ 18 (lvL Ω b i) []
  | n, i, σ, S, B, hi0, hn, hB, h => by
    have hL4 : L ≤ 3584 := hs.2.2.2
    refine r_iload_n dL_law_18 rfl ?_
    refine r_aload_n dL_law_19 rfl ?_
    refine r_slen hs.1 hs.2.1 hs.2.2.1 dL_law_20 ?_
    refine r_bipush 7 dL_law_21 (by decide) ?_
    refine r_isub dL_law_23 ?_
    have e1 := nI_sub7 hL4
    have e2 : (nI i).toInt = (i : Int) := nI_toInt (by omega)
    refine r_icmp_gt 755 dL_law_24 (by decide) (fun _ => fin σ i) (fun q => ?_)
    have hi : i + 7 ≤ L := by
      rw [Int32.lt_iff_toInt_lt, e1, e2] at q
      omega
    cases n with
    | zero => omega
    | succ n =>
      refine law_turn hL hs hi (by omega) h (fun σ2 S2 h2 => ?_)
      refine r_iinc (nI (i + 7)) dL_law_749 rfl (by
        show nI i + nI 7 = nI (i + 7)
        exact nI_add i 7) (by decide) rfl ?_
      refine r_goto 18 dL_law_752 (by decide) ?_
      exact law_loop hL hs fin n (i + 7) σ2 S2 (B + 16) (by omega) (by omega) (by omega) h2
