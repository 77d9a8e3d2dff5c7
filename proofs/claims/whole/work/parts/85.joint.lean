/-! THE LAW: class and reference side by side -/
/-- both hold the same whole, and it is good within a budget of numbers -/
def ivB (B : Nat) (σ : Sg) (S : StV) : Prop := isC σ S ∧ isMd σ S ∧ goS B S
theorem isV_lw {σ σ1 : Sg} {s : Nat} {v : SpV} (hs : s < 7) (h : isV σ s v) (hk : keepLw σ σ1) : isV σ1 s v := by
  obtain ⟨h0, h1, h2, h3, h4, h5⟩ := h
  have e : σ1 (iS s) = σ (iS s) := hk _ (by unfold iS; omega)
  refine ⟨h0, by rw [e]; exact h1, by rw [e]; exact h2, by rw [e]; exact h3, by rw [e]; exact h4, fun j hj => ?_⟩
  obtain ⟨a, b⟩ := h5 j hj
  refine ⟨by rw [hk (iBo (bx s j)) (by unfold iBo bx; omega)]; exact a, fun d hd => ?_⟩
  rw [hk (iL (bx s j)) (by unfold iL bx; omega), hk (iH (bx s j)) (by unfold iH bx; omega)]
  exact b d hd
theorem isC_kL {σ σ1 : Sg} {S : StV} (h : isC σ S) (hk : keepLw σ σ1) : isC σ1 S := by
  obtain ⟨h1, ⟨pm, h2, h3⟩, h4, h5⟩ := h
  refine ⟨isV_lw (by omega) h1 hk, ⟨pm, hOk_eq h2 (hk _ (by omega)) (hk _ (by omega)), fun i hi => ?_⟩, ?_, ?_⟩
  · have := h2.2.2.1 i (by have := h2.2.1; omega)
    exact isV_lw (by omega) (h3 i hi) hk
  · unfold snaC
    rw [hk 368 (by omega)]
    rcases h4 with ⟨a, v, b, c⟩ | h4
    · exact Or.inl ⟨a, v, b, isV_lw (by omega) c hk⟩
    · exact Or.inr h4
  · unfold txtC
    rw [hk 365 (by omega), hk 366 (by omega)]
    exact h5
theorem isMd_kM {σ σ1 : Sg} {S : StV} (h : isMd σ S) (hk : keepM σ σ1) : isMd σ1 S := by
  obtain ⟨h1, h2, h3, h4⟩ := h
  refine ⟨by rw [hk 370 (by omega)]; exact h1, ?_, ?_, ?_⟩
  · unfold hsM
    rw [hk 369 (by omega), hk 372 (by omega)]
    exact h2
  · unfold snM
    rw [hk 369 (by omega), hk 373 (by omega)]
    exact h3
  · unfold txM
    rw [hk 369 (by omega), hk 374 (by omega)]
    exact h4
theorem isC_n {σ : Sg} {S : StV} (h : isC σ S) : vN (qC S) ≤ 16 := h.1.1
theorem isMd_4 {σ : Sg} {S : StV} (h : isMd σ S) : qN S ≤ 4 := h.2.1.2.1
theorem isMd_80 {σ : Sg} {S : StV} (h : isMd σ S) : qL S ≤ 80 := h.2.2.2.2.1
/-- behind both calls: one answer, one whole -/
theorem iv_step {B : Nat} {σ σ1 σ2 : Sg} {S : StV} {o : Int32 × StV} {r r2 : Int32} (h : ivB B σ S) (h1 : okC σ o r σ1) (h2 : okMd σ1 o r2 σ2) (hg : goS (B + 16) o.2) : r = r2 ∧ ivB (B + 16) σ2 o.2 := ⟨h1.1.trans h2.1.symm, isC_kL h1.2.1 h2.2.2, h2.2.1, hg⟩
/-! the law's rows -/
abbrev mL : MI := (cL_law, RL, wsL_law, 4, room_1, ret)
section LROWS
variable {M : MI} {Γ : GmW} {Ω : Om} {σ : Sg} {pc : Nat} {lv : List (Option Value)} {st : List Value}
theorem r_sld {b L : Nat} {xs : Nat → Int32} (hX : va_X b L xs (gSt Γ) (gSt Γ).heap) (hbl : b < (gSt Γ).heap.size) (hbA : ¬ gA Γ b) {i : Int32} (j : Nat) (hi : i = nI j) (hj : j < L) (hL : L ≤ 3584) (hd : decode (mB M) pc = .ok (.iaload, 1))
    (kk : AtW M Γ Ω σ (pc + 1) lv (.int (xs j) :: st)) : AtW M Γ Ω σ pc lv (.int i :: .ref b :: st) := by
  intro G H locs ls hP hS hl
  subst hi
  refine va_sld G.1 G.2.1 hX hbl hbA hS (vp_in_nI hj (by omega)) hd ?_
  rw [nI_clamp (by omega)]
  exact kk G H locs ls hP hS hl
theorem r_slen {b L : Nat} {xs : Nat → Int32} (hX : va_X b L xs (gSt Γ) (gSt Γ).heap) (hbl : b < (gSt Γ).heap.size) (hbA : ¬ gA Γ b) (hd : decode (mB M) pc = .ok (.arraylength, 1))
    (kk : AtW M Γ Ω σ (pc + 1) lv (.int (nI L) :: st)) : AtW M Γ Ω σ pc lv (.ref b :: st) :=
  fun G H locs ls hP hS hl => va_slen G.1 G.2.1 hX hbl hbA hS hd (kk G H locs ls hP hS hl)
end LROWS
theorem and31 (x : Int32) : ∃ k, k < 32 ∧ x &&& 31 = nI k := by
  refine ⟨(x &&& 31).toBitVec.toNat, ?_, ?_⟩
  · rw [Int32.toBitVec_and, BitVec.toNat_and]
    exact Nat.lt_of_le_of_lt Nat.and_le_right (by decide)
  · refine Int32.toBitVec_inj.mp ?_
    show (x &&& 31).toBitVec = BitVec.ofNat 32 (x &&& 31).toBitVec.toNat
    rw [BitVec.ofNat_toNat, BitVec.setWidth_eq]
/-- the script, and where the class and the reference lie -/
def ScL (Γ : GmW) (b L : Nat) (xs : Nat → Int32) : Prop := va_X b L xs (gSt Γ) (gSt Γ).heap ∧ b < (gSt Γ).heap.size ∧ ¬ gA Γ b ∧ L ≤ 3584
abbrev lvL (Ω : Om) (b i : Nat) : List (Option Value) := [some (.ref b), some (.ref (ad Ω 368)), some (.ref (ad Ω 369)), some (.int (nI i))]
theorem r_arg {Γ : GmW} {Ω : Om} {σ : Sg} {b L i : Nat} {xs : Nat → Int32} {pc : Nat} {st : List Value} (hs : ScL Γ b L xs) (j : Nat) (hj : i + j < L) (z : Int32) (hz : z = nI j) (n : Nat) (hd0 : decode (mB mL) pc = .ok (.aload_n 0, 1)) (hd1 : decode (mB mL) (pc + 1) = .ok (.iload_n 3, 1)) (hd2 : ∀ {st : List Value}, AtW mL Γ Ω σ (pc + 2 + n) (lvL Ω b i) (.int z :: st) → AtW mL Γ Ω σ (pc + 2) (lvL Ω b i) st) (hd3 : decode (mB mL) (pc + 2 + n) = .ok (.iadd, 1)) (hd4 : decode (mB mL) (pc + 2 + n + 1) = .ok (.iaload, 1))
    (kk : AtW mL Γ Ω σ (pc + 2 + n + 2) (lvL Ω b i) (.int (xs (i + j)) :: st)) : AtW mL Γ Ω σ pc (lvL Ω b i) st := by
  refine r_aload_n hd0 rfl ?_
  refine r_iload_n hd1 rfl ?_
  refine hd2 ?_
  refine r_iadd hd3 ?_
  exact r_sld hs.1 hs.2.1 hs.2.2.1 (i + j) (by rw [hz, nI_add]) hj hs.2.2.2 hd4 kk
