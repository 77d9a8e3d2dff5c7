/-! REFERENCE: all the boxes of a text -/
theorem rdF_cases {t : Nat → Int32} {L : Nat} : rdF t L = -1 ∨ ∃ i, i ≤ L ∧ rdF t L = nI i := by
  unfold rdF
  cases e : rdS t L with
  | none => exact Or.inr ⟨_, ffi_le _ _, rfl⟩
  | some q =>
    show rdE q L = -1 ∨ ∃ i, i ≤ L ∧ rdE q L = nI i
    unfold rdE
    split
    · exact Or.inr ⟨L, Nat.le_refl _, rfl⟩
    · split
      · exact Or.inr ⟨L, Nat.le_refl _, rfl⟩
      · exact Or.inl rfl
theorem ff_neg {t : Nat → Int32} {L : Nat} (hL : L ≤ 80) (h : ffA t L < 0) : rdF t L = -1 := by
  rcases rdF_cases (t := t) (L := L) with e | ⟨i, hi, e⟩
  · exact e
  · rw [← ff_w (by omega) e] at h
    exact absurd h (nI_pos (by omega))
theorem ff_nn {t : Nat → Int32} {L : Nat} (h : ¬ ffA t L < 0) : ¬ rdF t L = -1 ∧ ffA t L = rdF t L := by
  unfold ffA at h ⊢
  by_cases e : rdF t L = -1
  · rw [if_pos e] at h
    exact absurd (show (-5 : Int32) < 0 from by decide) h
  · rw [if_neg e]
    exact ⟨e, rfl⟩
def kzI (σ τ : Sg) : Prop := (∀ q, q < 369 ∨ (372 ≤ q ∧ q ≤ 374) → τ q = σ q) ∧ ∀ i, i ≠ 12 → i ≠ 15 → i ≠ 16 → τ 369 i = σ 369 i
theorem kz_kr {σ τ : Sg} (h : keepRf σ τ) : kzI σ τ := ⟨fun q hq => h.1 q (by omega), h.2⟩
theorem kz_tr {σ τ υ : Sg} (h1 : kzI σ τ) (h2 : kzI τ υ) : kzI σ υ := ⟨fun q hq => (h2.1 q hq).trans (h1.1 q hq), fun i a b c => (h2.2 i a b c).trans (h1.2 i a b c)⟩
theorem kz_z {σ τ : Sg} (h : ∀ q, q ≠ 370 → τ q = σ q) : kzI σ τ := ⟨fun q hq => h q (by omega), fun i _ _ _ => by rw [h 369 (by omega)]⟩
theorem md_kz {σ τ : Sg} {S : StV} {w : SpV} (h : isMd σ S) (hk : kzI σ τ) (hw : isZ (τ 370) w) : isMd τ (w, S.2) := by
  obtain ⟨h1, h2, h3, h4⟩ := h
  refine ⟨hw, ?_, ?_, ?_⟩
  · show hsM τ (qN S) (qH S)
    unfold hsM
    rw [hk.2 3 (by omega) (by omega) (by omega), hk.1 372 (by omega)]
    exact h2
  · show snM τ (qP S)
    unfold snM
    rw [hk.2 5 (by omega) (by omega) (by omega), hk.1 373 (by omega)]
    exact h3
  · show txM τ (qL S) (qT S)
    unfold txM
    rw [hk.2 7 (by omega) (by omega) (by omega), hk.1 374 (by omega)]
    exact h4
theorem push_mdw {τ σ1 : Sg} {S : StV} {w : SpV} (h3 : snM τ (qP S)) (h4 : txM τ (qL S) (qT S)) (hp : phI S τ σ1) (hw : isZ (σ1 370) w) : isMd σ1 (pushS S w) := by
  refine ⟨hw, hp.1, ?_, ?_⟩
  · show snM σ1 (qP S)
    unfold snM
    rw [hp.2.2 5 (by omega), hp.2.1 373 (by omega) (by omega)]
    exact h3
  · show txM σ1 (qL S) (qT S)
    unfold txM
    rw [hp.2.2 7 (by omega), hp.2.1 374 (by omega) (by omega)]
    exact h4
def tb6 (w : SpV) (vs : Nat → Int32) (b : Nat) : Int32 := tbA w (bxT vs b 0) (bxT vs b 1) (bxT vs b 2) (bxT vs b 3) (bxT vs b 4) (bxT vs b 5)
theorem tb_cases (v : SpV) (x y z a b c : Int32) : tbA v x y z a b c = 0 ∨ tbA v x y z a b c < 0 := by
  unfold tbA
  split
  · exact Or.inr (by decide)
  · split
    · exact Or.inr (by decide)
    · split
      · exact Or.inr (by decide)
      · exact Or.inl rfl
/-- b boxes are put, w is what they left -/
def aaL (S : StV) (σ : Sg) (b i : Nat) (w : SpV) (τ : Sg) : Prop := b ≤ txB S ∧ isZ (τ 370) w ∧ isZ (τ 371) (qC S) ∧ kzI σ τ ∧ τ 369 15 = nI i ∧ i ≤ qL S + 1 ∧ aaF (txV S) (txB S - b) b w = aaF (txV S) (txB S) 0 (qC S) ∧ ((i ≤ qL S ∧ τ 369 16 = bI false ∧ ∃ vs, rdS (qT S) i = some (0, -1, 6 * b, vs)) ∨ (i = qL S + 1 ∧ txB S = b))
def aaE (S : StV) (σ : Sg) (x : Int32) (τ : Sg) : Prop := x < 0 ∧ isZ (τ 371) (qC S) ∧ kzI σ τ ∧ aaF (txV S) (txB S) 0 (qC S) = (x, none)
theorem aaL_0 {S : StV} {σ τ : Sg} (hz : isZ (τ 370) (qC S)) (hz2 : isZ (τ 371) (qC S)) (hk : kzI σ τ) (hp : τ 369 15 = nI 0) (hw : τ 369 16 = bI false) : aaL S σ 0 0 (qC S) τ := ⟨Nat.zero_le _, hz, hz2, hk, hp, Nat.zero_le _, rfl, Or.inl ⟨Nat.zero_le _, hw, _, rfl⟩⟩
theorem aaL_end {S : StV} {σ τ : Sg} {b i : Nat} {w : SpV} (h : aaL S σ b i w τ) (hL : qL S ≤ 80) (hf : rdF (qT S) (qL S) = -1) (hi : qL S ≤ i) : txB S = b ∧ oAddAll S = (nI b, pushS S w) := by
  obtain ⟨h1, h2, h3, h4, h5, h6, h7, h8⟩ := h
  have e : txB S = b := by
    rcases h8 with ⟨a1, a2, vs, a3⟩ | ⟨_, a⟩
    · have : i = qL S := by omega
      rw [this] at a3
      rw [rdF_end a3] at hf
      exact absurd (show rdE (0, -1, 6 * b, vs) (qL S) = -1 from hf) (nI_nm1 (by omega))
    · exact a
  rw [e, Nat.sub_self] at h7
  have := aa_ok (S := S) (r := 0) (w := w) hf (by rw [e]; exact h7.symm)
  rw [e] at this
  exact ⟨e, this⟩
theorem aaL_rp {S : StV} {σ τ : Sg} {b i : Nat} {w : SpV} (h : aaL S σ b i w τ) (h0 : isMd σ S) (hi : i < qL S) : rpI τ (qL S) (qT S) τ i false ∧ ∃ vs, rdS (qT S) i = some (0, -1, 6 * b, vs) := by
  obtain ⟨h1, h2, h3, h4, h5, h6, h7, h8⟩ := h
  rcases h8 with ⟨a1, a2, vs, a3⟩ | ⟨a, _⟩
  · exact ⟨⟨keepRp_rfl τ, (md_kz h0 h4 h2).2.2.2, h5, a2, by omega⟩, vs, a3⟩
  · omega
/-- behind a box that was read -/
theorem aa_box {S : StV} {σ τ σ1 : Sg} {b i : Nat} {w : SpV} {vs : Nat → Int32} (h : aaL S σ b i w τ) (hL : qL S ≤ 80) (hf : rdF (qT S) (qL S) = -1) (hr : rbI τ (qL S) (qT S) i (6 * b) vs σ1) : ∃ n0, n0 ≤ qL S ∧ i < n0 ∧ σ1 369 15 = nI n0 ∧ σ1 369 16 = bI false ∧ keepRp τ σ1 ∧ b + 1 ≤ txB S ∧ (∀ m, m < 6 → σ1 380 m = bxT (txV S) b m) ∧ ((n0 + 1 ≤ qL S ∧ ∃ us, rdS (qT S) (n0 + 1) = some (0, -1, 6 * (b + 1), us)) ∨ (n0 + 1 = qL S + 1 ∧ txB S = b + 1)) := by
  rcases hr with ⟨q, g1, g2⟩ | ⟨n0, d, ws, g1, g2, g3, g4, g5, g6, g7, g8⟩
  · rw [hf] at g2
    have := g1.2.2.2.2
    exact absurd g2.symm (nI_nm1 (by omega))
  · have hn := g3.2.2.2.2
    obtain ⟨t1, t2, t3, t4, t5⟩ := tx_box hL hf hn g2 g4 g5
    refine ⟨n0, hn, g1, g3.2.2.1, g3.2.2.2.1, g3.1, t1, fun m hm => ?_, ?_⟩
    · by_cases e : m = 5
      · rw [e, g7, t3]
      · rw [g6 m (by omega), t2 m (by omega)]
    · by_cases e : n0 = qL S
      · exact Or.inr ⟨by omega, t4 e⟩
      · exact Or.inl ⟨by omega, _, t5 (by omega)⟩
theorem aa_put {S : StV} {σ τ σ1 ρ σ3 : Sg} {b i n0 : Nat} {w : SpV} (h : aaL S σ b i w τ) (hn0 : n0 ≤ qL S) (hk : keepRp τ σ1) (h16 : σ1 369 16 = bI false) (hb : b + 1 ≤ txB S) (hq : (n0 + 1 ≤ qL S ∧ ∃ us, rdS (qT S) (n0 + 1) = some (0, -1, 6 * (b + 1), us)) ∨ (n0 + 1 = qL S + 1 ∧ txB S = b + 1)) (eρ : ρ = upS σ1 369 15 (nI (n0 + 1))) (ht : tb6 w (txV S) b = 0) (hp : pbI w (bxT (txV S) b 0) (bxT (txV S) b 1) (bxT (txV S) b 2) (bxT (txV S) b 3) (bxT (txV S) b 4) (bxT (txV S) b 5) ρ σ3) : aaL S σ (b + 1) (n0 + 1) (entV6 w (txV S) b) σ3 := by
  obtain ⟨h1, h2, h3, h4, h5, h6, h7, h8⟩ := h
  have kρ : keepRf τ ρ := by rw [eρ]; exact keepRf_tr (keepRp_kr hk) (keepRf_f (Or.inr (Or.inl rfl)))
  have e9 : ∀ q, q ≠ 370 → σ3 q = ρ q := hp.2
  have ok := (tb_nn (v := w) (x := bxT (txV S) b 0) (y := bxT (txV S) b 1) (z := bxT (txV S) b 2) (a := bxT (txV S) b 3) (b := bxT (txV S) b 4) (c := bxT (txV S) b 5) (by rw [show tbA w _ _ _ _ _ _ = 0 from ht]; decide)).1
  refine ⟨hb, hp.1, ?_, kz_tr h4 (kz_tr (kz_kr kρ) (kz_z e9)), ?_, by omega, ?_, ?_⟩
  · rw [e9 371 (by omega), eρ, up_ne (by omega), hk.1 371 (by omega) (by omega)]
    exact h3
  · rw [e9 369 (by omega), eρ, up_get, if_pos ⟨rfl, rfl⟩]
  · rw [← h7, show txB S - b = (txB S - (b + 1)) + 1 by omega, aaF, if_pos (show ent6 w (txV S) b = true from ok)]
  · rcases hq with ⟨a, us, a2⟩ | a
    · exact Or.inl ⟨a, by rw [e9 369 (by omega), eρ, up_get, if_neg (by omega)]; exact h16, us, a2⟩
    · exact Or.inr a
theorem aa_fail {S : StV} {σ τ σ1 ρ : Sg} {b i n0 : Nat} {w : SpV} (h : aaL S σ b i w τ) (hk : keepRp τ σ1) (hb : b + 1 ≤ txB S) (eρ : ρ = upS σ1 369 15 (nI (n0 + 1))) (ht : ¬ tb6 w (txV S) b = 0) : aaE S σ (tb6 w (txV S) b) ρ := by
  obtain ⟨h1, h2, h3, h4, h5, h6, h7, h8⟩ := h
  have kρ : keepRf τ ρ := by rw [eρ]; exact keepRf_tr (keepRp_kr hk) (keepRf_f (Or.inr (Or.inl rfl)))
  have hneg : tb6 w (txV S) b < 0 := (tb_cases w _ _ _ _ _ _).resolve_left ht
  obtain ⟨n1, n2⟩ := tb_neg (v := w) hneg
  refine ⟨hneg, by rw [eρ, up_ne (by omega), hk.1 371 (by omega) (by omega)]; exact h3, kz_tr h4 (kz_kr kρ), ?_⟩
  rw [← h7, show txB S - b = (txB S - (b + 1)) + 1 by omega, aaF, if_neg (by rw [show ent6 w (txV S) b = false from n1]; decide)]
  exact congrArg (fun z => (z, none)) n2
