/-! REFERENCE: the fault of a text; the boxes of a text -/
def ffA (t : Nat → Int32) (L : Nat) : Int32 := if rdF t L = -1 then -5 else rdF t L
theorem ff_w {t : Nat → Int32} {L i : Nat} (hi : i ≤ 80) (h : rdF t L = nI i) : nI i = ffA t L := by
  unfold ffA
  rw [h, if_neg (nI_nm1 (by omega))]
theorem ff_ok {t : Nat → Int32} {L c d : Nat} {ws : Nat → Int32} (hd : d ≤ 31) (h : rdS t L = some (5, nI d, c, ws)) : rdF t L = -1 := by
  rw [rdF_end h]
  unfold rdE
  rw [if_neg (nI_nm1 (by omega))]
  rfl
theorem rbN_gt {σ τ : Sg} {L c k : Nat} {t vs : Nat → Int32} (h : rbN σ L t L c vs k τ) : False := by
  obtain ⟨i, d, ws, h1, h2, h3, h4⟩ := h
  have := h3.2.2.2.2
  omega
theorem rp_0 {σ : Sg} {L : Nat} {t : Nat → Int32} (h : txM σ L t) : rpI σ L t (upS (upS σ 369 15 0) 369 16 0) 0 false := by
  have k : keepRp σ (upS (upS σ 369 15 0) 369 16 0) := keepRp_tr (keepRp_f (Or.inl rfl)) (keepRp_f (Or.inr rfl))
  refine ⟨k, txM_kr h (keepRp_kr k), ?_, ?_, Nat.zero_le _⟩
  · rw [up_get, if_neg (by omega), up_get, if_pos ⟨rfl, rfl⟩]
    rfl
  · rw [up_get, if_pos ⟨rfl, rfl⟩]
    rfl
theorem rbR_0 {σ τ : Sg} {L j c : Nat} {t vs : Nat → Int32} (h : rpI σ L t τ j false) (hr : rdS t j = some (0, -1, c, vs)) : rbR σ L t j c vs 0 τ := ⟨j, vs, Nat.le_refl _, h, hr, fun m hm => absurd hm (Nat.not_lt_zero m), fun _ _ => rfl⟩
theorem rdN_ext {q r : RdV} {x : Int32} (h : rdN q x = some r) : q.2.2.1 ≤ r.2.2.1 ∧ ∀ j, j < q.2.2.1 → r.2.2.2 j = q.2.2.2 j := by
  unfold rdN at h
  by_cases d : dgtB x = true
  · rw [if_pos d] at h
    by_cases w : wdG q.2.1 (x - 48) (decide (3 ≤ q.1)) = -2
    · rw [if_pos w] at h
      cases h
    · rw [if_neg w] at h
      injection h with h
      rw [← h]
      exact ⟨Nat.le_refl _, fun _ _ => rfl⟩
  · rw [if_neg d] at h
    by_cases w : q.2.1 = -1
    · rw [if_pos w] at h
      cases h
    · rw [if_neg w] at h
      by_cases e : x = sgB q.1
      · rw [if_pos e] at h
        injection h with h
        rw [← h]
        refine ⟨Nat.le_succ _, fun j hj => ?_⟩
        show upd q.2.2.2 q.2.2.1 q.2.1 j = _
        unfold upd
        rw [if_neg (by omega)]
      · rw [if_neg e] at h
        cases h
theorem rdS_ext {t : Nat → Int32} {i : Nat} {q : RdV} (h : rdS t i = some q) : ∀ {n : Nat} {r : RdV}, rdS t (i + n) = some r → q.2.2.1 ≤ r.2.2.1 ∧ ∀ j, j < q.2.2.1 → r.2.2.2 j = q.2.2.2 j
  | 0, r, h2 => by
    rw [Nat.add_zero, h] at h2
    injection h2 with h2
    rw [← h2]
    exact ⟨Nat.le_refl _, fun _ _ => rfl⟩
  | n + 1, r, h2 => by
    rw [← Nat.add_assoc, rdS] at h2
    cases e : rdS t (i + n) with
    | none => rw [e] at h2; cases h2
    | some p =>
      rw [e] at h2
      have a := rdS_ext h e
      have b := rdN_ext h2
      exact ⟨by omega, fun j hj => (b.2 j (by omega)).trans (a.2 j hj)⟩
theorem rdF_some {t : Nat → Int32} {L : Nat} (hL : L ≤ 80) (h : rdF t L = -1) : ∃ q, rdS t L = some q := by
  unfold rdF at h
  cases e : rdS t L with
  | none =>
    rw [e] at h
    have := ffi_le (fun i => (rdS t (i + 1)).isNone) L
    exact absurd h (nI_nm1 (by omega))
  | some q => exact ⟨q, rfl⟩
/-- the six numbers of box b, as they were read -/
theorem tx_box {S : StV} {i b d : Nat} {ws : Nat → Int32} (hL : qL S ≤ 80) (hf : rdF (qT S) (qL S) = -1) (hi : i ≤ qL S) (hd : d ≤ 31) (h : rdS (qT S) i = some (5, nI d, 6 * b + 5, ws)) (hg : noGo (qT S) (qL S) i 5 (nI d)) : b + 1 ≤ txB S ∧ (∀ m, m < 5 → bxT (txV S) b m = ws (6 * b + m)) ∧ bxT (txV S) b 5 = nI d ∧ (i = qL S → txB S = b + 1) ∧ (i < qL S → rdS (qT S) (i + 1) = some (0, -1, 6 * (b + 1), upd ws (6 * b + 5) (nI d))) := by
  by_cases e : i = qL S
  · rw [e] at h
    obtain ⟨t1, t2⟩ := txB_at h
    have t1' : txB S = (6 * b + 5 + 1) / 6 := t1
    have t2' : txV S = upd ws (6 * b + 5) (nI d) := t2
    refine ⟨by omega, fun m hm => ?_, ?_, fun _ => by omega, fun z => by omega⟩
    · unfold bxT
      rw [t2']
      unfold upd
      rw [if_neg (by omega)]
    · unfold bxT
      rw [t2']
      unfold upd
      rw [if_pos rfl]
  · have hi2 : i < qL S := by omega
    have hs : sgT (qT S) (qL S) i = 59 := by
      by_cases z : sgT (qT S) (qL S) i = 59
      · exact z
      · have := sep_bad hi hd h hg (x := 59) rfl (fun q => absurd q e) z
        rw [hf] at this
        exact absurd this.symm (nI_nm1 (by omega))
    obtain ⟨_, u2⟩ := sep_ok hd h (x := 59) rfl (by decide) (by decide) hs
    have u3 : rdS (qT S) (i + 1) = some (0, -1, 6 * (b + 1), upd ws (6 * b + 5) (nI d)) := u2
    obtain ⟨q, eq⟩ := rdF_some hL hf
    obtain ⟨t1, t2⟩ := txB_at eq
    have x := rdS_ext u3 (n := qL S - (i + 1)) (r := q) (by rw [show i + 1 + (qL S - (i + 1)) = qL S by omega]; exact eq)
    have x1 : 6 * (b + 1) ≤ q.2.2.1 := x.1
    have x2 : ∀ j, j < 6 * (b + 1) → q.2.2.2 j = upd ws (6 * b + 5) (nI d) j := x.2
    have hv : ∀ m, m < 6 → bxT (txV S) b m = upd ws (6 * b + 5) (nI d) (6 * b + m) := fun m hm => by
      unfold bxT
      rw [t2]
      show upd q.2.2.2 q.2.2.1 q.2.1 (6 * b + m) = _
      rw [show upd q.2.2.2 q.2.2.1 q.2.1 (6 * b + m) = q.2.2.2 (6 * b + m) from by unfold upd; rw [if_neg (by omega)]]
      exact x2 _ (by omega)
    refine ⟨by omega, fun m hm => ?_, ?_, fun z => absurd z e, fun _ => u3⟩
    · rw [hv m (by omega)]
      unfold upd
      rw [if_neg (by omega)]
    · rw [hv 5 (by omega)]
      unfold upd
      rw [if_pos rfl]
