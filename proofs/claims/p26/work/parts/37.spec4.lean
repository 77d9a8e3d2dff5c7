/-! the text: what is read, sign by sign -/
def sgB (pl : Nat) : Int32 := if pl = 2 then 58 else if pl = 5 then 59 else 44
def wdG (v d : Int32) (isz : Bool) : Int32 := if v = -1 then (if isz && decide (d = 0) then -2 else d) else if v = 0 then -2 else if (if isz then 12 else 31) < v * 10 + d then -2 else v * 10 + d
def dgtB (x : Int32) : Bool := !decide (x < 48) && !decide (57 < x)
/-- behind some signs: the place in a box, the number begun (-1 without), how many numbers, which -/
abbrev RdV : Type := Nat × Int32 × Nat × (Nat → Int32)
def rdN (q : RdV) (x : Int32) : Option RdV :=
  if dgtB x then (if wdG q.2.1 (x - 48) (decide (3 ≤ q.1)) = -2 then none else some (q.1, wdG q.2.1 (x - 48) (decide (3 ≤ q.1)), q.2.2.1, q.2.2.2))
  else if q.2.1 = -1 then none else if x = sgB q.1 then some (if q.1 + 1 < 6 then q.1 + 1 else 0, -1, q.2.2.1 + 1, upd q.2.2.2 q.2.2.1 q.2.1) else none
def rdS (t : Nat → Int32) : Nat → Option RdV
  | 0 => some (0, -1, 0, fun _ => 0)
  | i + 1 => match rdS t i with
    | none => none
    | some q => rdN q (t i)
/-- the fault of a text of L signs; -1 without one -/
def rdE (q : RdV) (L : Nat) : Int32 := if q.2.1 = -1 then nI L else if q.1 + 1 < 6 then nI L else -1
def rdF (t : Nat → Int32) (L : Nat) : Int32 := match rdS t L with
  | none => nI (ffi (fun i => (rdS t (i + 1)).isNone) L)
  | some q => rdE q L
theorem rdS_none {t : Nat → Int32} {i : Nat} (h : rdS t i = none) : ∀ j, rdS t (i + j) = none
  | 0 => h
  | j + 1 => by
    show rdS t ((i + j) + 1) = none
    rw [rdS, rdS_none h j]
theorem rdF_at {t : Nat → Int32} {L i : Nat} {q : RdV} (hi : i < L) (h : rdS t i = some q) (h1 : rdN q (t i) = none) : rdF t L = nI i := by
  have e : rdS t (i + 1) = none := by rw [rdS, h]; exact h1
  have e2 := rdS_none e (L - (i + 1))
  rw [show i + 1 + (L - (i + 1)) = L by omega] at e2
  unfold rdF
  rw [e2]
  simp only
  rw [ff_hit (k := i) (fun j hj => ?_) (by rw [e]; rfl) hi]
  cases e3 : rdS t (j + 1) with
  | some _ => rfl
  | none =>
    have := rdS_none e3 (i - (j + 1))
    rw [show j + 1 + (i - (j + 1)) = i by omega, h] at this
    cases this
theorem rdF_end {t : Nat → Int32} {L : Nat} {q : RdV} (h : rdS t L = some q) : rdF t L = rdE q L := by
  unfold rdF
  rw [h]
/-- how many numbers there can be -/
theorem rdS_cnt {t : Nat → Int32} : ∀ {i : Nat} {q : RdV}, rdS t i = some q → q.1 < 6 ∧ 2 * q.2.2.1 + (if q.2.1 = -1 then 0 else 1) ≤ i
  | 0, q, h => by
    cases h
    simp
  | i + 1, q, h => by
    rw [rdS] at h
    cases e : rdS t i with
    | none => rw [e] at h; cases h
    | some r =>
      rw [e] at h
      simp only at h
      obtain ⟨h1, h2⟩ := rdS_cnt e
      unfold rdN at h
      by_cases d : dgtB (t i) = true
      · rw [if_pos d] at h
        by_cases w : wdG r.2.1 (t i - 48) (decide (3 ≤ r.1)) = -2
        · rw [if_pos w] at h
          cases h
        · rw [if_neg w] at h
          cases h
          refine ⟨h1, ?_⟩
          simp only
          split at h2 <;> split <;> omega
      · rw [if_neg d] at h
        by_cases v : r.2.1 = -1
        · rw [if_pos v] at h
          cases h
        · rw [if_neg v] at h h2
          by_cases s : t i = sgB r.1
          · rw [if_pos s] at h
            cases h
            refine ⟨?_, ?_⟩
            · simp only
              split <;> omega
            · simp only [if_true]
              omega
          · rw [if_neg s] at h
            cases h
/-- what only the reading of the text changes -/
def keepT (σ σ1 : Sg) : Prop := (∀ q, q ≠ 365 → q ≠ 367 → σ1 q = σ q) ∧ ∀ i, i ≠ 3 → σ1 365 i = σ 365 i
theorem keepT_rfl (σ : Sg) : keepT σ σ := ⟨fun _ _ _ => rfl, fun _ _ => rfl⟩
theorem isC_kt {σ σ1 : Sg} {S : StV} (h : isC σ S) (hk : keepT σ σ1) : isC σ1 S := by
  obtain ⟨h1, ⟨pm, h2, h3⟩, h4, h5⟩ := h
  have e : ∀ t v, t < 7 → isV σ t v → isV σ1 t v := by
    intro t v ht hv
    refine isV_keep hv (hk.1 _ (by unfold iS; omega) (by unfold iS; omega)) (fun j hj => ?_)
    have hb := bx_lt ht hj
    exact ⟨hk.1 _ (by unfold iBo; omega) (by unfold iBo; omega), hk.1 _ (by unfold iL; omega) (by unfold iL; omega), hk.1 _ (by unfold iH; omega) (by unfold iH; omega)⟩
  refine ⟨e 0 _ (by omega) h1, ⟨pm, hOk_eq h2 (hk.1 _ (by omega) (by omega)) (hk.1 _ (by omega) (by omega)), fun i hi => ?_⟩, ?_, ?_⟩
  · have := h2.2.2.1 i (by have := h2.2.1; omega)
    exact e _ _ this.2.2 (h3 i hi)
  · unfold snaC
    rw [hk.1 368 (by omega) (by omega)]
    rcases h4 with ⟨a, v, b, c⟩ | h4
    · exact Or.inl ⟨a, v, b, e 2 _ (by omega) c⟩
    · exact Or.inr h4
  · unfold txtC
    rw [hk.2 1 (by omega), hk.1 366 (by omega) (by omega)]
    exact h5
/-- the numbers that are read: how many, which -/
def rdC (σ : Sg) (c : Nat) (vs : Nat → Int32) : Prop := σ 365 3 = nI c ∧ ∀ j, j < c → σ 367 j = vs j
def rdI (t : Nat → Int32) (σ : Sg) (i : Nat) (τ : Sg) (q : RdV) : Prop := rdS t i = some q ∧ rdC τ q.2.2.1 q.2.2.2 ∧ keepT σ τ
def reI (σ : Sg) (t : Nat → Int32) (L : Nat) (r : Int32) (σ1 : Sg) : Prop := r = rdF t L ∧ keepT σ σ1 ∧ (r = -1 → ∃ q, rdS t L = some q ∧ ¬ q.2.1 = -1 ∧ ¬ q.1 + 1 < 6 ∧ rdC σ1 (q.2.2.1 + 1) (upd q.2.2.2 q.2.2.1 q.2.1))
def stoI (σ : Sg) (c : Nat) (x : Int32) (σ1 : Sg) : Prop := σ1 = upS (upS σ 367 c x) 365 3 (nI (c + 1))
theorem stI_keep {σ τ σ1 : Sg} {c : Nat} {x : Int32} (hk : keepT σ τ) (h : stoI τ c x σ1) : keepT σ σ1 := by
  rw [h]
  refine ⟨fun q a b => ?_, fun i hi => ?_⟩
  · rw [up_ne a, up_ne b]
    exact hk.1 q a b
  · rw [up_get, if_neg (by simp [hi]), up_ne (by omega)]
    exact hk.2 i hi
theorem stI_rdC {σ σ1 : Sg} {c : Nat} {x : Int32} {vs : Nat → Int32} (h0 : rdC σ c vs) (h : stoI σ c x σ1) : rdC σ1 (c + 1) (upd vs c x) := by
  rw [h]
  refine ⟨by rw [up_get, if_pos ⟨rfl, rfl⟩], fun j hj => ?_⟩
  rw [up_ne (by omega), up_get]
  unfold upd
  by_cases e : j = c
  · simp [e]
  · simp [e, h0.2 j (by omega)]
theorem rdI_dig {t : Nat → Int32} {σ τ : Sg} {i : Nat} {q : RdV} (h : rdI t σ i τ q) (hd : dgtB (t i) = true) (hw : ¬ wdG q.2.1 (t i - 48) (decide (3 ≤ q.1)) = -2) : rdI t σ (i + 1) τ (q.1, wdG q.2.1 (t i - 48) (decide (3 ≤ q.1)), q.2.2.1, q.2.2.2) := by
  refine ⟨?_, h.2.1, h.2.2⟩
  rw [rdS, h.1]
  simp only [rdN]
  rw [if_pos hd, if_neg hw]
theorem rdI_sep {t : Nat → Int32} {σ τ σ1 : Sg} {i : Nat} {q : RdV} (h : rdI t σ i τ q) (hd : dgtB (t i) = false) (hv : ¬ q.2.1 = -1) (hs : t i = sgB q.1) (h1 : stoI τ q.2.2.1 q.2.1 σ1) : rdI t σ (i + 1) σ1 (if q.1 + 1 < 6 then q.1 + 1 else 0, -1, q.2.2.1 + 1, upd q.2.2.2 q.2.2.1 q.2.1) := by
  refine ⟨?_, stI_rdC h.2.1 h1, stI_keep h.2.2 h1⟩
  rw [rdS, h.1]
  simp only [rdN]
  rw [if_neg (by simp [hd]), if_neg hv, if_pos hs]
theorem rdN_dig {q : RdV} {x : Int32} (hd : dgtB x = true) (hw : wdG q.2.1 (x - 48) (decide (3 ≤ q.1)) = -2) : rdN q x = none := by
  unfold rdN
  rw [if_pos hd, if_pos hw]
theorem rdN_no {q : RdV} {x : Int32} (hd : dgtB x = false) (h : q.2.1 = -1 ∨ ¬ x = sgB q.1) : rdN q x = none := by
  unfold rdN
  rw [if_neg (by simp [hd])]
  by_cases a : q.2.1 = -1
  · rw [if_pos a]
  · rw [if_neg a]
    rcases h with h | h
    · exact absurd h a
    · rw [if_neg h]
/-! the boxes of the text, one after the other -/
def bxT (vs : Nat → Int32) (i j : Nat) : Int32 := vs (6 * i + j)
def ent6 (v : SpV) (vs : Nat → Int32) (i : Nat) : Bool := entOk v (bxT vs i 0) (bxT vs i 1) (bxT vs i 2) (bxT vs i 3) (bxT vs i 4) (bxT vs i 5)
def entA6 (v : SpV) (vs : Nat → Int32) (i : Nat) : Int32 := entA v (bxT vs i 0) (bxT vs i 1) (bxT vs i 2) (bxT vs i 3) (bxT vs i 4) (bxT vs i 5)
def entV6 (v : SpV) (vs : Nat → Int32) (i : Nat) : SpV := entV v (bxT vs i 0) (bxT vs i 1) (bxT vs i 2) (bxT vs i 3) (bxT vs i 4) (bxT vs i 5)
/-- the first error and no space, or 0 and the space -/
def aaF (vs : Nat → Int32) : Nat → Nat → SpV → Int32 × Option SpV
  | 0, _, w => (0, some w)
  | m + 1, i, w => if ent6 w vs i then aaF vs m (i + 1) (entV6 w vs i) else (entA6 w vs i, none)
def txB (S : StV) : Nat := match rdS (qT S) (qL S) with
  | none => 0
  | some q => (q.2.2.1 + 1) / 6
def txV (S : StV) : Nat → Int32 := match rdS (qT S) (qL S) with
  | none => fun _ => 0
  | some q => upd q.2.2.2 q.2.2.1 q.2.1
def oAddAll (S : StV) : Int32 × StV := if rdF (qT S) (qL S) = -1 then (match aaF (txV S) (txB S) 0 (qC S) with
    | (r, none) => (r, S)
    | (_, some w) => (nI (txB S), pushS S w)) else (-100 - rdF (qT S) (qL S), S)
theorem type_ok {σ : Sg} {S : StV} {x : Int32} (h : isC σ S) (hL : qL S < 80) : okC σ (oType S x) (nI (qL S + 1)) (upS (upS σ 366 (qL S) x) 365 1 (nI (qL S + 1))) := by
  rw [oType, if_pos hL]
  obtain ⟨h1, ⟨pm, h2, h3⟩, h4, h5⟩ := h
  have f : ∀ q, q ≠ 365 → q ≠ 366 → upS (upS σ 366 (qL S) x) 365 1 (nI (qL S + 1)) q = σ q := fun q a b => by rw [up_ne a, up_ne b]
  have e : ∀ t v, t < 7 → isV σ t v → isV (upS (upS σ 366 (qL S) x) 365 1 (nI (qL S + 1))) t v := by
    intro t v ht hv
    refine isV_keep hv (f _ (by unfold iS; omega) (by unfold iS; omega)) (fun j hj => ?_)
    have hb := bx_lt ht hj
    exact ⟨f _ (by unfold iBo; omega) (by unfold iBo; omega), f _ (by unfold iL; omega) (by unfold iL; omega), f _ (by unfold iH; omega) (by unfold iH; omega)⟩
  refine ⟨rfl, ⟨e 0 _ (by omega) h1, ⟨pm, hOk_eq h2 (f _ (by omega) (by omega)) (f _ (by omega) (by omega)), fun i hi => ?_⟩, ?_, ?_, ?_, fun i hi => ?_⟩, fun q hq => f q (by omega) (by omega)⟩
  · have := h2.2.2.1 i (by have := h2.2.1; exact Nat.lt_of_lt_of_le hi this)
    exact e _ _ this.2.2 (h3 i hi)
  · show snaC _ (qP S)
    unfold snaC
    rw [f 368 (by omega) (by omega)]
    rcases h4 with ⟨a, v, b, c⟩ | h4
    · exact Or.inl ⟨a, v, b, e 2 _ (by omega) c⟩
    · exact Or.inr h4
  · rw [up_get, if_pos ⟨rfl, rfl⟩]
  · show qL S + 1 ≤ 80
    omega
  · have hi' : i < qL S + 1 := hi
    rw [up_ne (by omega), up_get]
    show _ = (if i = qL S then x else qT S i)
    by_cases q : i = qL S
    · simp [q]
    · rw [if_neg (by simp [q]), if_neg q]
      exact h5.2.2 i (by omega)
theorem clear_ok {σ : Sg} {S : StV} (h : isC σ S) : okC σ (oClear S) (nI (qL S)) (upS σ 365 1 0) := by
  obtain ⟨h1, ⟨pm, h2, h3⟩, h4, h5⟩ := h
  have f : ∀ q, q ≠ 365 → upS σ 365 1 0 q = σ q := fun q a => up_ne a
  have e : ∀ t v, t < 7 → isV σ t v → isV (upS σ 365 1 0) t v := by
    intro t v ht hv
    refine isV_keep hv (f _ (by unfold iS; omega)) (fun j hj => ?_)
    have hb := bx_lt ht hj
    exact ⟨f _ (by unfold iBo; omega), f _ (by unfold iL; omega), f _ (by unfold iH; omega)⟩
  refine ⟨rfl, ⟨e 0 _ (by omega) h1, ⟨pm, hOk_eq h2 (f _ (by omega)) (f _ (by omega)), fun i hi => ?_⟩, ?_, ?_, ?_, fun i hi => absurd hi (Nat.not_lt_zero i)⟩, fun q hq => f q (by omega)⟩
  · have := h2.2.2.1 i (by have := h2.2.1; exact Nat.lt_of_lt_of_le hi this)
    exact e _ _ this.2.2 (h3 i hi)
  · show snaC _ (qP S)
    unfold snaC
    rw [f 368 (by omega)]
    rcases h4 with ⟨a, v, b, c⟩ | h4
    · exact Or.inl ⟨a, v, b, e 2 _ (by omega) c⟩
    · exact Or.inr h4
  · rw [up_get, if_pos ⟨rfl, rfl⟩]
    rfl
  · exact Nat.zero_le _
theorem txB_at {S : StV} {q : RdV} (h : rdS (qT S) (qL S) = some q) : txB S = (q.2.2.1 + 1) / 6 ∧ txV S = upd q.2.2.2 q.2.2.1 q.2.1 := by
  unfold txB txV
  rw [h]
  exact ⟨rfl, rfl⟩
theorem aa_ok {S : StV} {r : Int32} {w : SpV} (h : rdF (qT S) (qL S) = -1) (h2 : aaF (txV S) (txB S) 0 (qC S) = (r, some w)) : oAddAll S = (nI (txB S), pushS S w) := by
  rw [oAddAll, if_pos h, h2]
theorem aa_err {S : StV} {r : Int32} (h : rdF (qT S) (qL S) = -1) (h2 : aaF (txV S) (txB S) 0 (qC S) = (r, none)) : oAddAll S = (r, S) := by
  rw [oAddAll, if_pos h, h2]
theorem aa_flt {S : StV} (h : ¬ rdF (qT S) (qL S) = -1) : oAddAll S = (-100 - rdF (qT S) (qL S), S) := by
  rw [oAddAll, if_neg h]
theorem keepT_m {σ σ1 : Sg} (h : keepT σ σ1) : keepM σ σ1 := fun q hq => h.1 q (by omega) (by omega)
theorem rdC_kc {σ σ1 : Sg} {c : Nat} {vs : Nat → Int32} (h : rdC σ c vs) (hk : keepC σ σ1) : rdC σ1 c vs := by
  unfold rdC
  rw [hk 365 (by unfold scr; omega), hk 367 (by unfold scr; omega)]
  exact h
