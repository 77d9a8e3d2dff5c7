/-! a picture of a value -/
def HV (v : SpV) : Nat → Int32 := hmG (vLo v) (vHi v) (vN v)
def CVv (v : SpV) : Nat → Int32 := wsO (HV v) (vN v) (vN v)
def WVv (v : SpV) : Nat → Int32 := wtG (vRu v) (vLo v) (vHi v)
def DV (v : SpV) : Nat → Int32 × (Nat → Int32) × (Nat → Int32) := drS (vN v) (HV v) (WVv v) (fun _ => 0) (fun _ => -5)
def DCv (v : SpV) : Nat := drC (vN v) (HV v) (WVv v) (fun _ => 0) (fun _ => -5)
def BV (v : SpV) : Int32 := (DV v (vN v)).1
def OV (v : SpV) : Nat → Int32 := (DV v (vN v)).2.1
def LV (v : SpV) : Nat → Int32 := (DV v (vN v)).2.2
def pcV (v : SpV) (p : Nat) (σ1 : Sg) : Prop := σ1 (iP p) 0 = nI (vN v) ∧ (∀ k, k < vN v → σ1 (iP p + 1) k = HV v k ∧ σ1 (iP p + 2) k = CVv v k ∧ σ1 (iP p + 4) k = LV v k) ∧ σ1 (iP p) 4 = BV v ∧ σ1 (iP p) 5 = nI (DCv v) ∧ ∀ j, j < DCv v → σ1 (iP p + 3) j = OV v j
theorem layA_c {lay lay' : Nat → Int32} {x y : Int32} (hxy : x = y) : ∀ {n : Nat}, (∀ k, k < n → lay k = lay' k) → layA lay x n = layA lay' y n
  | 0, _ => rfl
  | n + 1, h => by
    have e := layA_c hxy (n := n) (fun k hk => h k (Nat.lt_succ_of_lt hk))
    rw [layA, layA, e, h n (Nat.lt_succ_self n), hxy]
/-- the drawing looks at the first n masks and weights; what it leaves of order and layers doesn't show -/
theorem drS_c {n : Nat} {h h' wt wt' o0 o0' l0 l0' : Nat → Int32} (h1 : ∀ k, k < n → h k = h' k) (h2 : ∀ k, k < n → wt k = wt' k) (h3 : ∀ k, k < n → l0 k = l0' k) : ∀ j, (drS n h wt o0 l0 j).1 = (drS n h' wt' o0' l0' j).1 ∧ (∀ k, k < n → (drS n h wt o0 l0 j).2.2 k = (drS n h' wt' o0' l0' j).2.2 k) ∧ ((∀ i, i < j → (nxO n h wt (drS n h wt o0 l0 i).1).isNone = false) → ∀ i, i < j → (drS n h wt o0 l0 j).2.1 i = (drS n h' wt' o0' l0' j).2.1 i)
  | 0 => ⟨rfl, h3, fun _ i hi => absurd hi (Nat.not_lt_zero i)⟩
  | j + 1 => by
    obtain ⟨e1, e2, e3⟩ := drS_c (o0 := o0) (o0' := o0') h1 h2 h3 j
    have en : nxO n h wt (drS n h wt o0 l0 j).1 = nxO n h' wt' (drS n h' wt' o0' l0' j).1 := by
      rw [e1]
      exact nxO_congr h1 h2
    cases hb : nxO n h' wt' (drS n h' wt' o0' l0' j).1 with
    | none =>
      have ha : nxO n h wt (drS n h wt o0 l0 j).1 = none := en.trans hb
      have x1 : drS n h wt o0 l0 (j + 1) = drS n h wt o0 l0 j := by rw [drS, ha]
      have x2 : drS n h' wt' o0' l0' (j + 1) = drS n h' wt' o0' l0' j := by rw [drS, hb]
      rw [x1, x2]
      refine ⟨e1, e2, fun hq => ?_⟩
      have := hq j (Nat.lt_succ_self j)
      rw [ha] at this
      cases this
    | some b =>
      have ha : nxO n h wt (drS n h wt o0 l0 j).1 = some b := en.trans hb
      have hbn : b < n := bestO_lt ha
      have x1 : drS n h wt o0 l0 (j + 1) = ((drS n h wt o0 l0 j).1 ||| bitI b, upd (drS n h wt o0 l0 j).2.1 j (nI b), upd (drS n h wt o0 l0 j).2.2 b (layA (drS n h wt o0 l0 j).2.2 (h b) n)) := by rw [drS, ha]
      have x2 : drS n h' wt' o0' l0' (j + 1) = ((drS n h' wt' o0' l0' j).1 ||| bitI b, upd (drS n h' wt' o0' l0' j).2.1 j (nI b), upd (drS n h' wt' o0' l0' j).2.2 b (layA (drS n h' wt' o0' l0' j).2.2 (h' b) n)) := by rw [drS, hb]
      rw [x1, x2]
      refine ⟨by rw [e1], fun k hk => ?_, fun hq i hi => ?_⟩
      · simp only [upd]
        rw [layA_c (h1 b hbn) e2, e2 k hk]
      · simp only [upd]
        by_cases e : i = j
        · rw [if_pos e, if_pos e]
        · rw [if_neg e, if_neg e]
          exact e3 (fun i hi => hq i (Nat.lt_succ_of_lt hi)) i (by omega)
theorem drC_c {n : Nat} {h h' wt wt' o0 o0' l0 l0' : Nat → Int32} (h1 : ∀ k, k < n → h k = h' k) (h2 : ∀ k, k < n → wt k = wt' k) (h3 : ∀ k, k < n → l0 k = l0' k) : drC n h wt o0 l0 = drC n h' wt' o0' l0' :=
  ffi_c (fun j hj => by rw [(drS_c (o0 := o0) (o0' := o0') h1 h2 h3 j).1, nxO_congr h1 h2])
theorem ffi_le (p : Nat → Bool) : ∀ n, ffi p n ≤ n
  | 0 => Nat.le_refl _
  | n + 1 => by
    have := ffi_le p n
    rw [ffi]
    split
    · omega
    · split <;> omega
theorem ffi_no {p : Nat → Bool} : ∀ {n k : Nat}, k < ffi p n → p k = false
  | 0, k, h => absurd h (Nat.not_lt_zero k)
  | n + 1, k, h => by
    have hl := ffi_le p n
    rw [ffi] at h
    by_cases c : ffi p n < n
    · rw [if_pos c] at h
      exact ffi_no h
    · rw [if_neg c] at h
      have hn : ffi p n = n := by omega
      by_cases d : p n = true
      · rw [if_pos d] at h
        exact ffi_no (n := n) (by omega)
      · rw [if_neg d] at h
        by_cases e : k = n
        · subst e
          simpa using d
        · exact ffi_no (n := n) (by omega)
/-- up to its end the drawing keeps the order that it has -/
theorem drS_ord {n : Nat} {h wt o0 l0 : Nat → Int32} : ∀ {m j i : Nat}, j ≤ m → i < j → (drS n h wt o0 l0 m).2.1 i = (drS n h wt o0 l0 j).2.1 i
  | 0, j, i, hj, hi => by omega
  | m + 1, j, i, hj, hi => by
    by_cases e : j = m + 1
    · rw [e]
    · have ih := drS_ord (n := n) (h := h) (wt := wt) (o0 := o0) (l0 := l0) (m := m) (j := j) (i := i) (by omega) hi
      cases hb : nxO n h wt (drS n h wt o0 l0 m).1 with
      | none => rw [drS, hb]; exact ih
      | some b =>
        rw [drS, hb]
        simp only [upd]
        rw [if_neg (by omega)]
        exact ih
theorem pcV_of {σ σ1 : Sg} {s p : Nat} {v : SpV} (h : isV σ s v) (hp : pcI σ s p (vN v) σ1) : pcV v p σ1 ∧ ∀ q, (q < iP p ∨ iP p + 4 < q) → σ1 q = σ q := by
  obtain ⟨H, o0, l0, a1, a2, a3, a4, a5, a6, a7, a8, a9, a10⟩ := hp
  have hn := h.1
  have b1 : ∀ k, k < vN v → H k = HV v k := fun k hk => (a1 k hk).trans (v_hm h hk)
  have b2 : ∀ k, k < vN v → wtS σ s k = WVv v k := fun k hk => v_wt h hk
  have b3 : ∀ k, k < vN v → l0 k = (fun _ => (-5 : Int32)) k := fun k hk => a2 k (by omega)
  have c1 := drS_c (o0 := o0) (o0' := fun _ => 0) b1 b2 b3 (vN v)
  have c2 : drC (vN v) H (wtS σ s) o0 l0 = DCv v := drC_c b1 b2 b3
  refine ⟨⟨a3, fun k hk => ⟨by rw [a4]; exact b1 k hk, by rw [a5 k hk]; exact wsO_congr b1 _ (Nat.le_refl _) k hk, by rw [a9]; exact c1.2.1 k hk⟩, by rw [a6]; exact c1.1, by rw [a7, c2], fun j hj => ?_⟩, a10⟩
  rw [a8]
  have hle : DCv v ≤ vN v := ffi_le _ _
  have hj2 : j < drC (vN v) H (wtS σ s) o0 l0 := by rw [c2]; exact hj
  rw [drS_ord (j := DCv v) hle hj]
  show _ = (DV v (vN v)).2.1 j
  have e1 : (DV v (vN v)).2.1 j = (DV v (DCv v)).2.1 j := drS_ord (j := DCv v) hle hj
  rw [e1]
  exact (drS_c (o0 := o0) (o0' := fun _ => 0) b1 b2 b3 (DCv v)).2.2 (fun i hi => ffi_no (p := fun j => (nxO (vN v) H (wtS σ s) (drS (vN v) H (wtS σ s) o0 l0 j).1).isNone) (n := vN v) (by rw [← c2] at hi; exact hi)) j hj
theorem rchI_c {h h' : Nat → Int32} {n k : Nat} (hk : k < n) (e : ∀ k, k < n → h k = h' k) : ∀ j, rchI h n k j = rchI h' n k j
  | 0 => e k hk
  | j + 1 => by rw [rchI, rchI, rchI_c hk e j, orI_c (fun _ _ => rfl) e]
theorem srO_c {h h' : Nat → Int32} {n k : Nat} (hk : k < n) (e : ∀ k, k < n → h k = h' k) : srO h n k = srO h' n k := by
  unfold srO
  rw [ffi_c (fun j _ => by rw [rchI_c hk e j])]
theorem srI_c {h h' : Nat → Int32} {n : Nat} (e : ∀ k, k < n → h k = h' k) : ∀ m, m ≤ n → srI h n m = srI h' n m
  | 0, _ => rfl
  | m + 1, hm => by rw [srI, srI, srI_c e m (by omega), srO_c (by omega) e]
theorem glI_c {l l' : Nat → Int32} : ∀ {n : Nat}, (∀ k, k < n → l k = l' k) → glI l n = glI l' n
  | 0, _ => rfl
  | n + 1, h => by rw [glI, glI, glI_c (fun k hk => h k (Nat.lt_succ_of_lt hk)), h n (Nat.lt_succ_self n)]
/-- the box that breaks a ring -/
def grV (v : SpV) : Option Nat := bestO (fun k => hasB (CVv v k) k) (fun k b => decide (voG (vLo v) (vHi v) b < voG (vLo v) (vHi v) k)) (vN v)
theorem grO_v {σ : Sg} {s : Nat} {v : SpV} (h : isV σ s v) {c : Nat → Int32} (hc : ∀ k, k < vN v → c k = CVv v k) : grO σ s c (vN v) = grV v :=
  bestO_congr (fun k hk => by rw [hc k hk]) (fun k b hk hb => by rw [v_vo h hk, v_vo h hb])
/-! what may change while something is tried: the second space, the newcomer, the pictures -/
def scr (q : Nat) : Prop := (48 ≤ q ∧ q < 96) ∨ q = 341 ∨ (336 ≤ q ∧ q ≤ 338) ∨ (353 ≤ q ∧ q ≤ 362)
def keepC (σ σ1 : Sg) : Prop := ∀ q, ¬ scr q → σ1 q = σ q
theorem keepC_rfl (σ : Sg) : keepC σ σ := fun _ _ => rfl
theorem keepC_tr {σ τ υ : Sg} (h1 : keepC σ τ) (h2 : keepC τ υ) : keepC σ υ := fun q hq => (h2 q hq).trans (h1 q hq)
theorem keepC_fr {σ σ1 : Sg} (h : frS 1 σ σ1) : keepC σ σ1 := fun q hq => h q (fun e => hq (Or.inr (Or.inl (by rw [e]; rfl)))) (fun j hj => by
  have h1 : ¬ (48 ≤ q ∧ q < 96) := fun x => hq (Or.inl x)
  refine ⟨?_, ?_, ?_⟩
  · unfold iBo bx; omega
  · unfold iL bx; omega
  · unfold iH bx; omega)
theorem keepC_pic {σ σ1 : Sg} {p : Nat} (hp : p < 2) (h : ∀ q, (q < iP p ∨ iP p + 4 < q) → σ1 q = σ q) : keepC σ σ1 := fun q hq => h q (by
  have h1 : ¬ (353 ≤ q ∧ q ≤ 362) := fun x => hq (Or.inr (Or.inr (Or.inr x)))
  unfold iP
  omega)
theorem isV_kc {σ σ1 : Sg} {s : Nat} {v : SpV} (hs : s < 7) (h1 : s ≠ 1) (h : isV σ s v) (hk : keepC σ σ1) : isV σ1 s v := by
  refine isV_keep h (hk _ (by unfold scr iS; omega)) (fun j hj => ⟨hk _ ?_, hk _ ?_, hk _ ?_⟩)
  · unfold scr iBo bx; omega
  · unfold scr iL bx; omega
  · unfold scr iH bx; omega
