/-! REFERENCE: what is asked -/
def bbV (v : SpV) (k : Nat) (w : Int32) : Int32 := cntI (fun j => beB (vLo v j) (vHi v j) (vLo v k) (vHi v k) && (decide (w = 0) || decide (vHi v j 2 = vLo v k 2))) (vN v)
theorem bb_sup (v : SpV) (k : Nat) : bbV v k 1 = supV v k := by
  unfold bbV supV
  simp
theorem bb_bel (v : SpV) (k : Nat) : bbV v k 0 = belV v k := by
  unfold bbV belV
  simp
def cvX (v : SpV) (k : Nat) (x y : Int32) : Bool := inW x (vLo v k 0) (vHi v k 0 - 1) && inW y (vLo v k 1) (vHi v k 1 - 1)
def shF (v : SpV) (k x y : Nat) : Bool := anyb (fun j => beB (vLo v k) (vHi v k) (vLo v j) (vHi v j) && cvX v j (nI x) (nI y)) (vN v)
def shY (v : SpV) (k a1 x : Nat) : Nat → Int32 := sumI (fun m => bI (shF v k x (a1 + m)))
def shT (v : SpV) (k a0 a1 n1 : Nat) : Nat → Int32 := sumI (fun i => shY v k a1 (a0 + i) n1)
def shX (v : SpV) (k : Nat) : Int32 := shT v k (vLo v k 0).toNatClampNeg (vLo v k 1).toNatClampNeg ((vHi v k 1).toNatClampNeg - (vLo v k 1).toNatClampNeg) ((vHi v k 0).toNatClampNeg - (vLo v k 0).toNatClampNeg)
theorem shX_at {v : SpV} {k a0 b0 a1 b1 : Nat} (h1 : vLo v k 0 = nI a0) (h2 : vHi v k 0 = nI b0) (h3 : vLo v k 1 = nI a1) (h4 : vHi v k 1 = nI b1) (q1 : a0 < 2 ^ 31) (q2 : b0 < 2 ^ 31) (q3 : a1 < 2 ^ 31) (q4 : b1 < 2 ^ 31) : shX v k = shT v k a0 a1 (b1 - a1) (b0 - a0) := by
  unfold shX
  rw [h1, h2, h3, h4, nI_clamp q1, nI_clamp q2, nI_clamp q3, nI_clamp q4]
def peOn (v : SpV) : Prop := ∀ k, k < vN v → onI (HV v k) = bcI (HV v k)
def peRg (v : SpV) : Prop := onI (rgI v) = cntI (fun k => hasB (CVv v k) k) (vN v)
def peLy (v : SpV) : Prop := ∀ k, k < vN v → lyX v k = LV v k
def peSr (v : SpV) : Prop := ∀ k, k < vN v → (hasB (CVv v k) k = true → exN v k < vN v ∧ srO (HV v) (vN v) k = nI (exN v k + 1)) ∧ (hasB (CVv v k) k = false → srO (HV v) (vN v) k = -5)
def peSa (v : SpV) : Prop := srX v (vN v) = srI (HV v) (vN v) (vN v)
def peSh (v : SpV) : Prop := ∀ k, k < vN v → shX v k = shaV v k
def peDr (v : SpV) : Prop := lfC v (lf0 v 0) = DCv v ∧ ∀ j, j < DCv v → odS v (lf0 v 0) j = OV v j
def peDs (v : SpV) : Prop := dsI (odS v (lf0 v 0)) (lfC v (lf0 v 0)) = BV v
def peWa (v : SpV) : Prop := ∀ k, k < vN v → hasB (BV v) k = true → waI v k = -1
def peWo (v : SpV) : Prop := ∀ k, k < vN v → lfC v (lf0 v (bitI k)) = DCv (rmV v k)
def pePr (v : SpV) : Prop := ∀ a b, a < vN v → b < vN v → ¬ a = b → dhV v a b = -1 ∨ dhV v b a = -1
theorem pair_eq {v : SpV} {a b : Nat} (hp : pePr v) (ha : a < vN v) (hb : b < vN v) (h : ¬ a = b) : (if 0 < hbI v b a then 3 + hbI v b a else hbI v a b) = (if ¬ dhV v a b = -1 then 1 + dhV v a b else if ¬ dhV v b a = -1 then 4 + dhV v b a else 0) := by
  have e1 : hbI v b a = dhV v b a + 1 := if_neg (fun q => h q.symm)
  have e2 : hbI v a b = dhV v a b + 1 := if_neg h
  rw [e1, e2]
  rcases hp a b ha hb h with q | q
  · rw [q]
    rcases dh_cases v b a with r | r | r | r <;> (rw [r]; decide)
  · rw [q]
    rcases dh_cases v a b with r | r | r | r <;> (rw [r]; decide)
theorem dsI_c {o o' : Nat → Int32} : ∀ {n : Nat}, (∀ j, j < n → o j = o' j) → dsI o n = dsI o' n
  | 0, _ => rfl
  | n + 1, h => by rw [dsI, dsI, dsI_c (fun j hj => h j (Nat.lt_succ_of_lt hj)), h n (Nat.lt_succ_self n)]
def wtP (v : SpV) (k j : Nat) : Bool := hasB (HV v k) j && !hasB (BV v) j
/-- looked through from above: what is found at or over m -/
def wtS2 (v : SpV) (k m : Nat) (x : Int32) : Prop := (x = -5 ∧ ∀ j, m ≤ j → j < vN v → wtP v k j = false) ∨ ∃ j, m ≤ j ∧ j < vN v ∧ wtP v k j = true ∧ (∀ i, m ≤ i → i < j → wtP v k i = false) ∧ x = vNu v j
theorem wt2_no {v : SpV} {k m : Nat} {x : Int32} (h : wtS2 v k (m + 1) x) (c : wtP v k m = false) : wtS2 v k m x := by
  rcases h with ⟨e, h⟩ | ⟨j, h1, h2, h3, h4, h5⟩
  · refine Or.inl ⟨e, fun j hj hj2 => ?_⟩
    by_cases q : j = m
    · rw [q]; exact c
    · exact h j (by omega) hj2
  · refine Or.inr ⟨j, by omega, h2, h3, fun i hi hi2 => ?_, h5⟩
    by_cases q : i = m
    · rw [q]; exact c
    · exact h4 i (by omega) hi2
theorem wt2_yes {v : SpV} {k m : Nat} (hm : m < vN v) (c : wtP v k m = true) : wtS2 v k m (vNu v m) := Or.inr ⟨m, Nat.le_refl _, hm, c, fun i hi hi2 => by omega, rfl⟩
theorem wt2_end {v : SpV} {k : Nat} {x : Int32} (hn : vN v ≤ 16) (h : wtS2 v k 0 x) : x = if waI v k = -1 then -5 else vNu v (waI v k).toNatClampNeg := by
  unfold waI
  rcases h with ⟨e, h⟩ | ⟨j, h1, h2, h3, h4, h5⟩
  · rw [fI_none (p := fun j => hasB (HV v k) j && !hasB (BV v) j) (fun j hj => h j (Nat.zero_le _) hj), if_pos rfl, e]
  · rw [fI_hit (p := fun j => hasB (HV v k) j && !hasB (BV v) j) (fun i hi => h4 i (Nat.zero_le _) hi) h3 h2, if_neg (nI_nm1 (by omega)), nI_clamp (by omega), h5]
theorem wtP_has {v : SpV} {k j : Nat} (hj : j < 32) : hasB (HV v k &&& (BV v ^^^ -1)) j = wtP v k j := by
  rw [hasB_and _ _ hj, hasB_not _ hj]
  rfl
theorem pred_neg {m : Nat} (hm : m < 2 ^ 30) : nI m - 1 < 0 ↔ m = 0 := by
  cases m with
  | zero => exact ⟨fun _ => rfl, fun _ => by decide⟩
  | succ q =>
    rw [nI_pred]
    exact ⟨fun h => absurd h (nI_pos (by omega)), fun h => by omega⟩
theorem dr_ans {S : StV} {y : Int32} {j : Nat} (h0 : ¬ y < 0) (hj : j < DCv (qC S)) (hy : y = nI j) (hn : vN (qC S) ≤ 16) {b : Nat} (hb : OV (qC S) j = nI b) (hb2 : b < 16) : oDrawn S y = (vNu (qC S) b, S) := by
  have hle : DCv (qC S) ≤ vN (qC S) := ffi_le _ _
  rw [oDrawn, if_neg h0, hy, if_pos (nI_lt hj (by omega)), nI_clamp (by omega), hb, nI_clamp (by omega)]
theorem dr_out {S : StV} {y : Int32} (h0 : ¬ y < 0) (h : ¬ y < nI (DCv (qC S))) : oDrawn S y = (-5, S) := by
  rw [oDrawn, if_neg h0, if_neg h]
theorem daI_kr {v : SpV} {l0 : Int32} {σ σ1 : Sg} (h : daI v l0 σ σ1) : keepRf σ σ1 := ⟨fun q hq => h.2.2.2.1 q (by omega) (by omega), fun i a _ _ => h.2.2.2.2 i a⟩
theorem lyI_kr {v : SpV} {σ σ1 : Sg} (h : lyI v σ σ1) : keepRf σ σ1 := ⟨fun q hq => h.2 q (by omega), fun i _ _ _ => by rw [h.2 369 (by omega)]⟩
theorem okMd_ro {σ σ1 : Sg} {S : StV} {r x : Int32} (h : isMd σ S) (hk : keepRf σ σ1) (e : r = x) : okMd σ (x, S) r σ1 := ⟨e, isMd_kr h hk, keepLw_kr hk⟩
theorem shF_f {v : SpV} {k x y : Nat} {x5 : Int32} (h : x5 = bI (anyb (fun j => beB (vLo v k) (vHi v k) (vLo v j) (vHi v j) && cvX v j (nI x) (nI y)) (vN v))) (c : x5 = 0) : (0 : Int32) = bI (shF v k x y) := by
  rw [← c, h]
  rfl
theorem shF_t {v : SpV} {k x y : Nat} {x5 : Int32} (h : x5 = bI (anyb (fun j => beB (vLo v k) (vHi v k) (vLo v j) (vHi v j) && cvX v j (nI x) (nI y)) (vN v))) (c : ¬ x5 = 0) : (1 : Int32) = bI (shF v k x y) := by
  rw [h] at c
  have := bI_t c
  unfold shF
  rw [this]
  rfl
theorem dec_iinc (m : Nat) : nI m + Int32.ofInt (-1) = nI m - 1 := by
  rw [Int32.sub_eq_add_neg]
  rfl
