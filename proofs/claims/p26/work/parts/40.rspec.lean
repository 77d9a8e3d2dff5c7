/-! REFERENCE: its cells as a value -/
theorem nI_mulR (a b : Nat) : nI a * nI b = nI (a * b) := (Int32.ofNat_mul a b).symm
theorem zix (k i : Nat) : (4 : Int32) + 7 * nI k + nI i = nI (4 + 7 * k + i) := by
  show nI 4 + nI 7 * nI k + nI i = _
  rw [nI_mulR, nI_add, nI_add]
theorem zix0 (k : Nat) : (4 : Int32) + 7 * nI k = nI (4 + 7 * k) := by
  show nI 4 + nI 7 * nI k = _
  rw [nI_mulR, nI_add]
theorem one_d (d : Nat) : (1 : Int32) + nI d = nI (1 + d) := nI_add 1 d
theorem four_d (d : Nat) : (4 : Int32) + nI d = nI (4 + d) := nI_add 4 d
/-- a z array holds a value -/
def isZ (z : Nat → Int32) (v : SpV) : Prop := vN v ≤ 16 ∧ z 0 = nI (vN v) ∧ z 1 = vX v ∧ z 2 = vSp v ∧ z 3 = vRu v ∧ (∀ j, j < vN v → z (4 + 7 * j + 0) = vNu v j) ∧ ∀ j, j < vN v → ∀ d, d < 3 → z (4 + 7 * j + (1 + d)) = vLo v j d ∧ z (4 + 7 * j + (4 + d)) = vHi v j d - vLo v j d
def bxZ (v w : SpV) : Prop := vN v = vN w ∧ vX v = vX w ∧ vSp v = vSp w ∧ vRu v = vRu w ∧ (∀ j, j < vN v → vNu v j = vNu w j) ∧ ∀ j, j < vN v → ∀ d, d < 3 → vLo v j d = vLo w j d ∧ vHi v j d = vHi w j d
theorem isZ_c {z : Nat → Int32} {v w : SpV} (h : isZ z v) (e : bxZ v w) : isZ z w := by
  obtain ⟨h0, h1, h2, h3, h4, h5, h6⟩ := h
  obtain ⟨e0, e1, e2, e3, e4, e5⟩ := e
  refine ⟨by omega, by rw [h1, e0], by rw [h2, e1], by rw [h3, e2], by rw [h4, e3], fun j hj => ?_, fun j hj d hd => ?_⟩
  · rw [h5 j (by omega), e4 j (by omega)]
  · rw [← (e5 j (by omega) d hd).1, ← (e5 j (by omega) d hd).2]
    exact h6 j (by omega) d hd
theorem isZ_z {z z' : Nat → Int32} {v : SpV} (h : isZ z v) (e : ∀ i, i < 116 → z' i = z i) : isZ z' v := by
  obtain ⟨h0, h1, h2, h3, h4, h5, h6⟩ := h
  refine ⟨h0, by rw [e _ (by omega), h1], by rw [e _ (by omega), h2], by rw [e _ (by omega), h3], by rw [e _ (by omega), h4], fun j hj => ?_, fun j hj d hd => ?_⟩
  · rw [e _ (by omega)]; exact h5 j hj
  · rw [e _ (by omega), e _ (by omega)]; exact h6 j hj d hd
/-- a word is between -/
def inL (x : Int64) (a b : Int32) : Bool := !decide (x < a.toInt64) && !decide (b.toInt64 < x)
def inW (x a b : Int32) : Bool := !decide (x < a) && !decide (b < x)
theorem wide_ltR (a b : Int32) : a.toInt64 < b.toInt64 ↔ a < b := by rw [Int64.lt_iff_toInt_lt, Int32.lt_iff_toInt_lt, Int32.toInt_toInt64, Int32.toInt_toInt64]
theorem inL_W (x a b : Int32) : inL x.toInt64 a b = inW x a b := by
  unfold inL inW
  rw [decide_eq_decide.mpr (wide_ltR x a), decide_eq_decide.mpr (wide_ltR b x)]
theorem in_1 {x : Int64} {a b : Int32} (h : lg_cmp x a.toInt64 < 0) : inL x a b = false := by
  have := (lg_cmp_lt _ _).mp h
  simp [inL, this]
theorem in_2 {x : Int64} {a b : Int32} (h : 0 < lg_cmp x b.toInt64) : inL x a b = false := by
  have := (lg_cmp_gt _ _).mp h
  simp [inL, this]
theorem in_3 {x : Int64} {a b : Int32} (h : ¬ lg_cmp x a.toInt64 < 0) (h2 : ¬ 0 < lg_cmp x b.toInt64) : inL x a b = true := by
  have h3 : ¬ x < a.toInt64 := fun q => h ((lg_cmp_lt _ _).mpr q)
  have h4 : ¬ b.toInt64 < x := fun q => h2 ((lg_cmp_gt _ _).mpr q)
  simp [inL, h3, h4]
theorem dirB_W (d : Int32) : inW d 0 2 = dirB d := by
  unfold inW dirB
  have : (!decide ((2 : Int32) < d)) = decide (d < 3) := by
    rw [← decide_not]
    refine decide_eq_decide.mpr ?_
    rw [Int32.lt_iff_toInt_lt, Int32.lt_iff_toInt_lt, show (2 : Int32).toInt = 2 from by decide, show (3 : Int32).toInt = 3 from by decide]
    omega
  rw [this]
/-- the last bit -/
theorem bit_01 (x : Int32) : x &&& 1 = 0 ∨ x &&& 1 = 1 := by
  have h : x.toBitVec &&& 1#32 = BitVec.setWidth 32 (BitVec.ofBool (x.toBitVec.getLsbD 0)) := BitVec.and_one_eq_setWidth_ofBool_getLsbD
  cases hb : x.toBitVec.getLsbD 0 with
  | false =>
    left
    rw [hb] at h
    exact Int32.toBitVec_inj.mp (by rw [Int32.toBitVec_and]; exact h)
  | true =>
    right
    rw [hb] at h
    exact Int32.toBitVec_inj.mp (by rw [Int32.toBitVec_and]; exact h)
theorem has_1 {x : Int32} {k : Nat} (h : ¬ x >>> (nI k &&& 31) &&& 1 = 1) : hasB x k = false := by
  rcases bit_01 (x >>> (nI k &&& 31)) with e | e
  · simp [hasB, e]
  · exact absurd e h
theorem has_2 {x : Int32} {k : Nat} (h : x >>> (nI k &&& 31) &&& 1 = 1) : hasB x k = true := by
  simp [hasB, h]
def onI (x : Int32) : Int32 := sumI (fun k => x >>> (nI k &&& 31) &&& 1) 16
/-- the last that is so -/
def lmI (p : Nat → Bool) : Nat → Int32
  | 0 => -1
  | k + 1 => if p k then nI k else lmI p k
def uniV (v : SpV) : Prop := ∀ j k, j < k → k < vN v → ¬ vNu v j = vNu v k
theorem lmI_no {p : Nat → Bool} : ∀ {n : Nat}, (∀ j, j < n → p j = false) → lmI p n = -1
  | 0, _ => rfl
  | n + 1, h => by
    rw [lmI, if_neg (by simp [h n (Nat.lt_succ_self n)])]
    exact lmI_no (fun j hj => h j (Nat.lt_succ_of_lt hj))
theorem lmI_hit {p : Nat → Bool} {k : Nat} (hk : p k = true) : ∀ {n : Nat}, (∀ j, k < j → j < n → p j = false) → k < n → lmI p n = nI k
  | 0, _, h => absurd h (Nat.not_lt_zero k)
  | n + 1, h1, h => by
    rw [lmI]
    by_cases e : k = n
    · subst e
      rw [if_pos hk]
    · rw [if_neg (by simp [h1 n (by omega) (Nat.lt_succ_self n)])]
      exact lmI_hit hk (fun j a b => h1 j a (by omega)) (by omega)
theorem ffi_at {p : Nat → Bool} : ∀ {n : Nat}, ffi p n < n → p (ffi p n) = true
  | 0, h => absurd h (Nat.not_lt_zero _)
  | n + 1, h => by
    have hl := ffi_le p n
    rw [ffi] at h ⊢
    by_cases c : ffi p n < n
    · rw [if_pos c]
      exact ffi_at c
    · rw [if_neg c] at h ⊢
      by_cases d : p n = true
      · rw [if_pos d]
        exact d
      · rw [if_neg d] at h
        omega
theorem rk_eq {v : SpV} {x : Int32} (hu : uniV v) : lmI (fun k => decide (vNu v k = x)) (vN v) = fI (fun k => decide (vNu v k = x)) (vN v) := by
  by_cases c : ffi (fun k => decide (vNu v k = x)) (vN v) < vN v
  · have hh : fI (fun k => decide (vNu v k = x)) (vN v) = nI (ffi (fun k => decide (vNu v k = x)) (vN v)) := by rw [fI, if_pos c]
    have hp := ffi_at (p := fun k => decide (vNu v k = x)) c
    rw [hh]
    refine lmI_hit hp (fun j hj hj2 => ?_) c
    simp only [decide_eq_true_eq] at hp
    simp only [decide_eq_false_iff_not]
    intro q
    exact hu _ _ hj hj2 (by rw [hp, q])
  · have hh : fI (fun k => decide (vNu v k = x)) (vN v) = -1 := by rw [fI, if_neg c]
    rw [hh]
    refine lmI_no (fun j hj => ?_)
    have hl := ffi_le (fun k => decide (vNu v k = x)) (vN v)
    exact ffi_no (p := fun k => decide (vNu v k = x)) (n := vN v) (by omega)
theorem ctBx_sym (a b c d : V3) : ctBx a b c d = ctBx c d a b := by
  unfold ctBx mtB
  rw [Bool.and_comm (decide (a 0 < d 0)), Bool.and_comm (decide (a 1 < d 1)), Bool.and_comm (decide (a 2 < d 2))]
def rBl (l1 h1 l2 h2 : V3) (d e : Nat) : Bool := decide (l1 d - h1 e < h2 d - l2 e)
theorem md_rB (l1 h1 l2 h2 : V3) (d e : Nat) : md l1 h1 l2 h2 d e = (rBl l1 h1 l2 h2 d e && rBl l2 h2 l1 h1 d e) := rfl
def hbI (v : SpV) (a b : Nat) : Int32 := if a = b then 0 else dhV v a b + 1
theorem hb_in {v : SpV} {a b : Nat} {x : Int32} (hx : x = fI (fun d => !decide (vLo v a d < vHi v b d)) 3 + 1) (h1 : ¬ a = b) (h2 : ovB (vLo v a) (vHi v a) (vLo v b) (vHi v b) = true) : x = hbI v a b := by
  rw [hbI, if_neg h1, dhV, dhB, if_pos h2, hx]
theorem hb_out {v : SpV} {a b : Nat} (h : a = b ∨ ovB (vLo v a) (vHi v a) (vLo v b) (vHi v b) = false) : (0 : Int32) = hbI v a b := by
  rw [hbI]
  by_cases e : a = b
  · rw [if_pos e]
  · rw [if_neg e, dhV, dhB, if_neg (by rcases h with h | h; exact absurd h e; simp [h])]
    decide
theorem fI3_0 {p : Nat → Bool} (h : p 0 = true) : (1 : Int32) = fI p 3 + 1 := by
  rw [fI_hit (k := 0) (fun j hj => absurd hj (Nat.not_lt_zero j)) h (by omega)]
  decide
theorem fI3_1 {p : Nat → Bool} (h0 : p 0 = false) (h : p 1 = true) : (2 : Int32) = fI p 3 + 1 := by
  rw [fI_hit (k := 1) (fun j hj => by rcases (show j = 0 by omega) with rfl; exact h0) h (by omega)]
  decide
theorem fI3_2 {p : Nat → Bool} (h0 : p 0 = false) (h1 : p 1 = false) (h : p 2 = true) : (3 : Int32) = fI p 3 + 1 := by
  rw [fI_hit (k := 2) (fun j hj => by rcases (show j = 0 ∨ j = 1 by omega) with rfl | rfl; exact h0; exact h1) h (by omega)]
  decide
theorem fI3_n {p : Nat → Bool} (h0 : p 0 = false) (h1 : p 1 = false) (h : p 2 = false) : (0 : Int32) = fI p 3 + 1 := by
  rw [fI_none (fun j hj => by rcases (show j = 0 ∨ j = 1 ∨ j = 2 by omega) with rfl | rfl | rfl; exact h0; exact h1; exact h)]
  decide
/-- what only the reference's scratch changes leave -/
def keepRf (σ σ1 : Sg) : Prop := (∀ q, q < 369 ∨ (370 ≤ q ∧ q ≤ 374 ∧ q ≠ 371) → σ1 q = σ q) ∧ ∀ i, i ≠ 12 → i ≠ 15 → i ≠ 16 → σ1 369 i = σ 369 i
theorem keepRf_rfl (σ : Sg) : keepRf σ σ := ⟨fun _ _ => rfl, fun _ _ _ _ => rfl⟩
theorem keepRf_tr {σ τ υ : Sg} (h1 : keepRf σ τ) (h2 : keepRf τ υ) : keepRf σ υ := ⟨fun q hq => (h2.1 q hq).trans (h1.1 q hq), fun i a b c => (h2.2 i a b c).trans (h1.2 i a b c)⟩
theorem keepRf_up {σ : Sg} {q i : Nat} {x : Int32} (hq : 375 ≤ q ∨ q = 371) : keepRf σ (upS σ q i x) := ⟨fun p hp => up_ne (by omega), fun j _ _ _ => by rw [up_ne (show 369 ≠ q by omega)]⟩
theorem keepRf_f {σ : Sg} {i : Nat} {x : Int32} (hi : i = 12 ∨ i = 15 ∨ i = 16) : keepRf σ (upS σ 369 i x) := ⟨fun p hp => up_ne (by omega), fun j a b c => by rw [up_get, if_neg (by omega)]⟩
theorem keepRf_z {σ σ1 : Sg} {v : SpV} (h : isZ (σ 370) v) (hk : keepRf σ σ1) : isZ (σ1 370) v := by rw [hk.1 370 (by omega)]; exact h
