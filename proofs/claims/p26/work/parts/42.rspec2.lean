/-! REFERENCE: who hides whom, rings, layers, the drawing -/
theorem dh_cases (v : SpV) (a b : Nat) : dhV v a b = -1 ∨ dhV v a b = 0 ∨ dhV v a b = 1 ∨ dhV v a b = 2 := by
  unfold dhV dhB
  split
  · unfold fI
    split
    · rename_i h
      rcases (show ffi (fun d => !decide (vLo v a d < vHi v b d)) 3 = 0 ∨ ffi (fun d => !decide (vLo v a d < vHi v b d)) 3 = 1 ∨ ffi (fun d => !decide (vLo v a d < vHi v b d)) 3 = 2 by omega) with e | e | e
      · rw [e]; exact Or.inr (Or.inl (by decide))
      · rw [e]; exact Or.inr (Or.inr (Or.inl (by decide)))
      · rw [e]; exact Or.inr (Or.inr (Or.inr (by decide)))
    · exact Or.inl rfl
  · exact Or.inl rfl
theorem hb_pos {v : SpV} {a b : Nat} (h : 0 < hbI v a b) : hdG (vLo v) (vHi v) a b = true := by
  unfold hbI at h
  by_cases e : a = b
  · rw [if_pos e] at h
    exact absurd h (by decide)
  · rw [if_neg e] at h
    have e2 : ¬ b = a := fun q => e q.symm
    have h2 : ¬ dhV v a b = -1 := fun q => by rw [q] at h; exact absurd h (by decide)
    unfold hdG
    rw [decide_eq_false e2, decide_eq_false (show ¬ dhB (vLo v a) (vHi v a) (vLo v b) (vHi v b) = -1 from h2)]
    rfl
theorem hb_neg {v : SpV} {a b : Nat} (h : ¬ 0 < hbI v a b) : hdG (vLo v) (vHi v) a b = false := by
  unfold hbI at h
  unfold hdG
  by_cases e : a = b
  · rw [decide_eq_true e.symm]
    rfl
  · rw [if_neg e] at h
    have h2 : dhB (vLo v a) (vHi v a) (vLo v b) (vHi v b) = -1 := by
      have h3 : dhV v a b = -1 := by
        rcases dh_cases v a b with q | q | q | q
        · exact q
        · rw [q] at h; exact absurd (by decide) h
        · rw [q] at h; exact absurd (by decide) h
        · rw [q] at h; exact absurd (by decide) h
      exact h3
    rw [decide_eq_true h2]
    simp
theorem or_0 (x : Int32) : x ||| 0 = x := Int32.or_zero
def fhF (σ τ : Sg) : Prop := ∀ q, q ≠ 375 → q ≠ 376 → τ q = σ q
def fh1 (v : SpV) (σ : Sg) (k : Nat) (τ : Sg) : Prop := (∀ j, j < k → τ 375 j = HV v j ∧ τ 376 j = HV v j) ∧ fhF σ τ
def fh2 (v : SpV) (σ : Sg) (k j : Nat) (τ : Sg) : Prop := (∀ i, i < k → τ 375 i = HV v i ∧ τ 376 i = HV v i) ∧ τ 375 k = orI (hdG (vLo v) (vHi v) k) bitI j ∧ fhF σ τ
def fh3 (v : SpV) (σ : Sg) (w : Nat) (τ : Sg) : Prop := (∀ k, k < vN v → τ 375 k = HV v k ∧ τ 376 k = wsO (HV v) (vN v) w k) ∧ fhF σ τ
def fh4 (v : SpV) (σ : Sg) (w m : Nat) (τ : Sg) : Prop := (∀ k, k < vN v → τ 375 k = HV v k ∧ τ 376 k = wsR (wsO (HV v) (vN v) w) w m k) ∧ fhF σ τ
def fhI (v : SpV) (σ σ1 : Sg) : Prop := (∀ k, k < vN v → σ1 375 k = HV v k ∧ σ1 376 k = CVv v k) ∧ fhF σ σ1
theorem fhF_5 {σ τ : Sg} {k : Nat} {x : Int32} (h : fhF σ τ) : fhF σ (upS τ 375 k x) := fun q a b => by rw [up_ne a]; exact h q a b
theorem fhF_6 {σ τ : Sg} {k : Nat} {x : Int32} (h : fhF σ τ) : fhF σ (upS τ 376 k x) := fun q a b => by rw [up_ne b]; exact h q a b
theorem fh2_0 {v : SpV} {σ τ : Sg} {k : Nat} (h : fh1 v σ k τ) : fh2 v σ k 0 (upS τ 375 k 0) := by
  refine ⟨fun i hi => ?_, by rw [up_get, if_pos ⟨rfl, rfl⟩]; rfl, fhF_5 h.2⟩
  rw [up_get, if_neg (by omega), up_ne (by omega)]
  exact h.1 i hi
theorem fh2_yes {v : SpV} {σ τ : Sg} {k j : Nat} (h : fh2 v σ k j τ) (c : hdG (vLo v) (vHi v) k j = true) : fh2 v σ k (j + 1) (upS τ 375 k (τ 375 k ||| bitI j)) := by
  refine ⟨fun i hi => ?_, by rw [up_get, if_pos ⟨rfl, rfl⟩, h.2.1, orI, if_pos c], fhF_5 h.2.2⟩
  rw [up_get, if_neg (by omega), up_ne (by omega)]
  exact h.1 i hi
theorem fh2_no {v : SpV} {σ τ : Sg} {k j : Nat} (h : fh2 v σ k j τ) (c : hdG (vLo v) (vHi v) k j = false) : fh2 v σ k (j + 1) (upS τ 375 k (τ 375 k ||| 0)) := by
  refine ⟨fun i hi => ?_, by rw [up_get, if_pos ⟨rfl, rfl⟩, h.2.1, orI, if_neg (by simp [c]), or_0], fhF_5 h.2.2⟩
  rw [up_get, if_neg (by omega), up_ne (by omega)]
  exact h.1 i hi
theorem fh1_s {v : SpV} {σ τ : Sg} {k : Nat} (h : fh2 v σ k (vN v) τ) : fh1 v σ (k + 1) (upS τ 376 k (τ 375 k)) := by
  refine ⟨fun i hi => ?_, fhF_6 h.2.2⟩
  rw [up_ne (by omega), up_get]
  by_cases e : i = k
  · subst e
    rw [if_pos ⟨rfl, rfl⟩, h.2.1]
    exact ⟨rfl, rfl⟩
  · rw [if_neg (by omega)]
    exact h.1 i (by omega)
theorem fh3_0 {v : SpV} {σ τ : Sg} (h : fh1 v σ (vN v) τ) : fh3 v σ 0 τ := ⟨fun k hk => h.1 k hk, h.2⟩
theorem fh4_0 {v : SpV} {σ τ : Sg} {w : Nat} (h : fh3 v σ w τ) : fh4 v σ w 0 τ := h
theorem fh4_yes {v : SpV} {σ τ : Sg} {w m : Nat} (hw : w < vN v) (hm : m < vN v) (h : fh4 v σ w m τ) (c : hasB (τ 376 m) w = true) : fh4 v σ w (m + 1) (upS τ 376 m (τ 376 m ||| τ 376 w)) := by
  refine ⟨fun k hk => ⟨by rw [up_ne (by omega)]; exact (h.1 k hk).1, ?_⟩, fhF_6 h.2⟩
  rw [(h.1 m hm).2] at c
  rw [wsR, if_pos c, up_get]
  by_cases e : k = m
  · subst e
    rw [if_pos ⟨rfl, rfl⟩, (h.1 k hm).2, (h.1 w hw).2]
    simp [upd]
  · rw [if_neg (by omega), (h.1 k hk).2]
    simp [upd, e]
theorem fh4_no {v : SpV} {σ τ : Sg} {w m : Nat} (hm : m < vN v) (h : fh4 v σ w m τ) (c : hasB (τ 376 m) w = false) : fh4 v σ w (m + 1) (upS τ 376 m (τ 376 m ||| 0)) := by
  refine ⟨fun k hk => ⟨by rw [up_ne (by omega)]; exact (h.1 k hk).1, ?_⟩, fhF_6 h.2⟩
  rw [(h.1 m hm).2] at c
  rw [wsR, if_neg (by simp [c]), up_get, or_0]
  by_cases e : k = m
  · subst e
    rw [if_pos ⟨rfl, rfl⟩]
    exact (h.1 k hk).2
  · rw [if_neg (by omega)]
    exact (h.1 k hk).2
theorem fh3_s {v : SpV} {σ τ : Sg} {w : Nat} (h : fh4 v σ w (vN v) τ) : fh3 v σ (w + 1) τ := h
theorem fhI_of {v : SpV} {σ τ : Sg} (h : fh3 v σ (vN v) τ) : fhI v σ τ := h
def rgI (v : SpV) : Int32 := orI (fun k => hasB (CVv v k) k) bitI (vN v)
def exW (h : Nat → Int32) (n k : Nat) : Nat → Int32
  | 0 => h k
  | j + 1 => orI (hasB (exW h n k j)) h n
def exN (v : SpV) (k : Nat) : Nat := ffi (fun j => hasB (exW (HV v) (vN v) k j) k) (vN v)
theorem exN_hit {v : SpV} {k j : Nat} (hj : j ≤ exN v k) (hr : exN v k < vN v) (h : hasB (exW (HV v) (vN v) k j) k = true) : j = exN v k := by
  by_cases c : j < exN v k
  · have := ffi_no (p := fun j => hasB (exW (HV v) (vN v) k j) k) c
    simp only [h] at this
    cases this
  · omega
theorem exN_go {v : SpV} {k j : Nat} (hj : j ≤ exN v k) (hr : exN v k < vN v) (h : hasB (exW (HV v) (vN v) k j) k = false) : j + 1 ≤ exN v k := by
  by_cases c : j = exN v k
  · have q : hasB (exW (HV v) (vN v) k (exN v k)) k = true := ffi_at (p := fun j => hasB (exW (HV v) (vN v) k j) k) (n := vN v) hr
    rw [← c, h] at q
    cases q
  · omega
def srX (v : SpV) : Nat → Int32
  | 0 => -5
  | m + 1 => if hasB (CVv v m) m then (if srX v m < 0 then nI (exN v m + 1) else if nI (exN v m + 1) < srX v m then nI (exN v m + 1) else srX v m) else srX v m
def ly0 (v : SpV) (k : Nat) : Int32 := if hasB (rgI v) k then -5 else if CVv v k &&& rgI v = 0 then 0 else -5
def lyJ (v : SpV) (L : Nat → Int32) (k : Nat) : Nat → Nat → Int32
  | 0 => L
  | m + 1 => upd (lyJ v L k m) k (if lyJ v L k m k < 0 then lyJ v L k m k else if hasB (HV v k) m then (if lyJ v L k m m < lyJ v L k m k then lyJ v L k m k else lyJ v L k m m + 1) else lyJ v L k m k)
def lyK (v : SpV) (L : Nat → Int32) : Nat → Nat → Int32
  | 0 => L
  | m + 1 => lyJ v (lyK v L m) m (vN v)
def lyR (v : SpV) : Nat → Nat → Int32
  | 0 => ly0 v
  | r + 1 => lyK v (lyR v r) (vN v)
def lyX (v : SpV) : Nat → Int32 := lyR v (vN v)
def ly7 (v : SpV) (σ : Sg) (L : Nat → Int32) (τ : Sg) : Prop := (∀ k, k < vN v → τ 377 k = L k) ∧ ∀ q, q ≠ 377 → τ q = σ q
def ly7h (v : SpV) (σ : Sg) (m : Nat) (τ : Sg) : Prop := (∀ k, k < m → τ 377 k = ly0 v k) ∧ ∀ q, q ≠ 377 → τ q = σ q
theorem ly7h_s {v : SpV} {σ τ : Sg} {m : Nat} {x : Int32} (h : ly7h v σ m τ) (hx : x = ly0 v m) : ly7h v σ (m + 1) (upS τ 377 m x) := by
  refine ⟨fun k hk => ?_, fun q hq => by rw [up_ne hq]; exact h.2 q hq⟩
  rw [up_get]
  by_cases e : k = m
  · subst e
    rw [if_pos ⟨rfl, rfl⟩, hx]
  · rw [if_neg (by omega)]
    exact h.1 k (by omega)
theorem ly7_s {v : SpV} {σ τ : Sg} {L : Nat → Int32} {k m : Nat} {x : Int32} (h : ly7 v σ (lyJ v L k m) τ) (hx : x = (if lyJ v L k m k < 0 then lyJ v L k m k else if hasB (HV v k) m then (if lyJ v L k m m < lyJ v L k m k then lyJ v L k m k else lyJ v L k m m + 1) else lyJ v L k m k)) : ly7 v σ (lyJ v L k (m + 1)) (upS τ 377 k x) := by
  refine ⟨fun i hi => ?_, fun q hq => by rw [up_ne hq]; exact h.2 q hq⟩
  rw [up_get, lyJ]
  by_cases e : i = k
  · subst e
    rw [if_pos ⟨rfl, rfl⟩, hx]
    simp only [upd]
    rw [if_pos trivial]
  · rw [if_neg (by omega), h.1 i hi]
    simp only [upd]
    rw [if_neg e]
def lyI (v : SpV) (σ σ1 : Sg) : Prop := (∀ k, k < vN v → σ1 377 k = lyX v k) ∧ ∀ q, q ≠ 377 → σ1 q = σ q
/-! bits -/
theorem sh_amt : ∀ k : Fin 32, (nI k.val &&& 31).toBitVec.smod 32 = BitVec.ofNat 32 k.val := by decide +kernel
theorem hasB_bit (x : Int32) {k : Nat} (hk : k < 32) : hasB x k = x.toBitVec.getLsbD k := by
  have e1 : (x >>> (nI k &&& 31)).toBitVec = x.toBitVec.sshiftRight k := by
    rw [Int32.toBitVec_shiftRight, sh_amt ⟨k, hk⟩]
    show x.toBitVec.sshiftRight (BitVec.ofNat 32 k).toNat = _
    rw [BitVec.toNat_ofNat, Nat.mod_eq_of_lt (by omega)]
  have e2 : ((x >>> (nI k &&& 31)) &&& 1).toBitVec = BitVec.setWidth 32 (BitVec.ofBool ((x >>> (nI k &&& 31)).toBitVec.getLsbD 0)) := by
    rw [Int32.toBitVec_and]
    exact BitVec.and_one_eq_setWidth_ofBool_getLsbD
  rw [e1, BitVec.getLsbD_sshiftRight] at e2
  have e3 : (!decide (32 ≤ 0) && if k + 0 < 32 then x.toBitVec.getLsbD (k + 0) else x.toBitVec.msb) = x.toBitVec.getLsbD k := by
    rw [if_pos (by omega)]
    simp
  rw [e3] at e2
  unfold hasB
  cases hb : x.toBitVec.getLsbD k with
  | true =>
    rw [hb] at e2
    rw [decide_eq_false]
    · rfl
    · intro q
      rw [q] at e2
      exact absurd e2 (by decide)
  | false =>
    rw [hb] at e2
    rw [decide_eq_true]
    · rfl
    · exact Int32.toBitVec_inj.mp e2
theorem hasB_and (x y : Int32) {k : Nat} (hk : k < 32) : hasB (x &&& y) k = (hasB x k && hasB y k) := by
  rw [hasB_bit _ hk, hasB_bit _ hk, hasB_bit _ hk, Int32.toBitVec_and, BitVec.getLsbD_and]
theorem hasB_or (x y : Int32) {k : Nat} (hk : k < 32) : hasB (x ||| y) k = (hasB x k || hasB y k) := by
  rw [hasB_bit _ hk, hasB_bit _ hk, hasB_bit _ hk, Int32.toBitVec_or, BitVec.getLsbD_or]
theorem hasB_not (x : Int32) {k : Nat} (hk : k < 32) : hasB (x ^^^ -1) k = !hasB x k := by
  rw [hasB_bit _ hk, hasB_bit _ hk, Int32.toBitVec_xor, BitVec.getLsbD_xor]
  have : (-1 : Int32).toBitVec.getLsbD k = true := by
    have h : ∀ j : Fin 32, (-1 : Int32).toBitVec.getLsbD j.val = true := by decide +kernel
    exact h ⟨k, hk⟩
  rw [this, Bool.xor_true]
theorem hasB_0 {k : Nat} (hk : k < 32) : hasB 0 k = false := by
  have h : ∀ j : Fin 32, hasB 0 j.val = false := by decide +kernel
  exact h ⟨k, hk⟩
theorem hasB_bitI {b k : Nat} (hb : b < 32) (hk : k < 32) : hasB (bitI b) k = decide (k = b) := by
  have h : ∀ i j : Fin 32, hasB (bitI i.val) j.val = decide (j.val = i.val) := by decide +kernel
  exact h ⟨b, hb⟩ ⟨k, hk⟩
theorem hasB_orI {p : Nat → Bool} {f : Nat → Int32} {j : Nat} (hj : j < 32) : ∀ n, hasB (orI p f n) j = anyb (fun k => p k && hasB (f k) j) n
  | 0 => by rw [orI, hasB_0 hj]; rfl
  | n + 1 => by
    rw [orI, anyb, ← hasB_orI hj n]
    by_cases c : p n = true
    · rw [if_pos c, hasB_or _ _ hj, c, Bool.true_and]
    · rw [if_neg c, show p n = false by simpa using c, Bool.false_and, Bool.or_false]
/-! the drawing from a mask of what is left -/
def cntBt (x : Int32) : Nat → Nat
  | 0 => 0
  | n + 1 => if hasB x n then cntBt x n + 1 else cntBt x n
theorem cntBt_le (x : Int32) : ∀ n, cntBt x n ≤ n
  | 0 => Nat.le_refl _
  | n + 1 => by have := cntBt_le x n; rw [cntBt]; split <;> omega
theorem cntBt_c {x y : Int32} : ∀ {n : Nat}, (∀ k, k < n → hasB x k = hasB y k) → cntBt x n = cntBt y n
  | 0, _ => rfl
  | n + 1, h => by rw [cntBt, cntBt, cntBt_c (fun k hk => h k (Nat.lt_succ_of_lt hk)), h n (Nat.lt_succ_self n)]
theorem cntBt_cut {x : Int32} {b : Nat} (hx : hasB x b = true) : ∀ {n : Nat}, n ≤ 32 → b < n → cntBt (x &&& (bitI b ^^^ -1)) n + 1 = cntBt x n
  | 0, _, h => absurd h (Nat.not_lt_zero b)
  | n + 1, hn, h => by
    have hq : ∀ k, k < 32 → hasB (x &&& (bitI b ^^^ -1)) k = (hasB x k && !decide (k = b)) := fun k hk => by
      rw [hasB_and _ _ hk, hasB_not _ hk, hasB_bitI (by omega) hk]
    rw [cntBt, cntBt, hq n (by omega)]
    by_cases e : b = n
    · subst e
      rw [if_pos hx, if_neg (by simp), cntBt_c (y := x) (fun k hk => by rw [hq k (by omega), decide_eq_false (by omega)]; simp)]
    · have ih := cntBt_cut hx (n := n) (by omega) (by omega)
      rw [decide_eq_false (show ¬ n = b by omega)]
      simp only [Bool.not_false, Bool.and_true]
      split <;> omega
def nxL (v : SpV) (lf : Int32) : Option Nat := bestO (fun k => hasB lf k && decide (HV v k &&& lf = 0)) (fun k b => decide (WVv v k < WVv v b)) (vN v)
theorem bestO_p {p : Nat → Bool} {lt : Nat → Nat → Bool} : ∀ {n j : Nat}, bestO p lt n = some j → p j = true
  | 0, _, h => by cases h
  | n + 1, j, h => by
    by_cases c : p n = true
    · cases hb : bestO p lt n with
      | none =>
        rw [bestO_yes c (Or.inl hb)] at h
        injection h with h
        subst h
        exact c
      | some q =>
        by_cases d : lt n q = true
        · rw [bestO_yes c (Or.inr ⟨q, hb, d⟩)] at h
          injection h with h
          subst h
          exact c
        · rw [bestO_no2 hb (by simpa using d)] at h
          exact bestO_p (lt := lt) (n := n) h
    · rw [bestO_no1 (by simpa using c)] at h
      exact bestO_p (lt := lt) (n := n) h
theorem nxL_lt {v : SpV} {lf : Int32} {b : Nat} (h : nxL v lf = some b) : b < vN v := bestO_lt h
theorem nxL_has {v : SpV} {lf : Int32} {b : Nat} (h : nxL v lf = some b) : hasB lf b = true ∧ HV v b &&& lf = 0 := by
  have := bestO_p h
  simp only [Bool.and_eq_true, decide_eq_true_eq] at this
  exact this
def lfS (v : SpV) (l0 : Int32) : Nat → Int32
  | 0 => l0
  | j + 1 => match nxL v (lfS v l0 j) with
    | none => lfS v l0 j
    | some b => lfS v l0 j &&& (bitI b ^^^ -1)
def odS (v : SpV) (l0 : Int32) (j : Nat) : Int32 := oI (nxL v (lfS v l0 j))
def lfC (v : SpV) (l0 : Int32) : Nat := ffi (fun j => (nxL v (lfS v l0 j)).isNone) 17
/-- j boxes are drawn, and there was one each time -/
def daJ (v : SpV) (l0 : Int32) (σ τ : Sg) (j : Nat) : Prop := τ 369 12 = nI j ∧ (∀ i, i < j → τ 378 i = odS v l0 i) ∧ (∀ q, q ≠ 378 → q ≠ 369 → τ q = σ q) ∧ (∀ i, i ≠ 12 → τ 369 i = σ 369 i) ∧ (∀ i, i < j → (nxL v (lfS v l0 i)).isNone = false) ∧ j + cntBt (lfS v l0 j) (vN v) = cntBt l0 (vN v)
def daI (v : SpV) (l0 : Int32) (σ σ1 : Sg) : Prop := lfC v l0 ≤ vN v ∧ σ1 369 12 = nI (lfC v l0) ∧ (∀ i, i < lfC v l0 → σ1 378 i = odS v l0 i) ∧ (∀ q, q ≠ 378 → q ≠ 369 → σ1 q = σ q) ∧ (∀ i, i ≠ 12 → σ1 369 i = σ 369 i)
theorem daJ_0 {v : SpV} {l0 : Int32} {σ : Sg} : daJ v l0 σ (upS σ 369 12 0) 0 := by
  refine ⟨by rw [up_get, if_pos ⟨rfl, rfl⟩]; rfl, fun i hi => absurd hi (Nat.not_lt_zero i), fun q a b => up_ne b, fun i hi => by rw [up_get, if_neg (by omega)], fun i hi => absurd hi (Nat.not_lt_zero i), ?_⟩
  rw [lfS, Nat.zero_add]
theorem daJ_lt {v : SpV} {l0 : Int32} {σ τ : Sg} {j b : Nat} (h : daJ v l0 σ τ j) (hn : vN v ≤ 16) (hb : nxL v (lfS v l0 j) = some b) : j < vN v ∧ b < vN v ∧ cntBt (lfS v l0 j) (vN v) = cntBt (lfS v l0 (j + 1)) (vN v) + 1 ∧ lfS v l0 (j + 1) = lfS v l0 j &&& (bitI b ^^^ -1) := by
  have h1 := nxL_lt hb
  have h2 := nxL_has hb
  have e : lfS v l0 (j + 1) = lfS v l0 j &&& (bitI b ^^^ -1) := by rw [lfS, hb]
  have h3 := cntBt_cut h2.1 (n := vN v) (by omega) h1
  rw [← e] at h3
  have h4 := h.2.2.2.2.2
  have h5 := cntBt_le l0 (vN v)
  exact ⟨by omega, h1, by omega, e⟩
theorem daJ_s {v : SpV} {l0 : Int32} {σ τ : Sg} {j b : Nat} (h : daJ v l0 σ τ j) (hn : vN v ≤ 16) (hb : nxL v (lfS v l0 j) = some b) : daJ v l0 σ (upS (upS τ 378 j (nI b)) 369 12 (nI (j + 1))) (j + 1) := by
  have g := daJ_lt h hn hb
  obtain ⟨h1, h2, h3, h4, h5, h6⟩ := h
  refine ⟨by rw [up_get, if_pos ⟨rfl, rfl⟩], fun i hi => ?_, fun q a b => by rw [up_ne b, up_ne a]; exact h3 q a b, fun i hi => by rw [up_get, if_neg (by omega), up_ne (by omega)]; exact h4 i hi, fun i hi => ?_, by omega⟩
  · rw [up_ne (by omega), up_get]
    by_cases e : i = j
    · subst e
      rw [if_pos ⟨rfl, rfl⟩, odS, hb]
      rfl
    · rw [if_neg (by omega)]
      exact h2 i (by omega)
  · by_cases e : i = j
    · subst e
      rw [hb]
      rfl
    · exact h5 i (by omega)
theorem daI_of {v : SpV} {l0 : Int32} {σ τ : Sg} {j : Nat} (h : daJ v l0 σ τ j) (hn : vN v ≤ 16) (hb : nxL v (lfS v l0 j) = none) : daI v l0 σ τ := by
  obtain ⟨h1, h2, h3, h4, h5, h6⟩ := h
  have h7 := cntBt_le l0 (vN v)
  have e : lfC v l0 = j := ff_hit (p := fun j => (nxL v (lfS v l0 j)).isNone) h5 (by simp only [hb]; rfl) (by omega)
  rw [daI, e]
  exact ⟨by omega, h1, h2, h3, h4⟩
def dsI (o : Nat → Int32) : Nat → Int32
  | 0 => 0
  | j + 1 => dsI o j ||| (1 : Int32) <<< (o j &&& 31)
def lf0 (v : SpV) (m : Int32) : Int32 := ((1 : Int32) <<< (nI (vN v) &&& 31) - 1) &&& (m ^^^ -1)
def ru3 (v : SpV) : Prop := vRu v = 0 ∨ vRu v = 1 ∨ vRu v = 2
def ltV (v : SpV) : Prop := ∀ k, k < vN v → ∀ d, d < 3 → vLo v k d < vHi v k d
theorem be_same {v : SpV} {a b : Nat} (hl : ltV v) (hb : b < vN v) (e : a = b) : beB (vLo v a) (vHi v a) (vLo v b) (vHi v b) = false := by
  subst e
  unfold beB
  rw [decide_eq_true (hl a hb 2 (by omega))]
  simp
