/-! PURE: a ring is found in as many steps as there are boxes -/
theorem cntBt_mono {x y : Int32} : ∀ {n : Nat}, (∀ b, b < n → hasB x b = true → hasB y b = true) → cntBt x n ≤ cntBt y n
  | 0, _ => Nat.le_refl _
  | n + 1, h => by
    have ih := cntBt_mono (n := n) (fun b hb => h b (Nat.lt_succ_of_lt hb))
    rw [cntBt, cntBt]
    by_cases c : hasB x n = true
    · rw [if_pos c, if_pos (h n (Nat.lt_succ_self n) c)]
      omega
    · rw [if_neg c]
      split <;> omega
theorem cntBt_lt {x y : Int32} {b : Nat} (h1 : hasB x b = false) (h2 : hasB y b = true) : ∀ {n : Nat}, (∀ b, b < n → hasB x b = true → hasB y b = true) → b < n → cntBt x n < cntBt y n
  | 0, _, hb => absurd hb (Nat.not_lt_zero b)
  | n + 1, h, hb => by
    rw [cntBt, cntBt]
    by_cases e : b = n
    · subst e
      have := cntBt_mono (n := b) (fun q hq => h q (Nat.lt_succ_of_lt hq))
      rw [if_neg (by rw [h1]; decide), if_pos h2]
      omega
    · have ih := cntBt_lt h1 h2 (n := n) (fun q hq => h q (Nat.lt_succ_of_lt hq)) (by omega)
      by_cases c : hasB x n = true
      · rw [if_pos c, if_pos (h n (Nat.lt_succ_self n) c)]
        omega
      · rw [if_neg c]
        split <;> omega
theorem cntBt_miss {x : Int32} {k : Nat} (h : hasB x k = false) : ∀ {n : Nat}, k < n → cntBt x n < n
  | 0, hk => absurd hk (Nat.not_lt_zero k)
  | n + 1, hk => by
    rw [cntBt]
    by_cases e : k = n
    · subst e
      have := cntBt_le x k
      rw [if_neg (by rw [h]; decide)]
      omega
    · have := cntBt_miss h (n := n) (by omega)
      split <;> omega
theorem rch_mono {h : Nat → Int32} {n k : Nat} (hn : n ≤ 32) {i j b : Nat} (hb : b < 32) (hij : i ≤ j) (z : hasB (rchI h n k i) b = true) : hasB (rchI h n k j) b = true := by
  obtain ⟨q, h1, h2⟩ := (rch_ex hb hn).mp z
  exact (rch_ex hb hn).mpr ⟨q, by omega, h2⟩
theorem rch_step {h : Nat → Int32} {n k j b : Nat} (hb : b < 32) : hasB (rchI h n k (j + 1)) b = true ↔ hasB (rchI h n k j) b = true ∨ ∃ a, a < n ∧ hasB (rchI h n k j) a = true ∧ hasB (h a) b = true := by
  rw [rchI, hasB_or _ _ hb, Bool.or_eq_true, orI_bit hb]
/-- once nothing is new, nothing comes -/
theorem rch_stop {h : Nat → Int32} {n k i : Nat} (hn : n ≤ 32) (hs : ∀ b, b < n → hasB (rchI h n k (i + 1)) b = true → hasB (rchI h n k i) b = true) : ∀ m b, b < n → hasB (rchI h n k (i + m)) b = true → hasB (rchI h n k i) b = true
  | 0, b, _, z => z
  | m + 1, b, hb, z => by
    rcases (rch_step (by omega)).mp z with y | ⟨a, ha, y1, y2⟩
    · exact rch_stop hn hs m b hb y
    · exact hs b hb ((rch_step (by omega)).mpr (Or.inr ⟨a, ha, rch_stop hn hs m a ha y1, y2⟩))
theorem rch_new {h : Nat → Int32} {n k i J : Nat} (hn : n ≤ 32) (hk : k < n) (h1 : hasB (rchI h n k i) k = false) (h2 : hasB (rchI h n k J) k = true) : ∃ b, b < n ∧ hasB (rchI h n k i) b = false ∧ hasB (rchI h n k (i + 1)) b = true := by
  refine Classical.byContradiction (fun q => ?_)
  have hs : ∀ b, b < n → hasB (rchI h n k (i + 1)) b = true → hasB (rchI h n k i) b = true := fun b hb z => by
    cases e : hasB (rchI h n k i) b with
    | true => rfl
    | false => exact absurd ⟨b, hb, e, z⟩ q
  have := rch_stop hn hs J k hk (rch_mono hn (by omega) (by omega) h2)
  rw [this] at h1
  cases h1
theorem rch_pig {h : Nat → Int32} {n k J : Nat} (hn : n ≤ 32) (hk : k < n) (h2 : hasB (rchI h n k J) k = true) : ∃ j, j < n ∧ hasB (rchI h n k j) k = true := by
  refine Classical.byContradiction (fun q => ?_)
  have no : ∀ j, j < n → hasB (rchI h n k j) k = false := fun j hj => by
    cases e : hasB (rchI h n k j) k with
    | false => rfl
    | true => exact absurd ⟨j, hj, e⟩ q
  have g : ∀ i, i < n → i + 1 ≤ cntBt (rchI h n k i) n := fun i => by
    induction i with
    | zero =>
      intro h0
      obtain ⟨b, hb, z1, z2⟩ := rch_new hn hk (no 0 h0) h2
      rcases (rch_step (by omega)).mp z2 with y | ⟨a, ha, y1, _⟩
      · rw [y] at z1
        cases z1
      · have := cntBt_lt (x := 0) (y := rchI h n k 0) (b := a) (hasB_0 (by omega)) y1 (n := n) (fun q hq z => by rw [hasB_0 (by omega)] at z; cases z) ha
        omega
    | succ i ih =>
      intro h0
      obtain ⟨b, hb, z1, z2⟩ := rch_new hn hk (no i (by omega)) h2
      have := cntBt_lt z1 z2 (n := n) (fun q hq z => (rch_step (by omega)).mpr (Or.inl z)) hb
      have := ih (by omega)
      omega
  have a := g (n - 1) (by omega)
  have b := cntBt_miss (no (n - 1) (by omega)) hk
  omega
theorem cv_ring {v : SpV} (hn : vN v ≤ 16) {k : Nat} (hk : k < vN v) : hasB (CVv v k) k = true ↔ exN v k < vN v := by
  constructor
  · intro z
    obtain ⟨J, hJ⟩ := cv_ex (h := HV v) (n := vN v) (by omega) (vN v) (Nat.le_refl _) k k hk hk z
    obtain ⟨j, hj, y⟩ := rch_pig (h := HV v) (n := vN v) (k := k) (by omega) hk ((rch_ex (by omega) (by omega)).mpr ⟨J, Nat.le_refl _, hJ⟩)
    obtain ⟨i, hi, x⟩ := (rch_ex (by omega) (by omega)).mp y
    by_cases c : exN v k < vN v
    · exact c
    · have := ffi_no (p := fun j => hasB (exW (HV v) (vN v) k j) k) (n := vN v) (k := i) (by
        have : exN v k = ffi (fun j => hasB (exW (HV v) (vN v) k j) k) (vN v) := rfl
        omega)
      rw [show hasB (exW (HV v) (vN v) k i) k = true from x] at this
      cases this
  · intro c
    exact ex_cv hn hk _ k hk (ffi_at (p := fun j => hasB (exW (HV v) (vN v) k j) k) (n := vN v) c)
theorem pe_sr {v : SpV} (hn : vN v ≤ 16) : peSr v := fun k hk => ⟨fun z => by
    have c := (cv_ring hn hk).mp z
    exact ⟨c, by rw [sr_ex hn hk, if_pos c]⟩, fun z => by
    rw [sr_ex hn hk, if_neg (fun c => by rw [(cv_ring hn hk).mpr c] at z; cases z)]⟩
theorem pe_sa {v : SpV} (hn : vN v ≤ 16) : peSa v := by
  have g : ∀ m, m ≤ vN v → srX v m = srI (HV v) (vN v) m ∧ (srX v m = -5 ∨ ∃ q, q ≤ 17 ∧ srX v m = nI q) := fun m => by
    induction m with
    | zero => intro _; exact ⟨rfl, Or.inl rfl⟩
    | succ m ih =>
      intro hm
      obtain ⟨e1, e2⟩ := ih (by omega)
      have hs := pe_sr hn m (by omega)
      rw [srX, srI, ← e1]
      cases c : hasB (CVv v m) m with
      | false =>
        rw [if_neg (by decide), (hs.2 c), if_pos rfl]
        exact ⟨rfl, e2⟩
      | true =>
        obtain ⟨h1, h2⟩ := hs.1 c
        rw [if_pos rfl, h2, if_neg (nI_nm5 (by omega))]
        rcases e2 with e | ⟨q, hq, e⟩
        · rw [e, if_pos (by decide), if_pos rfl]
          exact ⟨rfl, Or.inr ⟨_, by omega, rfl⟩⟩
        · rw [e, if_neg (nI_pos (by omega)), if_neg (nI_nm5 (by omega))]
          refine ⟨rfl, Or.inr ?_⟩
          split
          · exact ⟨_, by omega, rfl⟩
          · exact ⟨q, hq, rfl⟩
  exact (g (vN v) (Nat.le_refl _)).1
