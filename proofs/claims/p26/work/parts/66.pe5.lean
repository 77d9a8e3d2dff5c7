/-! PURE: rings -/
theorem anyb_ex {p : Nat → Bool} : ∀ {n : Nat}, anyb p n = true → ∃ k, k < n ∧ p k = true
  | 0, h => by cases h
  | n + 1, h => by
    rw [anyb, Bool.or_eq_true] at h
    rcases h with h | h
    · obtain ⟨k, a, b⟩ := anyb_ex h
      exact ⟨k, by omega, b⟩
    · exact ⟨n, Nat.lt_succ_self n, h⟩
theorem orI_bit {p : Nat → Bool} {f : Nat → Int32} {n j : Nat} (hj : j < 32) : hasB (orI p f n) j = true ↔ ∃ a, a < n ∧ p a = true ∧ hasB (f a) j = true := by
  rw [hasB_orI hj]
  constructor
  · intro h
    obtain ⟨k, a, b⟩ := anyb_ex h
    rw [Bool.and_eq_true] at b
    exact ⟨k, a, b⟩
  · rintro ⟨a, h1, h2, h3⟩
    exact anyb_t (k := a) (by rw [h2, h3]; rfl) h1
theorem rch_ex {h : Nat → Int32} {n k : Nat} : ∀ {j b : Nat}, b < 32 → n ≤ 32 → (hasB (rchI h n k j) b = true ↔ ∃ i, i ≤ j ∧ hasB (exW h n k i) b = true)
  | 0, b, hb, hn => by
    constructor
    · intro z
      exact ⟨0, Nat.le_refl _, z⟩
    · rintro ⟨i, hi, z⟩
      have : i = 0 := by omega
      rw [this] at z
      exact z
  | j + 1, b, hb, hn => by
    rw [rchI, hasB_or _ _ hb, Bool.or_eq_true, orI_bit hb, rch_ex hb hn]
    constructor
    · rintro (⟨i, hi, z⟩ | ⟨a, ha, z1, z2⟩)
      · exact ⟨i, by omega, z⟩
      · obtain ⟨i, hi, z⟩ := (rch_ex (by omega) hn).mp z1
        exact ⟨i + 1, by omega, (orI_bit hb).mpr ⟨a, ha, z, z2⟩⟩
    · rintro ⟨i, hi, z⟩
      cases i with
      | zero => exact Or.inl ⟨0, by omega, z⟩
      | succ i =>
        obtain ⟨a, ha, z1, z2⟩ := (orI_bit hb).mp z
        exact Or.inr ⟨a, ha, (rch_ex (by omega) hn).mpr ⟨i, by omega, z1⟩, z2⟩
theorem ffi_first {p q : Nat → Bool} {n : Nat} (h : ∀ j, p j = true ↔ ∃ i, i ≤ j ∧ q i = true) : ffi p n = ffi q n := by
  have no : ∀ j, j < ffi q n → p j = false := fun j hj => by
    cases e : p j with
    | false => rfl
    | true =>
      obtain ⟨i, hi, z⟩ := (h j).mp e
      have := ffi_no (p := q) (n := n) (k := i) (by omega)
      rw [z] at this
      cases this
  by_cases c : ffi q n < n
  · exact ff_hit no ((h _).mpr ⟨_, Nat.le_refl _, ffi_at c⟩) c
  · have e : ffi q n = n := by
      have := ffi_le q n
      omega
    rw [e] at no ⊢
    exact ff_none no
theorem sr_ex {v : SpV} {k : Nat} (hn : vN v ≤ 16) (hk : k < vN v) : srO (HV v) (vN v) k = if exN v k < vN v then nI (exN v k + 1) else -5 := by
  unfold srO
  have e : ffi (fun j => hasB (rchI (HV v) (vN v) k j) k) (vN v) = exN v k := ffi_first (fun j => rch_ex (by omega) (by omega))
  rw [e]
/-! Warshall -/
theorem wsR_row {c : Nat → Int32} {w : Nat} : ∀ m i, wsR c w m i = if i < m ∧ hasB (c i) w = true then c i ||| c w else c i
  | 0, i => by rw [if_neg (by omega)]; rfl
  | m + 1, i => by
    have hw : wsR c w m w = c w := by
      rw [wsR_row m w]
      split
      · exact Int32.or_self
      · rfl
    have hm : wsR c w m m = c m := by
      rw [wsR_row m m, if_neg (by omega)]
    rw [wsR, hw, hm]
    by_cases d : hasB (c m) w = true
    · rw [if_pos d]
      unfold upd
      by_cases e : i = m
      · rw [if_pos e, e, if_pos ⟨Nat.lt_succ_self m, d⟩]
      · rw [if_neg e, wsR_row m i]
        by_cases g : hasB (c i) w = true
        · by_cases l : i < m
          · rw [if_pos ⟨l, g⟩, if_pos ⟨by omega, g⟩]
          · rw [if_neg (by omega), if_neg (by omega)]
        · rw [if_neg (fun z => g z.2), if_neg (fun z => g z.2)]
    · rw [if_neg d, wsR_row m i]
      by_cases e : i = m
      · rw [e, if_neg (by omega), if_neg (fun z => d z.2)]
      · by_cases g : hasB (c i) w = true
        · by_cases l : i < m
          · rw [if_pos ⟨l, g⟩, if_pos ⟨by omega, g⟩]
          · rw [if_neg (by omega), if_neg (by omega)]
        · rw [if_neg (fun z => g z.2), if_neg (fun z => g z.2)]
theorem wrs_bit {c : Nat → Int32} {n w k b : Nat} (hk : k < n) (hb : b < 32) : hasB (wsO c n (w + 1) k) b = true ↔ hasB (wsO c n w k) b = true ∨ (hasB (wsO c n w k) w = true ∧ hasB (wsO c n w w) b = true) := by
  rw [wsO, wsR_row]
  by_cases d : hasB (wsO c n w k) w = true
  · rw [if_pos ⟨hk, d⟩, hasB_or _ _ hb, Bool.or_eq_true]
    constructor
    · rintro (z | z)
      · exact Or.inl z
      · exact Or.inr ⟨d, z⟩
    · rintro (z | z)
      · exact Or.inl z
      · exact Or.inr z.2
  · rw [if_neg (fun z => d z.2)]
    constructor
    · exact Or.inl
    · rintro (z | z)
      · exact z
      · exact absurd z.1 d
theorem ws_trans {c : Nat → Int32} {n : Nat} (hn : n ≤ 32) : ∀ w, w ≤ n → ∀ k m b, k < n → m < w → b < n → hasB (wsO c n w k) m = true → hasB (wsO c n w m) b = true → hasB (wsO c n w k) b = true
  | 0, _, k, m, b, _, hm, _, _, _ => absurd hm (Nat.not_lt_zero m)
  | w + 1, hw, k, m, b, hk, hm, hb, h1, h2 => by
    have ih := ws_trans (c := c) hn w (by omega)
    have a1 := (wrs_bit hk (by omega)).mp h1
    have a2 := (wrs_bit (by omega) (by omega)).mp h2
    refine (wrs_bit hk (by omega)).mpr ?_
    by_cases e : m = w
    · subst e
      have b1 : hasB (wsO c n m k) m = true := by
        rcases a1 with z | z
        · exact z
        · exact z.1
      have b2 : hasB (wsO c n m m) b = true := by
        rcases a2 with z | z
        · exact z
        · exact z.2
      exact Or.inr ⟨b1, b2⟩
    · have hmw : m < w := by omega
      rcases a1 with z1 | ⟨z1, z2⟩
      · rcases a2 with y1 | ⟨y1, y2⟩
        · exact Or.inl (ih k m b hk hmw hb z1 y1)
        · exact Or.inr ⟨ih k m w hk hmw (by omega) z1 y1, y2⟩
      · rcases a2 with y1 | ⟨y1, y2⟩
        · exact Or.inr ⟨z1, ih w m b (by omega) hmw hb z2 y1⟩
        · exact Or.inr ⟨z1, y2⟩
theorem ws_mono {c : Nat → Int32} {n k b : Nat} (hk : k < n) (hb : b < 32) (h : hasB (c k) b = true) : ∀ w, hasB (wsO c n w k) b = true
  | 0 => h
  | w + 1 => (wrs_bit hk hb).mpr (Or.inl (ws_mono hk hb h w))
/-- whatever a walk reaches is in the chains -/
theorem ex_cv {v : SpV} {k : Nat} (hn : vN v ≤ 16) (hk : k < vN v) : ∀ j b, b < vN v → hasB (exW (HV v) (vN v) k j) b = true → hasB (CVv v k) b = true
  | 0, b, hb, h => ws_mono hk (by omega) h _
  | j + 1, b, hb, h => by
    obtain ⟨a, ha, z1, z2⟩ := (orI_bit (by omega)).mp h
    exact ws_trans (by omega) (vN v) (Nat.le_refl _) k a b hk ha hb (ex_cv hn hk j a ha z1) (ws_mono ha (by omega) z2 _)
theorem ex_join {h : Nat → Int32} {n k a : Nat} (ha : a < n) (hn : n ≤ 32) : ∀ {j i b : Nat}, b < n → hasB (exW h n k i) a = true → hasB (exW h n a j) b = true → hasB (exW h n k (i + 1 + j)) b = true
  | 0, i, b, hb, h1, h2 => (orI_bit (by omega)).mpr ⟨a, ha, h1, h2⟩
  | j + 1, i, b, hb, h1, h2 => by
    obtain ⟨q, hq, z1, z2⟩ := (orI_bit (by omega)).mp h2
    exact (orI_bit (by omega)).mpr ⟨q, hq, ex_join ha hn hq h1 z1, z2⟩
/-- whatever is in the chains a walk reaches -/
theorem cv_ex {h : Nat → Int32} {n : Nat} (hn : n ≤ 32) : ∀ w, w ≤ n → ∀ k b, k < n → b < n → hasB (wsO h n w k) b = true → ∃ j, hasB (exW h n k j) b = true
  | 0, _, k, b, _, _, z => ⟨0, z⟩
  | w + 1, hw, k, b, hk, hb, z => by
    rcases (wrs_bit hk (by omega)).mp z with y | ⟨y1, y2⟩
    · exact cv_ex hn w (by omega) k b hk hb y
    · obtain ⟨i, x1⟩ := cv_ex hn w (by omega) k w hk (by omega) y1
      obtain ⟨j, x2⟩ := cv_ex hn w (by omega) w b (by omega) hb y2
      exact ⟨_, ex_join (by omega) hn hb x1 x2⟩
