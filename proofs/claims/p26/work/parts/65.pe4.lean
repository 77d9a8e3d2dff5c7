/-! PURE: the drawing with one box left out -/
theorem mv_ne {k m j : Nat} (hj : j < m) (hk : k ≤ m) : ¬ mvI k m j = k ∧ mvI k m j < m + 1 := by
  unfold mvI
  split <;> omega
theorem mv_mono {k m i j : Nat} (h : i < j) (hj : j < m) : mvI k m i < mvI k m j := by
  unfold mvI
  split <;> split <;> omega
/-- picked from all but k: the same one, counted without k -/
theorem bestO_mv {p q : Nat → Bool} {lt lt' : Nat → Nat → Bool} {k m : Nat} (hk : k ≤ m) (h0 : p k = false) (h1 : ∀ j, j < m → q j = p (mvI k m j)) (h2 : ∀ i j, i < m → j < m → lt' i j = lt (mvI k m i) (mvI k m j)) : ∀ n, n ≤ m → bestO p lt (if n ≤ k then n else n + 1) = (bestO q lt' n).map (mvI k m)
  | 0, _ => rfl
  | n + 1, hn => by
    have ih := bestO_mv hk h0 h1 h2 n (by omega)
    -- what stands before index mvI n
    have ih2 : bestO p lt (mvI k m n) = (bestO q lt' n).map (mvI k m) := by
      unfold mvI
      by_cases c : k ≤ n
      · rw [if_pos ⟨c, by omega⟩]
        by_cases d : n ≤ k
        · have e : n = k := by omega
          rw [if_pos d] at ih
          rw [e] at ih ⊢
          rw [bestO_no1 h0]
          rw [← e] at ih ⊢
          exact ih
        · rw [if_neg d] at ih
          exact ih
      · rw [if_neg (by omega)]
        rw [if_pos (by omega)] at ih
        exact ih
    have en : (if n + 1 ≤ k then n + 1 else n + 1 + 1) = mvI k m n + 1 := by
      unfold mvI
      split <;> split <;> omega
    rw [en]
    have hq := h1 n (by omega)
    cases c : q n with
    | false =>
      rw [bestO_no1 (by rw [← hq]; exact c), bestO_no1 c]
      exact ih2
    | true =>
      have hp : p (mvI k m n) = true := by rw [← hq]; exact c
      cases e : bestO q lt' n with
      | none =>
        rw [e] at ih2
        rw [bestO_yes hp (Or.inl ih2), bestO_yes c (Or.inl e)]
        rfl
      | some b =>
        have hb : b < n := bestO_lt e
        rw [e] at ih2
        have h3 := h2 n b (by omega) (by omega)
        cases d : lt' n b with
        | true =>
          rw [bestO_yes hp (Or.inr ⟨_, ih2, by rw [← h3]; exact d⟩), bestO_yes c (Or.inr ⟨_, e, d⟩)]
          rfl
        | false =>
          rw [bestO_no2 ih2 (by rw [← h3]; exact d), bestO_no2 e d, ih2, e]
/-- left of all but k; drawn of the space without k -/
def lfW (v : SpV) (k : Nat) (lf db : Int32) : Prop := (∀ j, j < vN v - 1 → hasB lf (mvI k (vN v - 1) j) = !hasB db j) ∧ hasB lf k = false ∧ ∀ j, vN v ≤ j → j < 32 → hasB lf j = false
theorem rm_hd {v : SpV} {k i j : Nat} (hk : k < vN v) (hi : i < vN v - 1) (hj : j < vN v - 1) : hdG (vLo (rmV v k)) (vHi (rmV v k)) i j = hdG (vLo v) (vHi v) (mvI k (vN v - 1) i) (mvI k (vN v - 1) j) := by
  unfold hdG
  have e : decide (j = i) = decide (mvI k (vN v - 1) j = mvI k (vN v - 1) i) := decide_eq_decide.mpr (by
    constructor
    · intro z
      rw [z]
    · intro z
      rcases Nat.lt_trichotomy i j with c | c | c
      · have := mv_mono (k := k) c hj
        omega
      · exact c.symm
      · have := mv_mono (k := k) c hi
        omega)
  rw [e]
  rfl
theorem mv_onto {k m i : Nat} (hi : i < m + 1) (hk : ¬ i = k) (hk2 : k ≤ m) : ∃ j, j < m ∧ mvI k m j = i := by
  by_cases c : i < k
  · refine ⟨i, by omega, ?_⟩
    unfold mvI
    rw [if_neg (by omega)]
  · refine ⟨i - 1, by omega, ?_⟩
    unfold mvI
    rw [if_pos (by omega)]
    omega
theorem lfW_nx {v : SpV} {k : Nat} {lf db : Int32} (hn : vN v ≤ 16) (hk : k < vN v) (h : lfW v k lf db) : nxL v lf = (nxO (vN (rmV v k)) (HV (rmV v k)) (WVv (rmV v k)) db).map (mvI k (vN v - 1)) := by
  have hm : vN (rmV v k) = vN v - 1 := rfl
  have g := bestO_mv (p := fun j => hasB lf j && decide (HV v j &&& lf = 0)) (q := canD (HV (rmV v k)) db) (lt := fun j b => decide (WVv v j < WVv v b)) (lt' := fun j b => decide (WVv (rmV v k) j < WVv (rmV v k) b)) (k := k) (m := vN v - 1) (by omega) (by simp only [h.2.1, Bool.false_and]) (fun j hj => ?_) (fun i j _ _ => rfl) (vN v - 1) (Nat.le_refl _)
  · unfold nxL nxO
    rw [hm, ← g]
    by_cases c : vN v - 1 ≤ k
    · rw [if_pos c]
      have e : k = vN v - 1 := by omega
      have e2 : vN v = k + 1 := by omega
      rw [← e, e2]
      exact bestO_no1 (by simp only [h.2.1, Bool.false_and])
    · rw [if_neg c, Nat.sub_add_cancel (by omega)]
  · unfold canD
    show _ = (hasB lf (mvI k (vN v - 1) j) && decide (HV v (mvI k (vN v - 1) j) &&& lf = 0))
    rw [h.1 j hj]
    congr 1
    refine decide_eq_decide.mpr ?_
    rw [zeroBts, zeroBts]
    have hmj := mv_ne (k := k) (m := vN v - 1) hj (by omega)
    constructor
    · intro a i hi
      rw [hasB_and _ _ hi, hv_bit hn hi]
      by_cases c : i < vN v
      · by_cases d : i = k
        · rw [d, h.2.1, Bool.and_false]
        · obtain ⟨u, hu, eu⟩ := mv_onto (k := k) (m := vN v - 1) (i := i) (by omega) d (by omega)
          have := a u (by omega)
          rw [hasB_and _ _ (by omega), hasB_not _ (by omega), hv_bit (v := rmV v k) (by rw [hm]; omega) (by omega), hm, decide_eq_true hu, Bool.true_and, rm_hd hk hj hu] at this
          rw [decide_eq_true c, Bool.true_and, ← eu, h.1 u hu]
          exact this
      · rw [decide_eq_false c, Bool.false_and, Bool.false_and]
    · intro a u hu
      rw [hasB_and _ _ hu, hasB_not _ hu, hv_bit (v := rmV v k) (by rw [hm]; omega) hu, hm]
      by_cases c : u < vN v - 1
      · have hmu := mv_ne (k := k) (m := vN v - 1) c (by omega)
        have := a (mvI k (vN v - 1) u) (by omega)
        rw [hasB_and _ _ (by omega), hv_bit hn (by omega), decide_eq_true (by omega), Bool.true_and, h.1 u c] at this
        rw [decide_eq_true c, Bool.true_and, rm_hd hk hj c]
        exact this
      · rw [decide_eq_false c, Bool.false_and, Bool.false_and]
theorem lfW_0 {v : SpV} {k : Nat} (hn : vN v ≤ 16) (hk : k < vN v) : lfW v k (lf0 v (bitI k)) 0 := by
  refine ⟨fun j hj => ?_, ?_, fun j hj hj2 => ?_⟩
  · have := mv_ne (k := k) (m := vN v - 1) hj (by omega)
    rw [lf0_bit hn _ (by omega), hasB_bitI (by omega) (by omega), decide_eq_true (by omega), decide_eq_false this.1, hasB_0 (by omega)]
    rfl
  · rw [lf0_bit hn _ (by omega), hasB_bitI (by omega) (by omega), decide_eq_true rfl]
    simp
  · rw [lf0_bit hn _ hj2, decide_eq_false (by omega), Bool.false_and]
theorem lfW_s {v : SpV} {k b : Nat} {lf db : Int32} (hn : vN v ≤ 16) (hk : k < vN v) (hb : b < vN v - 1) (h : lfW v k lf db) : lfW v k (lf &&& (bitI (mvI k (vN v - 1) b) ^^^ -1)) (db ||| bitI b) := by
  have hmb := mv_ne (k := k) (m := vN v - 1) hb (by omega)
  refine ⟨fun j hj => ?_, ?_, fun j hj hj2 => ?_⟩
  · have hmj := mv_ne (k := k) (m := vN v - 1) hj (by omega)
    rw [hasB_and _ _ (by omega), hasB_not _ (by omega), hasB_or _ _ (by omega), h.1 j hj, hasB_bitI (by omega) (by omega), hasB_bitI (by omega) (by omega)]
    have e : decide (mvI k (vN v - 1) j = mvI k (vN v - 1) b) = decide (j = b) := decide_eq_decide.mpr (by
      constructor
      · intro z
        rcases Nat.lt_trichotomy j b with c | c | c
        · have := mv_mono (k := k) c hb
          omega
        · exact c
        · have := mv_mono (k := k) c hj
          omega
      · intro z
        rw [z])
    rw [e]
    cases hasB db j <;> cases decide (j = b) <;> rfl
  · rw [hasB_and _ _ (by omega), h.2.1, Bool.false_and]
  · rw [hasB_and _ _ hj2, h.2.2 j hj hj2, Bool.false_and]
theorem dv_step {v : SpV} (j : Nat) : (DV v (j + 1)).1 = match nxO (vN v) (HV v) (WVv v) (DV v j).1 with | none => (DV v j).1 | some b => (DV v j).1 ||| bitI b := by
  show (drS (vN v) (HV v) (WVv v) (fun _ => 0) (fun _ => -5) (j + 1)).1 = _
  rw [drS]
  show _ = match nxO (vN v) (HV v) (WVv v) (drS (vN v) (HV v) (WVv v) (fun _ => 0) (fun _ => -5) j).1 with | none => (drS (vN v) (HV v) (WVv v) (fun _ => 0) (fun _ => -5) j).1 | some b => (drS (vN v) (HV v) (WVv v) (fun _ => 0) (fun _ => -5) j).1 ||| bitI b
  cases nxO (vN v) (HV v) (WVv v) (drS (vN v) (HV v) (WVv v) (fun _ => 0) (fun _ => -5) j).1 with
  | none => rfl
  | some b => rfl
theorem lfW_all {v : SpV} {k : Nat} (hn : vN v ≤ 16) (hk : k < vN v) : ∀ j, lfW v k (lfS v (lf0 v (bitI k)) j) (DV (rmV v k) j).1
  | 0 => lfW_0 hn hk
  | j + 1 => by
    have ih := lfW_all hn hk j
    have e := lfW_nx hn hk ih
    rw [dv_step, lfS, e]
    cases q : nxO (vN (rmV v k)) (HV (rmV v k)) (WVv (rmV v k)) (DV (rmV v k) j).1 with
    | none => exact ih
    | some b => exact lfW_s hn hk (bestO_lt q) ih
theorem pe_wo {v : SpV} (hn : vN v ≤ 16) : peWo v := fun k hk => by
  have hm : vN (rmV v k) = vN v - 1 := rfl
  have e : DCv (rmV v k) = ffi (fun j => (nxL v (lfS v (lf0 v (bitI k)) j)).isNone) (vN v - 1) := by
    show drC (vN (rmV v k)) (HV (rmV v k)) (WVv (rmV v k)) (fun _ => 0) (fun _ => -5) = _
    unfold drC
    rw [hm]
    refine ffi_c (fun j _ => ?_)
    rw [lfW_nx hn hk (lfW_all hn hk j)]
    show (nxO (vN (rmV v k)) (HV (rmV v k)) (WVv (rmV v k)) (DV (rmV v k) j).1).isNone = _
    cases nxO (vN (rmV v k)) (HV (rmV v k)) (WVv (rmV v k)) (DV (rmV v k) j).1 with
    | none => rfl
    | some b => rfl
  have hle : lfC v (lf0 v (bitI k)) ≤ vN v - 1 := by
    by_cases c : lfC v (lf0 v (bitI k)) ≤ vN v - 1
    · exact c
    · have := lf_cnt hn (lf0 v (bitI k)) (vN v) (fun i hi => ffi_no (p := fun j => (nxL v (lfS v (lf0 v (bitI k)) j)).isNone) (n := 17) (by
        have : lfC v (lf0 v (bitI k)) = ffi (fun j => (nxL v (lfS v (lf0 v (bitI k)) j)).isNone) 17 := rfl
        omega))
      have h3 : ∀ n, n ≤ 32 → k < n → cntBt (lf0 v (bitI k)) n + 1 ≤ n := fun n => by
        induction n with
        | zero => intro _ z; omega
        | succ n ih =>
          intro h32 h4
          rw [cntBt]
          have := cntBt_le (lf0 v (bitI k)) n
          by_cases d : k = n
          · subst d
            rw [if_neg (by rw [(lfW_0 hn hk).2.1]; decide)]
            omega
          · have := ih (by omega) (by omega)
            split <;> omega
      have := h3 (vN v) (by omega) hk
      omega
  rw [e]
  exact (ffi_two hle (by omega)).symm
