/-! PURE: the two drawings are one -/
theorem zeroBts {x : Int32} : x = 0 ↔ ∀ j, j < 32 → hasB x j = false := by
  constructor
  · intro h j hj
    rw [h]
    exact hasB_0 hj
  · intro h
    refine Int32.toBitVec_inj.mp (BitVec.eq_of_getLsbD_eq (fun i hi => ?_))
    have := h i hi
    rw [hasB_bit _ hi] at this
    rw [this]
    have h0 : hasB 0 i = false := hasB_0 hi
    rw [hasB_bit _ hi] at h0
    exact h0.symm
/-- what is left, what is drawn -/
def lfD (n : Nat) (lf db : Int32) : Prop := (∀ k, k < n → hasB lf k = !hasB db k) ∧ ∀ k, n ≤ k → k < 32 → hasB lf k = false
theorem lf0_bits : ∀ n : Fin 17, ∀ k : Fin 32, hasB ((1 : Int32) <<< (nI n.val &&& 31) - 1) k.val = decide (k.val < n.val) := by decide +kernel
theorem lf0_bit {v : SpV} (hn : vN v ≤ 16) (m : Int32) {k : Nat} (hk : k < 32) : hasB (lf0 v m) k = (decide (k < vN v) && !hasB m k) := by
  unfold lf0
  rw [hasB_and _ _ hk, hasB_not _ hk, lf0_bits ⟨vN v, by omega⟩ ⟨k, hk⟩]
theorem lfD_0 {v : SpV} (hn : vN v ≤ 16) : lfD (vN v) (lf0 v 0) 0 := by
  refine ⟨fun k hk => ?_, fun k hk hk2 => ?_⟩
  · rw [lf0_bit hn 0 (by omega), decide_eq_true hk, Bool.true_and]
  · rw [lf0_bit hn 0 hk2, decide_eq_false (by omega), Bool.false_and]
theorem lfD_s {n : Nat} {lf db : Int32} {b : Nat} (hn : n ≤ 16) (hb : b < n) (h : lfD n lf db) : lfD n (lf &&& (bitI b ^^^ -1)) (db ||| bitI b) := by
  refine ⟨fun k hk => ?_, fun k hk hk2 => ?_⟩
  · rw [hasB_and _ _ (by omega), hasB_not _ (by omega), hasB_or _ _ (by omega), h.1 k hk, hasB_bitI (by omega) (by omega)]
    cases hasB db k <;> cases decide (k = b) <;> rfl
  · rw [hasB_and _ _ hk2, h.2 k hk hk2, Bool.false_and]
theorem lfD_nx {v : SpV} {lf db : Int32} (hn : vN v ≤ 16) (h : lfD (vN v) lf db) : nxL v lf = nxO (vN v) (HV v) (WVv v) db := by
  unfold nxL nxO
  refine bestO_congr (fun k hk => ?_) (fun k b _ _ => rfl)
  unfold canD
  rw [h.1 k hk]
  congr 1
  refine decide_eq_decide.mpr ?_
  rw [zeroBts, zeroBts]
  refine forall_congr' (fun j => forall_congr' (fun hj => ?_))
  rw [hasB_and _ _ hj, hasB_and _ _ hj, hasB_not _ hj]
  by_cases c : j < vN v
  · rw [h.1 j c]
  · rw [hv_bit hn hj, decide_eq_false c, Bool.false_and, Bool.false_and, Bool.false_and]
theorem lfD_all {v : SpV} (hn : vN v ≤ 16) : ∀ j, lfD (vN v) (lfS v (lf0 v 0) j) (DV v j).1
  | 0 => lfD_0 hn
  | j + 1 => by
    have ih := lfD_all hn j
    have e := lfD_nx hn ih
    have x : (DV v (j + 1)).1 = match nxO (vN v) (HV v) (WVv v) (DV v j).1 with | none => (DV v j).1 | some b => (DV v j).1 ||| bitI b := by
      show (drS (vN v) (HV v) (WVv v) (fun _ => 0) (fun _ => -5) (j + 1)).1 = _
      rw [drS]
      show _ = match nxO (vN v) (HV v) (WVv v) (drS (vN v) (HV v) (WVv v) (fun _ => 0) (fun _ => -5) j).1 with | none => (drS (vN v) (HV v) (WVv v) (fun _ => 0) (fun _ => -5) j).1 | some b => (drS (vN v) (HV v) (WVv v) (fun _ => 0) (fun _ => -5) j).1 ||| bitI b
      cases nxO (vN v) (HV v) (WVv v) (drS (vN v) (HV v) (WVv v) (fun _ => 0) (fun _ => -5) j).1 with
      | none => rfl
      | some b => rfl
    rw [x, lfS, e]
    cases q : nxO (vN v) (HV v) (WVv v) (DV v j).1 with
    | none => exact ih
    | some b => exact lfD_s hn (bestO_lt q) ih
theorem nx_all {v : SpV} (hn : vN v ≤ 16) (j : Nat) : nxL v (lfS v (lf0 v 0) j) = nxO (vN v) (HV v) (WVv v) (DV v j).1 := lfD_nx hn (lfD_all hn j)
/-- each that is drawn is one less left -/
theorem lf_cnt {v : SpV} (hn : vN v ≤ 16) (l0 : Int32) : ∀ j, (∀ i, i < j → (nxL v (lfS v l0 i)).isNone = false) → j + cntBt (lfS v l0 j) (vN v) = cntBt l0 (vN v)
  | 0, _ => by rw [lfS, Nat.zero_add]
  | j + 1, h => by
    have ih := lf_cnt hn l0 j (fun i hi => h i (Nat.lt_succ_of_lt hi))
    have hj := h j (Nat.lt_succ_self j)
    cases q : nxL v (lfS v l0 j) with
    | none => rw [q] at hj; cases hj
    | some b =>
      have e : lfS v l0 (j + 1) = lfS v l0 j &&& (bitI b ^^^ -1) := by rw [lfS, q]
      have := cntBt_cut (nxL_has q).1 (n := vN v) (by omega) (nxL_lt q)
      rw [← e] at this
      omega
theorem lfC_le {v : SpV} (hn : vN v ≤ 16) (l0 : Int32) : lfC v l0 ≤ vN v := by
  by_cases c : lfC v l0 ≤ vN v
  · exact c
  · have := lf_cnt hn l0 (vN v + 1) (fun i hi => ffi_no (p := fun j => (nxL v (lfS v l0 j)).isNone) (n := 17) (by
      have : lfC v l0 = ffi (fun j => (nxL v (lfS v l0 j)).isNone) 17 := rfl
      omega))
    have h2 := cntBt_le l0 (vN v)
    omega
theorem ffi_two {p : Nat → Bool} {n m : Nat} (h : ffi p m ≤ n) (hnm : n < m) : ffi p n = ffi p m := by
  by_cases c : ffi p m < n
  · exact ff_hit (fun j hj => ffi_no hj) (ffi_at (by omega)) c
  · have e : ffi p m = n := by omega
    rw [e]
    exact ff_none (fun j hj => ffi_no (n := m) (by omega))
theorem dr_cnt {v : SpV} (hn : vN v ≤ 16) : lfC v (lf0 v 0) = DCv v := by
  have e : DCv v = ffi (fun j => (nxL v (lfS v (lf0 v 0) j)).isNone) (vN v) := by
    show drC (vN v) (HV v) (WVv v) (fun _ => 0) (fun _ => -5) = _
    unfold drC
    refine ffi_c (fun j _ => ?_)
    rw [nx_all hn j]
    rfl
  rw [e]
  exact (ffi_two (lfC_le hn _) (by omega)).symm
theorem dr_some' {v : SpV} (hn : vN v ≤ 16) {j : Nat} (hj : j < DCv v) : ∃ b, b < vN v ∧ nxO (vN v) (HV v) (WVv v) (DV v j).1 = some b ∧ odS v (lf0 v 0) j = nI b ∧ OV v j = nI b ∧ (DV v (j + 1)).1 = (DV v j).1 ||| bitI b := by
  have h1 : (nxO (vN v) (HV v) (WVv v) (DV v j).1).isNone = false := ffi_no (p := fun j => (nxO (vN v) (HV v) (WVv v) (drS (vN v) (HV v) (WVv v) (fun _ => 0) (fun _ => -5) j).1).isNone) (n := vN v) hj
  cases q : nxO (vN v) (HV v) (WVv v) (DV v j).1 with
  | none => rw [q] at h1; cases h1
  | some b =>
    have x : DV v (j + 1) = ((DV v j).1 ||| bitI b, upd (DV v j).2.1 j (nI b), upd (DV v j).2.2 b (layA (DV v j).2.2 (HV v b) (vN v))) := by
      show drS (vN v) (HV v) (WVv v) (fun _ => 0) (fun _ => -5) (j + 1) = _
      rw [drS, show nxO (vN v) (HV v) (WVv v) (drS (vN v) (HV v) (WVv v) (fun _ => 0) (fun _ => -5) j).1 = some b from q]
      rfl
    refine ⟨b, bestO_lt q, rfl, by rw [odS, nx_all hn j, q]; rfl, ?_, by rw [x]⟩
    have hle : DCv v ≤ vN v := ffi_le _ _
    have y : OV v j = (DV v (j + 1)).2.1 j := drS_ord (j := j + 1) (by omega) (Nat.lt_succ_self j)
    rw [y, x]
    simp [upd]
theorem pe_dr {v : SpV} (hn : vN v ≤ 16) : peDr v := ⟨dr_cnt hn, fun j hj => by
  obtain ⟨b, _, _, e1, e2, _⟩ := dr_some' hn hj
  rw [e1, e2]⟩
theorem pe_ds {v : SpV} (hn : vN v ≤ 16) : peDs v := by
  have hle : DCv v ≤ vN v := ffi_le _ _
  have g : ∀ j, j ≤ DCv v → dsI (odS v (lf0 v 0)) j = (DV v j).1 := fun j => by
    induction j with
    | zero => intro _; rfl
    | succ j ih =>
      intro hj
      obtain ⟨b, _, _, e1, _, e3⟩ := dr_some' hn (j := j) (by omega)
      rw [dsI, ih (by omega), e1, e3]
      rfl
  have s : (DV v (vN v)).1 = (DV v (DCv v)).1 := by
    by_cases c : DCv v < vN v
    · have h1 : (nxO (vN v) (HV v) (WVv v) (DV v (DCv v)).1).isNone = true := ffi_at (p := fun j => (nxO (vN v) (HV v) (WVv v) (drS (vN v) (HV v) (WVv v) (fun _ => 0) (fun _ => -5) j).1).isNone) (n := vN v) c
      have h2 : nxO (vN v) (HV v) (WVv v) (DV v (DCv v)).1 = none := by
        cases q : nxO (vN v) (HV v) (WVv v) (DV v (DCv v)).1 with
        | none => rfl
        | some b => rw [q] at h1; cases h1
      have h3 := drS_stuck (o0 := fun _ => 0) (l0 := fun _ => -5) h2 (vN v - DCv v)
      rw [show DCv v + (vN v - DCv v) = vN v by omega] at h3
      exact congrArg (fun z => z.1) h3
    · rw [show DCv v = vN v by omega]
  unfold peDs
  rw [dr_cnt hn, g (DCv v) (Nat.le_refl _)]
  exact s.symm
/-- whatever is drawn, all that it hides is drawn -/
theorem dv_closed {v : SpV} (hn : vN v ≤ 16) : ∀ j k, hasB (DV v j).1 k = true → k < vN v → ∀ i, i < vN v → hasB (HV v k) i = true → hasB (DV v j).1 i = true
  | 0, k, h, hk, i, hi, _ => by
    rw [show (DV v 0).1 = 0 from rfl, hasB_0 (by omega)] at h
    cases h
  | j + 1, k, h, hk, i, hi, hb => by
    cases q : nxO (vN v) (HV v) (WVv v) (DV v j).1 with
    | none =>
      have x : DV v (j + 1) = DV v j := by
        show drS (vN v) (HV v) (WVv v) (fun _ => 0) (fun _ => -5) (j + 1) = _
        rw [drS, show nxO (vN v) (HV v) (WVv v) (drS (vN v) (HV v) (WVv v) (fun _ => 0) (fun _ => -5) j).1 = none from q]
        rfl
      rw [x] at h ⊢
      exact dv_closed hn j k h hk i hi hb
    | some b =>
      have x : (DV v (j + 1)).1 = (DV v j).1 ||| bitI b := by
        show (drS (vN v) (HV v) (WVv v) (fun _ => 0) (fun _ => -5) (j + 1)).1 = _
        rw [drS, show nxO (vN v) (HV v) (WVv v) (drS (vN v) (HV v) (WVv v) (fun _ => 0) (fun _ => -5) j).1 = some b from q]
        rfl
      rw [x, hasB_or _ _ (by omega)] at h ⊢
      have hbn : b < vN v := bestO_lt q
      by_cases c : hasB (DV v j).1 k = true
      · rw [dv_closed hn j k c hk i hi hb]
        rfl
      · rw [show hasB (DV v j).1 k = false by simpa using c, Bool.false_or, hasB_bitI (by omega) (by omega), decide_eq_true_eq] at h
        have p := bestO_p q
        unfold canD at p
        rw [Bool.and_eq_true, decide_eq_true_eq] at p
        have z := zeroBts.mp p.2 i (by omega)
        rw [hasB_and _ _ (by omega), hasB_not _ (by omega), ← h, hb, Bool.true_and] at z
        have z2 : hasB (DV v j).1 i = true := by
          cases y : hasB (DV v j).1 i with
          | true => rfl
          | false => rw [y] at z; cases z
        rw [z2]
        rfl
theorem pe_wa {v : SpV} (hn : vN v ≤ 16) : peWa v := fun k hk h => by
  unfold waI
  refine fI_none (fun j hj => ?_)
  cases e : hasB (HV v k) j with
  | false => rfl
  | true =>
    have z : hasB (BV v) j = true := dv_closed hn (vN v) k h hk j hj e
    rw [z]
    rfl
