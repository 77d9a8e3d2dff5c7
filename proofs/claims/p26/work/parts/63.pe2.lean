/-! PURE: the two counts of a mask are one -/
def ckI (a : Nat) : Nat → Bool
  | 0 => true
  | n + 1 => (Nat.beq (nbN (2 * (a + n))) (nbN (a + n)) && Nat.beq (nbN (2 * (a + n) + 1)) (nbN (a + n) + 1)) && ckI a n
def ckO (a : Nat) : Nat → Bool
  | 0 => true
  | n + 1 => ckI (a + 128 * n) 128 && ckO a n
theorem ck_0 : ckO 0 256 = true := by decide +kernel
theorem ckI_at {a : Nat} : ∀ {n i : Nat}, ckI a n = true → i < n → nbN (2 * (a + i)) = nbN (a + i) ∧ nbN (2 * (a + i) + 1) = nbN (a + i) + 1
  | 0, i, _, hi => absurd hi (Nat.not_lt_zero i)
  | n + 1, i, h, hi => by
    rw [ckI, Bool.and_eq_true, Bool.and_eq_true] at h
    by_cases e : i = n
    · rw [e]
      exact ⟨Nat.eq_of_beq_eq_true h.1.1, Nat.eq_of_beq_eq_true h.1.2⟩
    · exact ckI_at h.2 (by omega)
theorem ckO_at {a : Nat} : ∀ {n i : Nat}, ckO a n = true → i < 128 * n → nbN (2 * (a + i)) = nbN (a + i) ∧ nbN (2 * (a + i) + 1) = nbN (a + i) + 1
  | 0, i, _, hi => by omega
  | n + 1, i, h, hi => by
    rw [ckO, Bool.and_eq_true] at h
    by_cases e : i < 128 * n
    · exact ckO_at h.2 e
    · have := ckI_at h.1 (i := i - 128 * n) (by omega)
      rw [show a + 128 * n + (i - 128 * n) = a + i by omega] at this
      exact this
theorem nb_2 {i : Nat} (h : i < 32768) : nbN (2 * i) = nbN i ∧ nbN (2 * i + 1) = nbN i + 1 := by
  have := ckO_at ck_0 (i := i) (by omega)
  rw [Nat.zero_add] at this
  exact this
def cntNt (p : Nat → Bool) : Nat → Nat
  | 0 => 0
  | n + 1 => cntNt p n + (p n).toNat
theorem cntNt_c {p q : Nat → Bool} : ∀ {n : Nat}, (∀ k, k < n → p k = q k) → cntNt p n = cntNt q n
  | 0, _ => rfl
  | n + 1, h => by rw [cntNt, cntNt, cntNt_c (fun k hk => h k (Nat.lt_succ_of_lt hk)), h n (Nat.lt_succ_self n)]
theorem cntNt_front (p : Nat → Bool) : ∀ n, cntNt p (n + 1) = (p 0).toNat + cntNt (fun k => p (k + 1)) n
  | 0 => by rw [cntNt, cntNt, cntNt]; omega
  | n + 1 => by
    rw [cntNt, cntNt_front p n, cntNt]
    omega
theorem nb_cn : ∀ {n m : Nat}, m < 2 ^ n → n ≤ 16 → nbN m = cntNt (fun k => m.testBit k) n
  | 0, m, h, _ => by
    have : m = 0 := by
      have h2 : m < 1 := h
      omega
    subst this
    decide
  | n + 1, m, h, hn => by
    have h2 : m / 2 < 2 ^ n := by
      rw [Nat.pow_succ] at h
      omega
    have h3 : 2 ^ n ≤ 2 ^ 15 := Nat.pow_le_pow_right (by omega) (by omega)
    have ih := nb_cn (n := n) (m := m / 2) h2 (by omega)
    rw [cntNt_front]
    have e : cntNt (fun k => m.testBit (k + 1)) n = cntNt (fun k => (m / 2).testBit k) n := cntNt_c (fun k _ => Nat.testBit_succ m k)
    rw [e, ← ih, Nat.testBit_zero]
    have g := nb_2 (i := m / 2) (by omega)
    rcases Nat.mod_two_eq_zero_or_one m with z | z
    · rw [decide_eq_false (by omega), show m = 2 * (m / 2) by omega, show (2 * (m / 2)) / 2 = m / 2 by omega, g.1]
      simp
    · rw [decide_eq_true z]
      have em : m = 2 * (m / 2) + 1 := by omega
      have e2 : nbN m = nbN (m / 2) + 1 := by
        have := g.2
        rw [← em] at this
        exact this
      rw [e2]
      simp [Nat.add_comm]
theorem cnt_cn (p : Nat → Bool) : ∀ n, cntI p n = nI (cntNt p n)
  | 0 => rfl
  | n + 1 => by
    rw [cntI, cntNt, cnt_cn p n]
    cases p n with
    | true => exact nI_1 _
    | false => rfl
theorem on_cnt (x : Int32) : onI x = cntI (hasB x) 16 := by
  have g : ∀ n, sumI (fun k => x >>> (nI k &&& 31) &&& 1) n = cntI (hasB x) n := fun n => by
    induction n with
    | zero => rfl
    | succ n ih =>
      rw [sumI, cntI, ih]
      rcases bit_01 (x >>> (nI n &&& 31)) with e | e
      · rw [e, if_neg (by simp [hasB, e])]
        exact Int32.add_zero _
      · rw [e, if_pos (by simp [hasB, e])]
  exact g 16
theorem on_bc {x : Int32} (h : ∀ k, 16 ≤ k → k < 32 → hasB x k = false) : onI x = bcI x := by
  obtain ⟨m, hm, e⟩ := m16_of h
  rw [on_cnt, cnt_cn, e, bc_nat hm, nb_cn (n := 16) hm (by omega)]
  refine congrArg nI (cntNt_c (fun k hk => ?_))
  rw [hasB_bit _ (by omega)]
  show (BitVec.ofNat 32 m).getLsbD k = _
  rw [BitVec.getLsbD_ofNat]
  simp
  omega
theorem hasB_mask {p : Nat → Bool} {j n : Nat} (hj : j < 32) (hn : n ≤ 32) : hasB (orI p bitI n) j = (decide (j < n) && p j) := by
  rw [hasB_orI hj]
  by_cases c : j < n
  · rw [decide_eq_true c, Bool.true_and]
    cases e : p j with
    | true => exact anyb_t (k := j) (by rw [e, hasB_bitI hj hj]; simp) c
    | false =>
      refine anyb_f (fun k hk => ?_)
      rw [hasB_bitI (by omega) hj]
      by_cases z : j = k
      · rw [← z, e]
        rfl
      · rw [decide_eq_false z, Bool.and_false]
  · rw [decide_eq_false c, Bool.false_and]
    refine anyb_f (fun k hk => ?_)
    rw [hasB_bitI (by omega) hj, decide_eq_false (by omega), Bool.and_false]
theorem hv_bit {v : SpV} {k j : Nat} (hn : vN v ≤ 16) (hj : j < 32) : hasB (HV v k) j = (decide (j < vN v) && hdG (vLo v) (vHi v) k j) := hasB_mask hj (by omega)
theorem hv_16 {v : SpV} {k j : Nat} (hn : vN v ≤ 16) (h : 16 ≤ j) (hj : j < 32) : hasB (HV v k) j = false := by
  rw [hv_bit hn hj, decide_eq_false (by omega), Bool.false_and]
theorem pe_on {v : SpV} (hn : vN v ≤ 16) : peOn v := fun k _ => on_bc (fun j a b => hv_16 hn a b)
theorem pe_tn {v : SpV} (hn : vN v ≤ 16) : peTn v := fun k _ => on_bc (fun j a b => by rw [hasB_and _ _ b, hv_16 hn a b, Bool.false_and])
theorem cn_cut {p : Nat → Bool} {n : Nat} : ∀ m, n ≤ m → cntNt (fun j => decide (j < n) && p j) m = cntNt p n
  | m, h => by
    induction m with
    | zero =>
      have : n = 0 := by omega
      subst this
      rfl
    | succ m ih =>
      rw [cntNt]
      by_cases e : n = m + 1
      · subst e
        rw [cntNt, decide_eq_true (Nat.lt_succ_self m), Bool.true_and]
        congr 1
        exact cntNt_c (fun k hk => by rw [decide_eq_true (by omega), Bool.true_and])
      · rw [ih (by omega), decide_eq_false (by omega), Bool.false_and]
        rfl
theorem pe_rg {v : SpV} (hn : vN v ≤ 16) : peRg v := by
  unfold peRg
  rw [on_cnt, cnt_cn, cnt_cn]
  refine congrArg nI ?_
  rw [← cn_cut (n := vN v) 16 hn]
  exact cntNt_c (fun k hk => hasB_mask (by omega) (by omega))
