/-! PURE: shadows, cell by cell and row by row -/
theorem us_natW {m k : Nat} (hm : m < 2 ^ 32) (hk : k < 32) : us (nI m) (nI k) = nI (m >>> k) := by
  unfold us
  refine Int32.toBitVec_inj.mp (BitVec.eq_of_toNat_eq ?_)
  have e1 : (nI m).toUInt32.toNat = m := by
    show (BitVec.ofNat 32 m).toNat = m
    rw [BitVec.toNat_ofNat, Nat.mod_eq_of_lt (by omega)]
  have e2 : ((nI k).toUInt32 &&& Int32.toUInt32 31).toNat = k := by
    have h : ∀ j : Fin 32, ((nI j.val).toUInt32 &&& Int32.toUInt32 31).toNat = j.val := by decide +kernel
    exact h ⟨k, hk⟩
  have e3 : ((nI m).toUInt32 >>> ((nI k).toUInt32 &&& Int32.toUInt32 31)).toNat = m >>> k := by
    rw [UInt32.toNat_shiftRight, e1, e2, Nat.mod_eq_of_lt hk]
  show ((nI m).toUInt32 >>> ((nI k).toUInt32 &&& Int32.toUInt32 31)).toNat = (BitVec.ofNat 32 (m >>> k)).toNat
  rw [e3, BitVec.toNat_ofNat, Nat.mod_eq_of_lt]
  exact Nat.lt_of_le_of_lt (Nat.shiftRight_le m k) (by omega)
theorem bc_natW {m : Nat} (hm : m < 2 ^ 32) : bcI (nI m) = nI (nbN m) := by
  have l1 : ∀ a b : Nat, a &&& b ≤ a := fun a b => Nat.and_le_left
  have l3 : ∀ a b : Nat, a &&& b ≤ b := fun a b => Nat.and_le_right
  have l2 : ∀ a k : Nat, a >>> k ≤ a := fun a k => Nat.shiftRight_le a k
  unfold bcI nbN
  simp only
  rw [show (1 : Int32) = nI 1 from rfl, show (2 : Int32) = nI 2 from rfl, show (4 : Int32) = nI 4 from rfl, show (8 : Int32) = nI 8 from rfl, show (16 : Int32) = nI 16 from rfl, show (63 : Int32) = nI 63 from rfl, show (1431655765 : Int32) = nI 1431655765 from rfl, show (858993459 : Int32) = nI 858993459 from rfl, show (252645135 : Int32) = nI 252645135 from rfl]
  have a1 : (m >>> 1) &&& 1431655765 ≤ m := Nat.le_trans (l1 _ _) (l2 _ _)
  rw [us_natW (m := m) hm (by omega), and_nat, nI_subR a1]
  generalize e1 : m - ((m >>> 1) &&& 1431655765) = v1
  have b1 : v1 < 2 ^ 32 := by omega
  rw [us_natW (m := v1) b1 (by omega), and_nat, and_nat, nI_add]
  have c1 := l3 v1 858993459
  have c2 := l3 (v1 >>> 2) 858993459
  generalize e2 : (v1 &&& 858993459) + ((v1 >>> 2) &&& 858993459) = v2
  have b2 : v2 < 2 ^ 31 := by omega
  rw [us_natW (m := v2) (by omega) (by omega), nI_add, and_nat]
  have d1 := l3 (v2 + (v2 >>> 4)) 252645135
  generalize e3 : (v2 + (v2 >>> 4)) &&& 252645135 = v3
  have b3 : v3 < 2 ^ 29 := by omega
  rw [us_natW (m := v3) (by omega) (by omega), nI_add]
  have f1 := l2 v3 8
  generalize e4 : v3 + (v3 >>> 8) = v4
  have b4 : v4 < 2 ^ 30 := by omega
  rw [us_natW (m := v4) (by omega) (by omega), nI_add, and_nat]
def ckJ (s a : Nat) : Nat → Bool
  | 0 => true
  | n + 1 => Nat.beq (nbN ((a + n) <<< s)) (nbN (a + n)) && ckJ s a n
def ckP (s : Nat) : Nat → Bool
  | 0 => true
  | n + 1 => ckJ s (64 * n) 64 && ckP s n
def ckS : Nat → Bool
  | 0 => true
  | n + 1 => ckP n 64 && ckS n
theorem ckS_21 : ckS 21 = true := by decide +kernel
theorem ckJ_at {s a : Nat} : ∀ {n i : Nat}, ckJ s a n = true → i < n → nbN ((a + i) <<< s) = nbN (a + i)
  | 0, i, _, hi => absurd hi (Nat.not_lt_zero i)
  | n + 1, i, h, hi => by
    rw [ckJ, Bool.and_eq_true] at h
    by_cases e : i = n
    · rw [e]
      exact Nat.eq_of_beq_eq_true h.1
    · exact ckJ_at h.2 (by omega)
theorem ckP_at {s : Nat} : ∀ {n i : Nat}, ckP s n = true → i < 64 * n → nbN (i <<< s) = nbN i
  | 0, i, _, hi => by omega
  | n + 1, i, h, hi => by
    rw [ckP, Bool.and_eq_true] at h
    by_cases e : i < 64 * n
    · exact ckP_at h.2 e
    · have := ckJ_at h.1 (i := i - 64 * n) (by omega)
      rw [show 64 * n + (i - 64 * n) = i by omega] at this
      exact this
theorem ckS_at : ∀ {n s i : Nat}, ckS n = true → s < n → i < 4096 → nbN (i <<< s) = nbN i
  | 0, s, i, _, hs, _ => absurd hs (Nat.not_lt_zero s)
  | n + 1, s, i, h, hs, hi => by
    rw [ckS, Bool.and_eq_true] at h
    by_cases e : s = n
    · rw [e]
      exact ckP_at h.1 (by omega)
    · exact ckS_at h.2 (by omega) hi
/-- the count of a mask whose bits lie in twelve places -/
theorem bc_win {x : Int32} {s : Nat} (hs : s ≤ 20) (h : ∀ k, k < 32 → (k < s ∨ s + 12 ≤ k) → hasB x k = false) : bcI x = nI (cntNt (fun i => hasB x (s + i)) 12) := by
  have ex : x = nI x.toBitVec.toNat := by
    refine Int32.toBitVec_inj.mp ?_
    show x.toBitVec = BitVec.ofNat 32 x.toBitVec.toNat
    rw [BitVec.ofNat_toNat, BitVec.setWidth_eq]
  have hm : x.toBitVec.toNat < 2 ^ 32 := x.toBitVec.isLt
  have bit : ∀ k, k < 32 → hasB x k = x.toBitVec.toNat.testBit k := fun k hk => hasB_bit x hk
  have out : ∀ k, 32 ≤ k → x.toBitVec.toNat.testBit k = false := fun k hk => Nat.testBit_lt_two_pow (Nat.lt_of_lt_of_le hm (Nat.pow_le_pow_right (by omega) hk))
  have hY : x.toBitVec.toNat >>> s < 2 ^ 12 := Nat.lt_pow_two_of_testBit (n := 12) _ (fun i hi => by
    rw [Nat.testBit_shiftRight]
    by_cases c : s + i < 32
    · rw [← bit _ c]
      exact h _ c (Or.inr (by omega))
    · exact out _ (by omega))
  have eY : (x.toBitVec.toNat >>> s) <<< s = x.toBitVec.toNat := Nat.eq_of_testBit_eq (fun i => by
    rw [Nat.testBit_shiftLeft, Nat.testBit_shiftRight]
    by_cases c : s ≤ i
    · rw [decide_eq_true c, Bool.true_and, show s + (i - s) = i by omega]
    · rw [decide_eq_false c, Bool.false_and, ← bit i (by omega)]
      exact (h i (by omega) (Or.inl (by omega))).symm)
  have e1 : bcI x = nI (nbN x.toBitVec.toNat) := (congrArg bcI ex).trans (bc_natW hm)
  rw [e1, ← eY, ckS_at ckS_21 (by omega) hY, nb_cn hY (by omega)]
  congr 1
  refine cntNt_c (fun i hi => ?_)
  rw [Nat.testBit_shiftRight, bit _ (by omega)]
theorem cnN_app (p : Nat → Bool) (c : Nat) : ∀ d, cntNt p (c + d) = cntNt p c + cntNt (fun i => p (c + i)) d
  | 0 => by rw [cntNt]; rfl
  | d + 1 => by
    rw [← Nat.add_assoc, cntNt, cnN_app p c d, cntNt]
    omega
theorem cnN_zero {p : Nat → Bool} : ∀ {n : Nat}, (∀ i, i < n → p i = false) → cntNt p n = 0
  | 0, _ => rfl
  | n + 1, h => by rw [cntNt, cnN_zero (fun i hi => h i (Nat.lt_succ_of_lt hi)), h n (Nat.lt_succ_self n)]; rfl
/-- counted in a longer stretch: the same -/
theorem cnN_win {p : Nat → Bool} {s a b : Nat} (h1 : s ≤ a) (h2 : a ≤ b) (h3 : b ≤ s + 12) (h : ∀ k, k < s + 12 → (k < a ∨ b ≤ k) → p k = false) : cntNt (fun i => p (s + i)) 12 = cntNt (fun i => p (a + i)) (b - a) := by
  have e : (12 : Nat) = (a - s) + ((b - a) + (s + 12 - b)) := by omega
  have g := cnN_app (fun i => p (s + i)) (a - s) ((b - a) + (s + 12 - b))
  rw [← e, cnN_app] at g
  rw [g, cnN_zero (fun i hi => h _ (by omega) (Or.inl (by omega))), cnN_zero (p := fun i => p (s + (a - s + (b - a + i)))) (fun i hi => h _ (by omega) (Or.inr (by omega))), Nat.zero_add, Nat.add_zero]
  refine cntNt_c (fun i _ => ?_)
  show p (s + (a - s + i)) = p (a + i)
  rw [show s + (a - s + i) = a + i by omega]
theorem bc_row {x : Int32} {a b : Nat} (hab : a ≤ b) (hb : b ≤ 32) (hw : b ≤ a + 12) (h : ∀ k, k < 32 → (k < a ∨ b ≤ k) → hasB x k = false) : bcI x = nI (cntNt (fun i => hasB x (a + i)) (b - a)) := by
  by_cases c : a ≤ 20
  · rw [bc_win c (fun k hk hq => h k hk (by omega)), cnN_win (p := hasB x) (Nat.le_refl a) hab hw (fun k hk hq => h k (by omega) hq)]
  · rw [bc_win (s := 20) (Nat.le_refl _) (fun k hk hq => h k hk (by omega)), cnN_win (p := hasB x) (s := 20) (a := a) (b := b) (by omega) hab (by omega) (fun k hk hq => h k (by omega) hq)]
theorem cnt_sum (p : Nat → Bool) : ∀ n, nI (cntNt p n) = sumI (fun i => bI (p i)) n
  | 0 => rfl
  | n + 1 => by
    rw [cntNt, sumI, ← cnt_sum p n, ← nI_add]
    congr 1
    cases p n <;> rfl
theorem sumI_0 : ∀ n, sumI (fun _ => (0 : Int32)) n = 0
  | 0 => rfl
  | n + 1 => by rw [sumI, sumI_0 n]; rfl
theorem sumI_add (f g : Nat → Int32) : ∀ n, sumI (fun i => f i + g i) n = sumI f n + sumI g n
  | 0 => rfl
  | n + 1 => by
    rw [sumI, sumI, sumI, sumI_add f g n, Int32.add_assoc, Int32.add_assoc, ← Int32.add_assoc (sumI g n), Int32.add_comm (sumI g n) (f n), Int32.add_assoc]
theorem sumI_swap (f : Nat → Nat → Int32) (m : Nat) : ∀ n, sumI (fun i => sumI (fun j => f i j) m) n = sumI (fun j => sumI (fun i => f i j) n) m
  | 0 => by
    rw [sumI]
    exact (sumI_0 m).symm
  | n + 1 => by
    rw [sumI, sumI_swap f m n, ← sumI_add]
    rfl
theorem rw_base : ∀ d : Fin 12, ∀ x : Fin 32, hasB ((1 : Int32) <<< (nI (d.val + 1) &&& 31) - 1) x.val = decide (x.val < d.val + 1) := by decide +kernel
theorem hasB_shl (y : Int32) {a k : Nat} (ha : a < 32) (hk : k < 32) : hasB (y <<< (nI a &&& 31)) k = (decide (a ≤ k) && hasB y (k - a)) := by
  have e1 : (y <<< (nI a &&& 31)).toBitVec = y.toBitVec <<< a := by
    rw [Int32.toBitVec_shiftLeft, sh_amt ⟨a, ha⟩]
    show y.toBitVec <<< (BitVec.ofNat 32 a).toNat = _
    rw [BitVec.toNat_ofNat, Nat.mod_eq_of_lt (by omega)]
  rw [hasB_bit _ hk, e1, BitVec.getLsbD_shiftLeft, hasB_bit _ (by omega), decide_eq_true hk, Bool.true_and]
  congr 1
  by_cases c : a ≤ k
  · rw [decide_eq_true c, decide_eq_false (by omega)]
    rfl
  · rw [decide_eq_false c, decide_eq_true (by omega)]
    rfl
theorem rw_bit {v : SpV} {j a b x : Nat} (h1 : vLo v j 0 = nI a) (h2 : vHi v j 0 = nI b) (hab : a < b) (hb : b ≤ 32) (hw : b ≤ a + 12) (hx : x < 32) : hasB (rwG (vLo v) (vHi v) j) x = (decide (a ≤ x) && decide (x < b)) := by
  unfold rwG szG
  rw [h1, h2, nI_subR (by omega), hasB_shl _ (by omega) hx]
  by_cases c : a ≤ x
  · have := rw_base ⟨b - a - 1, by omega⟩ ⟨x - a, by omega⟩
    rw [show b - a - 1 + 1 = b - a by omega] at this
    rw [this]
    congr 1
    exact decide_eq_decide.mpr (by
      show x - a < b - a ↔ x < b
      omega)
  · rw [decide_eq_false c, Bool.false_and, Bool.false_and]
/-- a cell in a box, two ways -/
theorem cv_cell {v : SpV} (hg : gdV v) {j x y : Nat} (hj : j < vN v) (hx : x < 32) (hy : y < 32) : cvX v j (nI x) (nI y) = (cvB (vLo v j) (vHi v j) (nI y) && hasB (rwG (vLo v) (vHi v) j) x) := by
  obtain ⟨a, b, e1, e2, e3, e4, e5⟩ := hg.2.2.1 j hj 0 (by omega)
  obtain ⟨c, d, f1, f2, f3, f4, f5⟩ := hg.2.2.1 j hj 1 (by omega)
  rw [rw_bit e1 e2 e3 e4 e5 hx]
  unfold cvX inW cvB
  rw [e1, e2, f1, f2, show (1 : Int32) = nI 1 from rfl, nI_subR (by omega), nI_subR (by omega)]
  have d1 : decide (nI x < nI a) = decide (x < a) := decide_eq_decide.mpr (nI_ltI (by omega) (by omega))
  have d2 : decide (nI (b - 1) < nI x) = decide (b - 1 < x) := decide_eq_decide.mpr (nI_ltI (by omega) (by omega))
  have d3 : decide (nI y < nI c) = decide (y < c) := decide_eq_decide.mpr (nI_ltI (by omega) (by omega))
  have d4 : decide (nI (d - 1) < nI y) = decide (d - 1 < y) := decide_eq_decide.mpr (nI_ltI (by omega) (by omega))
  have d5 : decide (nI y < nI d) = decide (y < d) := decide_eq_decide.mpr (nI_ltI (by omega) (by omega))
  rw [d1, d2, d3, d4, d5]
  have n1 : (!decide (x < a)) = decide (a ≤ x) := by
    by_cases q : x < a
    · rw [decide_eq_true q, decide_eq_false (by omega)]; rfl
    · rw [decide_eq_false q, decide_eq_true (by omega)]; rfl
  have n2 : (!decide (b - 1 < x)) = decide (x < b) := by
    by_cases q : x < b
    · rw [decide_eq_true q, decide_eq_false (by omega)]; rfl
    · rw [decide_eq_false q, decide_eq_true (by omega)]; rfl
  have n3 : (!decide (d - 1 < y)) = decide (y < d) := by
    by_cases q : y < d
    · rw [decide_eq_true q, decide_eq_false (by omega)]; rfl
    · rw [decide_eq_false q, decide_eq_true (by omega)]; rfl
  rw [n1, n2, n3]
  exact Bool.and_comm _ _
theorem sh_cell {v : SpV} (hg : gdV v) (hn : vN v ≤ 16) {k a b x y : Nat} (h1 : vLo v k 0 = nI a) (h2 : vHi v k 0 = nI b) (hab : a < b) (hb : b ≤ 32) (hw : b ≤ a + 12) (hax : a ≤ x) (hxb : x < b) (hy : y < 32) : hasB (shG (vLo v) (vHi v) k (vN v) y &&& rwG (vLo v) (vHi v) k) x = shF v k x y := by
  have hx : x < 32 := by omega
  rw [hasB_and _ _ hx, rw_bit h1 h2 hab hb hw hx, decide_eq_true hax, decide_eq_true hxb]
  unfold shG shF
  rw [hasB_orI hx, Bool.and_true, Bool.and_true]
  refine anyb_c (fun j hj => ?_)
  rw [cv_cell hg hj hx hy, Bool.and_assoc]
theorem pe_sh {v : SpV} (hg : gdV v) (hn : vN v ≤ 16) : peSh v := fun k hk => by
  obtain ⟨a, b, e1, e2, e3, e4, e5⟩ := hg.2.2.1 k hk 0 (by omega)
  obtain ⟨c, d, f1, f2, f3, f4, f5⟩ := hg.2.2.1 k hk 1 (by omega)
  rw [shX_at e1 e2 f1 f2 (by omega) (by omega) (by omega) (by omega)]
  unfold shaV yA yM
  rw [f1, f2, nI_clamp (by omega), nI_clamp (by omega)]
  unfold shT shY
  rw [sumI_swap]
  refine sumI_c (fun m hm => ?_)
  rw [bc_row (by omega) e4 e5 (x := shG (vLo v) (vHi v) k (vN v) (c + m) &&& rwG (vLo v) (vHi v) k) (fun q hq hw => ?_), cnt_sum]
  · refine sumI_c (fun i hi => ?_)
    rw [sh_cell hg hn e1 e2 e3 e4 e5 (by omega) (by omega) (by omega)]
  · rw [hasB_and _ _ hq, rw_bit e1 e2 e3 e4 e5 hq]
    rcases hw with z | z
    · rw [decide_eq_false (by omega), Bool.false_and, Bool.and_false]
    · rw [decide_eq_false (p := q < b) (by omega), Bool.and_false, Bool.and_false]
