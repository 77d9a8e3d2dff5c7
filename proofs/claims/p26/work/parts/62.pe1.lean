/-! PURE: who hides whom excludes its turn-around; the bits of a mask -/
theorem sub_toIntR {a b : Nat} (ha : a < 2 ^ 30) (hb : b < 2 ^ 30) : (nI a - nI b).toInt = (a : Int) - (b : Int) := by
  rw [Int32.toInt_sub, nI_toInt (by omega), nI_toInt (by omega), Int.bmod_def]
  omega
theorem fI3_ex {p : Nat → Bool} (h : ¬ fI p 3 = -1) : ∃ d, d < 3 ∧ p d = true := by
  unfold fI at h
  by_cases c : ffi p 3 < 3
  · exact ⟨_, c, ffi_at c⟩
  · rw [if_neg c] at h
    exact absurd rfl h
theorem dh_ex {v : SpV} {a b : Nat} (h : ¬ dhV v a b = -1) : ovB (vLo v a) (vHi v a) (vLo v b) (vHi v b) = true ∧ ∃ d, d < 3 ∧ ¬ vLo v a d < vHi v b d := by
  unfold dhV dhB at h
  by_cases c : ovB (vLo v a) (vHi v a) (vLo v b) (vHi v b) = true
  · rw [if_pos c] at h
    obtain ⟨d, h1, h2⟩ := fI3_ex h
    exact ⟨c, d, h1, by simpa using h2⟩
  · rw [if_neg c] at h
    exact absurd rfl h
theorem ov_md {l1 h1 l2 h2 : V3} (h : ovB l1 h1 l2 h2 = true) {d e : Nat} (hde : d < e) (he : e < 3) : l1 d - h1 e < h2 d - l2 e ∧ l2 d - h2 e < h1 d - l1 e := by
  unfold ovB md at h
  simp only [Bool.and_eq_true, decide_eq_true_eq] at h
  rcases (show (d = 0 ∧ e = 1) ∨ (d = 0 ∧ e = 2) ∨ (d = 1 ∧ e = 2) by omega) with ⟨rfl, rfl⟩ | ⟨rfl, rfl⟩ | ⟨rfl, rfl⟩
  · exact h.1.1
  · exact h.1.2
  · exact h.2
theorem pr_ex {v : SpV} (hg : gdV v) : pePr v := fun a b ha hb hab => by
  by_cases c : dhV v a b = -1
  · exact Or.inl c
  · by_cases c2 : dhV v b a = -1
    · exact Or.inr c2
    · obtain ⟨o1, d, hd, n1⟩ := dh_ex c
      obtain ⟨_, e, he, n2⟩ := dh_ex c2
      exfalso
      obtain ⟨a1, a2, p1, p2, p3, p4, _⟩ := hg.2.2.1 a ha d hd
      obtain ⟨a3, a4, p5, p6, p7, p8, _⟩ := hg.2.2.1 a ha e he
      obtain ⟨b1, b2, q1, q2, q3, q4, _⟩ := hg.2.2.1 b hb d hd
      obtain ⟨b3, b4, q5, q6, q7, q8, _⟩ := hg.2.2.1 b hb e he
      rw [p1, q2] at n1
      rw [q5, p6] at n2
      have m1 : ¬ a1 < b2 := fun z => n1 (nI_lt z (by omega))
      have m2 : ¬ b3 < a4 := fun z => n2 (nI_lt z (by omega))
      rcases Nat.lt_trichotomy d e with z | z | z
      · have x := (ov_md o1 z he).1
        rw [p1, p6, q2, q5, Int32.lt_iff_toInt_lt, sub_toIntR (by omega) (by omega), sub_toIntR (by omega) (by omega)] at x
        omega
      · subst z
        have y1 : a1 = a3 := (nI_eq (by omega) (by omega)).mp (p1.symm.trans p5)
        have y2 : a2 = a4 := (nI_eq (by omega) (by omega)).mp (p2.symm.trans p6)
        have y3 : b1 = b3 := (nI_eq (by omega) (by omega)).mp (q1.symm.trans q5)
        have y4 : b2 = b4 := (nI_eq (by omega) (by omega)).mp (q2.symm.trans q6)
        omega
      · have x := (ov_md o1 z hd).2
        rw [q5, q2, p6, p1, Int32.lt_iff_toInt_lt, sub_toIntR (by omega) (by omega), sub_toIntR (by omega) (by omega)] at x
        omega
/-! the bits of a mask of sixteen -/
theorem m16_of {x : Int32} (h : ∀ k, 16 ≤ k → k < 32 → hasB x k = false) : ∃ m, m < 65536 ∧ x = nI m := by
  refine ⟨x.toBitVec.toNat, ?_, ?_⟩
  · refine Nat.lt_pow_two_of_testBit (n := 16) _ (fun i hi => ?_)
    by_cases c : i < 32
    · have := h i hi c
      rw [hasB_bit _ c] at this
      exact this
    · exact Nat.testBit_lt_two_pow (Nat.lt_of_lt_of_le x.toBitVec.isLt (Nat.pow_le_pow_right (by omega) (by omega)))
  · refine Int32.toBitVec_inj.mp ?_
    show x.toBitVec = BitVec.ofNat 32 x.toBitVec.toNat
    rw [BitVec.ofNat_toNat, BitVec.setWidth_eq]
theorem us_nat {m k : Nat} (hm : m < 2 ^ 31) (hk : k < 32) : us (nI m) (nI k) = nI (m >>> k) := by
  unfold us
  refine Int32.toBitVec_inj.mp (BitVec.eq_of_toNat_eq ?_)
  have e1 : (nI m).toUInt32.toNat = m := by
    show (BitVec.ofNat 32 m).toNat = m
    rw [BitVec.toNat_ofNat, Nat.mod_eq_of_lt (by omega)]
  have e2 : ((nI k).toUInt32 &&& Int32.toUInt32 31).toNat = k := by
    have h : ∀ j : Fin 32, ((nI j.val).toUInt32 &&& Int32.toUInt32 31).toNat = j.val := by decide +kernel
    exact h ⟨k, hk⟩
  have e3 : ((nI m).toUInt32 >>> ((nI k).toUInt32 &&& Int32.toUInt32 31)).toNat = m >>> k := by
    rw [UInt32.toNat_shiftRight, e1, e2, Nat.mod_eq_of_lt hk]
  show ((nI m).toUInt32 >>> ((nI k).toUInt32 &&& Int32.toUInt32 31)).toNat = (BitVec.ofNat 32 (m >>> k)).toNat
  rw [e3, BitVec.toNat_ofNat, Nat.mod_eq_of_lt]
  exact Nat.lt_of_le_of_lt (Nat.shiftRight_le m k) (by omega)
theorem and_nat (a b : Nat) : nI a &&& nI b = nI (a &&& b) := by
  refine Int32.toBitVec_inj.mp ?_
  rw [Int32.toBitVec_and]
  refine BitVec.eq_of_toNat_eq ?_
  show ((BitVec.ofNat 32 a) &&& (BitVec.ofNat 32 b)).toNat = (BitVec.ofNat 32 (a &&& b)).toNat
  rw [BitVec.toNat_and, BitVec.toNat_ofNat, BitVec.toNat_ofNat, BitVec.toNat_ofNat, Nat.and_mod_two_pow]
/-- the count on numbers -/
def nbN (m : Nat) : Nat :=
  let v1 := m - ((m >>> 1) &&& 1431655765)
  let v2 := (v1 &&& 858993459) + ((v1 >>> 2) &&& 858993459)
  let v3 := (v2 + (v2 >>> 4)) &&& 252645135
  let v4 := v3 + (v3 >>> 8)
  let v5 := v4 + (v4 >>> 16)
  v5 &&& 63
theorem bc_nat {m : Nat} (hm : m < 65536) : bcI (nI m) = nI (nbN m) := by
  have l1 : ∀ a b : Nat, a &&& b ≤ a := fun a b => Nat.and_le_left
  have l2 : ∀ a k : Nat, a >>> k ≤ a := fun a k => Nat.shiftRight_le a k
  unfold bcI nbN
  simp only
  rw [show (1 : Int32) = nI 1 from rfl, show (2 : Int32) = nI 2 from rfl, show (4 : Int32) = nI 4 from rfl, show (8 : Int32) = nI 8 from rfl, show (16 : Int32) = nI 16 from rfl, show (63 : Int32) = nI 63 from rfl, show (1431655765 : Int32) = nI 1431655765 from rfl, show (858993459 : Int32) = nI 858993459 from rfl, show (252645135 : Int32) = nI 252645135 from rfl]
  have a1 : (m >>> 1) &&& 1431655765 ≤ m := Nat.le_trans (l1 _ _) (l2 _ _)
  rw [us_nat (m := m) (by omega) (by omega), and_nat, nI_subR a1]
  generalize e1 : m - ((m >>> 1) &&& 1431655765) = v1
  have b1 : v1 < 65536 := by omega
  rw [us_nat (m := v1) (by omega) (by omega), and_nat, and_nat, nI_add]
  have c1 := l1 v1 858993459
  have c2 := l1 (v1 >>> 2) 858993459
  have c3 := l2 v1 2
  generalize e2 : (v1 &&& 858993459) + ((v1 >>> 2) &&& 858993459) = v2
  have b2 : v2 < 131072 := by omega
  rw [us_nat (m := v2) (by omega) (by omega), nI_add, and_nat]
  have d1 := l1 (v2 + (v2 >>> 4)) 252645135
  have d2 := l2 v2 4
  generalize e3 : (v2 + (v2 >>> 4)) &&& 252645135 = v3
  have b3 : v3 < 262144 := by omega
  rw [us_nat (m := v3) (by omega) (by omega), nI_add]
  have f1 := l2 v3 8
  generalize e4 : v3 + (v3 >>> 8) = v4
  have b4 : v4 < 524288 := by omega
  rw [us_nat (m := v4) (by omega) (by omega), nI_add, and_nat]
