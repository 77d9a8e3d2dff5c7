/-! THE LAW OF ITS OWN: two rows more; small facts for its walks -/
section LR
variable {M : MI} {Γ : GmW} {Ω : Om} {σ : Sg} {pc : Nat} {lv : List (Option Value)} {st : List Value}
theorem r_irem {x y : Int32} (hd : decode (mB M) pc = .ok (.irem, 1)) (hy : ¬ y = 0)
    (k : AtW M Γ Ω σ (pc + 1) lv (.int (x - x / y * y) :: st)) : AtW M Γ Ω σ pc lv (.int y :: .int x :: st) :=
  fun G H locs ls hP hS hl => lv_irem G.1 G.2.1 hd hy (k G H locs ls hP hS hl)
theorem r_ldc {index : Nat} (v : Int32) (hd : decode (mB M) pc = .ok (.ldc index, 2)) (hw : Jvm.Cond.constant (mO M) index v ∈ mW M)
    (k : AtW M Γ Ω σ (pc + 2) lv (.int v :: st)) : AtW M Γ Ω σ pc lv st :=
  fun G H locs ls hP hS hl => lv_ldc G.1 G.2.1 G.2.2.2.1 (G.2.2.2.2.1 _ hw) hd (k G H locs ls hP hS hl)
end LR
theorem rem_at (x : Int32) {n : Nat} (h0 : 0 < n) (hn : n < 100) : ∃ r, r < n ∧ (x &&& 2147483647) - (x &&& 2147483647) / nI n * nI n = nI r := by
  obtain ⟨m, hm, e⟩ : ∃ m, m < 2 ^ 31 ∧ x &&& 2147483647 = nI m := by
    refine ⟨(x &&& 2147483647).toBitVec.toNat, ?_, ?_⟩
    · rw [Int32.toBitVec_and, BitVec.toNat_and]
      exact Nat.lt_of_le_of_lt Nat.and_le_right (by decide)
    · refine Int32.toBitVec_inj.mp ?_
      show (x &&& 2147483647).toBitVec = BitVec.ofNat 32 (x &&& 2147483647).toBitVec.toNat
      rw [BitVec.ofNat_toNat, BitVec.setWidth_eq]
  rw [e, pk_rem hm h0 (by omega)]
  exact ⟨m % n, Nat.mod_lt _ h0, rfl⟩
/-- the three pairs of directions, one after the other -/
def ovP (v : SpV) (i j : Nat) : Nat → Bool
  | 0 => true
  | 1 => md (vLo v i) (vHi v i) (vLo v j) (vHi v j) 0 1
  | 2 => md (vLo v i) (vHi v i) (vLo v j) (vHi v j) 0 1 && md (vLo v i) (vHi v i) (vLo v j) (vHi v j) 0 2
  | _ => ovB (vLo v i) (vHi v i) (vLo v j) (vHi v j)
theorem hb_0 {x : Int32} {k : Nat} (h : x >>> (nI k &&& 31) &&& 1 = 0) : hasB x k = false := by simp [hasB, h]
theorem hb_1 {x : Int32} {k : Nat} (h : ¬ x >>> (nI k &&& 31) &&& 1 = 0) : hasB x k = true := by simp [hasB, h]
theorem cn_has {p : Nat → Bool} {i k : Nat} {x a : Int32} (ha : a = cntI p i) (hp : p i = hasB x k) : a + (x >>> (nI k &&& 31) &&& 1) = cntI p (i + 1) := by
  rw [cntI, hp]
  rcases bit_01 (x >>> (nI k &&& 31)) with e | e
  · rw [e, if_neg (by simp [hasB, e]), ha]
    exact Int32.add_zero _
  · rw [e, if_pos (by simp [hasB, e]), ha]
theorem cn_y {p : Nat → Bool} {i : Nat} {a : Int32} (ha : a = cntI p i) (hp : p i = true) : a + 1 = cntI p (i + 1) := by
  rw [cntI, if_pos hp, ha]
theorem cn_n {p : Nat → Bool} {i : Nat} {a : Int32} (ha : a = cntI p i) (hp : p i = false) : a + 0 = cntI p (i + 1) := by
  rw [cntI, if_neg (by simp [hp]), ha]
  exact Int32.add_zero _
theorem shY_s {v : SpV} {k X a1 m : Nat} {A z : Int32} {t : Bool} (hz : z = A + shY v k a1 X m) (ht : shF v k X (a1 + m) = t) : z + bI t = A + shY v k a1 X (m + 1) := by
  rw [hz]
  show _ = A + (shY v k a1 X m + bI (shF v k X (a1 + m)))
  rw [ht, Int32.add_assoc]
theorem pr_lt0 {m : Nat} (hm : m < 2 ^ 30) : nI m - 1 < 0 ↔ m = 0 := by
  cases m with
  | zero => exact ⟨fun _ => rfl, fun _ => by decide⟩
  | succ i =>
    rw [nI_pred]
    exact ⟨fun q => absurd q (nI_pos (by omega)), fun q => by omega⟩
/-- for what a box waits, looked for from the last on -/
def wtL (v : SpV) (k m : Nat) (z : Int32) : Prop := (hasB (BV v) k = false → wtS2 v k m z) ∧ (hasB (BV v) k = true → z = -5)
theorem wl_0 {v : SpV} {k : Nat} : wtL v k (vN v) (-5) := ⟨fun _ => Or.inl ⟨rfl, fun j h1 h2 => by omega⟩, fun _ => rfl⟩
theorem wl_a {v : SpV} {k m : Nat} {z : Int32} (h : wtL v k (m + 1) z) (hb : hasB (BV v) k = true) : wtL v k m z := ⟨fun q => (by rw [hb] at q; cases q), h.2⟩
theorem wl_b {v : SpV} {k m : Nat} {z : Int32} (h : wtL v k (m + 1) z) (hb : hasB (BV v) k = false) (hp : wtP v k m = false) : wtL v k m z := ⟨fun _ => wt2_no (h.1 hb) hp, fun q => by rw [hb] at q; cases q⟩
theorem wl_c {v : SpV} {k m : Nat} (hm : m < vN v) (hb : hasB (BV v) k = false) (hp : wtP v k m = true) : wtL v k m (vNu v m) := ⟨fun _ => wt2_yes hm hp, fun q => by rw [hb] at q; cases q⟩
theorem wl_end {v : SpV} {k : Nat} {z : Int32} (hn : vN v ≤ 16) (hk : k < vN v) (h : wtL v k 0 z) : z = if waI v k = -1 then -5 else vNu v (waI v k).toNatClampNeg := by
  cases c : hasB (BV v) k with
  | false => exact wt2_end hn (h.1 c)
  | true => rw [h.2 c, pe_wa hn k hk c, if_pos rfl]
theorem wl_p {v : SpV} {k m : Nat} (hm : m < 32) : (HV v k &&& (BV v ^^^ -1)) &&& bitI m = 0 ↔ wtP v k m = false := by
  rw [andBit hm, wtP_has hm]
/-! writes into the law's rows leave the class as it is -/
theorem isV_lw {σ σ1 : Sg} {s : Nat} {v : SpV} (hs : s < 7) (h : isV σ s v) (hk : keepLw σ σ1) : isV σ1 s v := by
  obtain ⟨h0, h1, h2, h3, h4, h5⟩ := h
  have e : σ1 (iS s) = σ (iS s) := hk _ (by unfold iS; omega)
  refine ⟨h0, by rw [e]; exact h1, by rw [e]; exact h2, by rw [e]; exact h3, by rw [e]; exact h4, fun j hj => ?_⟩
  obtain ⟨a, b⟩ := h5 j hj
  refine ⟨by rw [hk (iBo (bx s j)) (by unfold iBo bx; omega)]; exact a, fun d hd => ?_⟩
  rw [hk (iL (bx s j)) (by unfold iL bx; omega), hk (iH (bx s j)) (by unfold iH bx; omega)]
  exact b d hd
theorem isC_kL {σ σ1 : Sg} {S : StV} (h : isC σ S) (hk : keepLw σ σ1) : isC σ1 S := by
  obtain ⟨h1, ⟨pm, h2, h3⟩, h4, h5⟩ := h
  refine ⟨isV_lw (by omega) h1 hk, ⟨pm, hOk_eq h2 (hk _ (by omega)) (hk _ (by omega)), fun i hi => ?_⟩, ?_, ?_⟩
  · have := h2.2.2.1 i (by have := h2.2.1; omega)
    exact isV_lw (by omega) (h3 i hi) hk
  · unfold snaC
    rw [hk 368 (by omega)]
    rcases h4 with ⟨a, v, b, c⟩ | h4
    · exact Or.inl ⟨a, v, b, isV_lw (by omega) c hk⟩
    · exact Or.inr h4
  · unfold txtC
    rw [hk 365 (by omega), hk 366 (by omega)]
    exact h5
theorem isC_up {σ : Sg} {S : StV} {q k : Nat} {x : Int32} (h : isC σ S) (hq : 369 ≤ q) : isC (upS σ q k x) S := isC_kL h (fun p hp => up_ne (by omega))
/-- what is read into the row of ends -/
def eV (v : SpV) (i : Nat) : Int32 := if i % 6 < 3 then vLo v (i / 6) (i % 3) else vHi v (i / 6) (i % 3)
theorem eV_enc {E : Nat → Int32} {v : SpV} (h : ∀ q, q < 6 * vN v → E q = eV v q) : encE E v := fun j hj d hd => by
  refine ⟨?_, ?_⟩
  · rw [h _ (by omega), eV, show (6 * j + d) % 6 = d by omega, show (6 * j + d) / 6 = j by omega, show (6 * j + d) % 3 = d by omega, if_pos hd]
  · rw [h _ (by omega), eV, show (6 * j + 3 + d) % 6 = 3 + d by omega, show (6 * j + 3 + d) / 6 = j by omega, show (6 * j + 3 + d) % 3 = d by omega, if_neg (by omega)]
theorem eV_up {σ : Sg} {v : SpV} {k : Nat} {x : Int32} (h : ∀ q, q < k → σ 369 q = eV v q) (hx : x = eV v k) : ∀ q, q < k + 1 → upS σ 369 k x 369 q = eV v q := fun q hq => by
  rw [up_get]
  by_cases e : q = k
  · subst e
    rw [if_pos ⟨rfl, rfl⟩, hx]
  · rw [if_neg (fun z => e z.2)]
    exact h q (by omega)
/-- the row of who hides whom grows -/
theorem hv_upk {σ : Sg} {v : SpV} {k : Nat} {x : Int32} (h : ∀ q, q < k → σ 370 q = HV v q) : ∀ q, q < k → upS σ 370 k x 370 q = HV v q := fun q hq => by
  rw [up_get, if_neg (by omega)]
  exact h q hq
theorem hv_s {σ : Sg} {v : SpV} {k : Nat} (h : ∀ q, q < k → σ 370 q = HV v q) (hk : σ 370 k = orI (hdG (vLo v) (vHi v) k) bitI (vN v)) : ∀ q, q < k + 1 → σ 370 q = HV v q := fun q hq => by
  by_cases e : q = k
  · rw [e, hk]
    rfl
  · exact h q (by omega)
