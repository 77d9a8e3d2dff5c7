/-! REFERENCE: changes -/
def gdV (v : SpV) : Prop := uniV v ∧ ru3 v ∧ (∀ k, k < vN v → ∀ d, d < 3 → ∃ a b : Nat, vLo v k d = nI a ∧ vHi v k d = nI b ∧ a < b ∧ b ≤ 32 ∧ b ≤ a + 12) ∧ ∀ j k, j < vN v → k < vN v → ¬ j = k → ctBx (vLo v j) (vHi v j) (vLo v k) (vHi v k) = false
theorem gd_lt {v : SpV} (h : gdV v) : ltV v := fun k hk d hd => by
  obtain ⟨a, b, e1, e2, e3, e4, e5⟩ := h.2.2.1 k hk d hd
  rw [e1, e2]
  exact nI_lt e3 (by omega)
theorem nI_subR {a b : Nat} (h : b ≤ a) : nI a - nI b = nI (a - b) := by
  have e : nI a = nI (a - b) + nI b := by rw [nI_add, Nat.sub_add_cancel h]
  rw [e, Int32.add_sub_cancel]
theorem gd_sz {v : SpV} (h : gdV v) {k d : Nat} (hk : k < vN v) (hd : d < 3) : ∃ s, 1 ≤ s ∧ s ≤ 12 ∧ szG (vLo v) (vHi v) k d = nI s := by
  obtain ⟨a, b, e1, e2, e3, e4, e5⟩ := h.2.2.1 k hk d hd
  refine ⟨b - a, by omega, by omega, ?_⟩
  unfold szG
  rw [e1, e2, nI_subR (by omega)]
theorem snM_some {σ : Sg} {p : Option SpV} (h : snM σ p) (h1 : ¬ σ 369 5 = 0) : ∃ w, p = some w ∧ isZ (σ 373) w := by
  rcases h with ⟨_, w, e1, e2⟩ | ⟨e, _⟩
  · exact ⟨w, e1, e2⟩
  · exact absurd e h1
theorem snM_none {σ : Sg} {p : Option SpV} (h : snM σ p) (h1 : σ 369 5 = 0) : p = none := by
  rcases h with ⟨e, _⟩ | ⟨_, e⟩
  · rw [e] at h1
    exact absurd h1 (by decide)
  · exact e
theorem push_z {σ σ1 σ2 : Sg} {S : StV} {w : SpV} {r : Int32} {o : Int32 × StV} (h : isMd σ S) (hp : phI S σ σ1) (hk : ∀ q, q ≠ 370 → σ2 q = σ1 q) (hw : isZ (σ2 370) w) (e : o = (r, pushS S w)) : okMd σ o r σ2 := by
  have h1 : isMd σ1 (pushS S (qC S)) := push_md h hp (by rw [phI_z hp]; exact h.1)
  exact okMd_of e (md_z h1 hk hw) (fun q hq => (hk q (by omega)).trans (phI_keepL hp q hq))
theorem tb_neg {v : SpV} {x y z a b c : Int32} (h : tbA v x y z a b c < 0) : entOk v x y z a b c = false ∧ entA v x y z a b c = tbA v x y z a b c := by
  unfold tbA at h ⊢
  unfold entOk entA
  cases c1 : entR x y z a b c with
  | false => exact ⟨rfl, rfl⟩
  | true =>
    cases c2 : entCut v x y z a b c with
    | true => exact ⟨rfl, rfl⟩
    | false =>
      by_cases c3 : vN v = 16
      · rw [decide_eq_true c3, if_pos c3]
        exact ⟨rfl, by simp [c3]⟩
      · rw [c1, c2, if_neg c3] at h
        exact absurd h (by decide)
theorem tb_nn {v : SpV} {x y z a b c : Int32} (h : ¬ tbA v x y z a b c < 0) : entOk v x y z a b c = true ∧ ¬ vN v = 16 ∧ tbA v x y z a b c = 0 := by
  unfold tbA at h ⊢
  unfold entOk
  cases c1 : entR x y z a b c with
  | false => rw [c1] at h; exact absurd (show (-2 : Int32) < 0 from by decide) h
  | true =>
    cases c2 : entCut v x y z a b c with
    | true => rw [c1, c2] at h; exact absurd (show (-4 : Int32) < 0 from by decide) h
    | false =>
      by_cases c3 : vN v = 16
      · rw [c1, c2, if_pos c3] at h; exact absurd (show (-3 : Int32) < 0 from by decide) h
      · rw [decide_eq_false c3, if_neg c3]
        exact ⟨rfl, c3, rfl⟩
/-! removing -/
def rmO (σ : Sg) (n k i : Nat) : Sg := setA σ 370 (fun q => if q = 0 then nI (n - 1) else if 4 + 7 * k ≤ q ∧ q < i then σ 370 (q + 7) else σ 370 q)
theorem rmO_0 (σ : Sg) (n k : Nat) : upS σ 370 0 (nI (n - 1)) = rmO σ n k (4 + 7 * k) := by
  unfold rmO
  rw [up_as]
  congr 1
  funext q
  simp only [upd]
  by_cases e : q = 0
  · rw [if_pos e, if_pos e]
  · rw [if_neg e, if_neg e, if_neg (by omega)]
theorem rmO_s (σ : Sg) {n k i : Nat} (hi : 4 + 7 * k ≤ i) : upS (rmO σ n k i) 370 i (σ 370 (i + 7)) = rmO σ n k (i + 1) := by
  unfold rmO
  rw [up_setA]
  congr 1
  funext q
  simp only [upd]
  by_cases e : q = i
  · subst e
    rw [if_pos rfl, if_neg (by omega), if_pos (by omega)]
  · rw [if_neg e]
    by_cases e0 : q = 0
    · rw [if_pos e0, if_pos e0]
    · rw [if_neg e0, if_neg e0]
      by_cases d : 4 + 7 * k ≤ q ∧ q < i
      · rw [if_pos d, if_pos (by omega)]
      · rw [if_neg d, if_neg (by omega)]
theorem rmO_get (σ : Sg) {n k i : Nat} (hi : 4 + 7 * k ≤ i) : rmO σ n k i 370 (i + 7) = σ 370 (i + 7) := by
  unfold rmO
  rw [setA_at, if_neg (by omega), if_neg (by omega)]
theorem rmO_n (σ : Sg) (n k i : Nat) : rmO σ n k i 370 0 = nI (n - 1) := by
  unfold rmO
  rw [setA_at, if_pos rfl]
theorem rm_z {σ : Sg} {v : SpV} {k : Nat} (hz : isZ (σ 370) v) (hk : k < vN v) : isZ (rmO σ (vN v) k (4 + 7 * (vN v - 1)) 370) (rmV v k) := by
  obtain ⟨h0, h1, h2, h3, h4, h5, h6⟩ := hz
  have g : ∀ q, q ≠ 0 → rmO σ (vN v) k (4 + 7 * (vN v - 1)) 370 q = (if 4 + 7 * k ≤ q ∧ q < 4 + 7 * (vN v - 1) then σ 370 (q + 7) else σ 370 q) := fun q hq => by
    unfold rmO
    rw [setA_at, if_neg hq]
  have gj : ∀ j e, j < vN v - 1 → e < 7 → rmO σ (vN v) k (4 + 7 * (vN v - 1)) 370 (4 + 7 * j + e) = σ 370 (4 + 7 * mvI k (vN v - 1) j + e) := fun j e hj he => by
    rw [g _ (by omega)]
    unfold mvI
    by_cases c : k ≤ j ∧ j < vN v - 1
    · rw [if_pos c, if_pos (by omega)]
      congr 1
      omega
    · rw [if_neg c, if_neg (by omega)]
  refine ⟨by show vN v - 1 ≤ 16; omega, rmO_n _ _ _ _, ?_, ?_, ?_, fun j hj => ?_, fun j hj d hd => ?_⟩
  · rw [g 1 (by omega), if_neg (by omega)]; exact h2
  · rw [g 2 (by omega), if_neg (by omega)]; exact h3
  · rw [g 3 (by omega), if_neg (by omega)]; exact h4
  · have hj2 : j < vN v - 1 := hj
    rw [gj j 0 hj2 (by omega)]
    exact h5 _ (by unfold mvI; split <;> omega)
  · have hj2 : j < vN v - 1 := hj
    rw [gj j (1 + d) hj2 (by omega), gj j (4 + d) hj2 (by omega)]
    exact h6 _ (by unfold mvI; split <;> omega) d hd
/-! a low or a size is put -/
def setL (v : SpV) (k e : Nat) (x : Int32) : SpV := (vN v, vX v, vSp v, vRu v, vNu v, (fun j d => if j = k ∧ d = e then x else vLo v j d), (fun j d => if j = k ∧ d = e then x + (vHi v j d - vLo v j d) else vHi v j d))
def setSz (v : SpV) (k e : Nat) (x : Int32) : SpV := (vN v, vX v, vSp v, vRu v, vNu v, vLo v, (fun j d => if j = k ∧ d = e then vLo v j d + x else vHi v j d))
theorem setL_lo (v : SpV) (k e : Nat) (x : Int32) (j d : Nat) : vLo (setL v k e x) j d = if j = k ∧ d = e then x else vLo v j d := rfl
theorem setL_hi (v : SpV) (k e : Nat) (x : Int32) (j d : Nat) : vHi (setL v k e x) j d = if j = k ∧ d = e then x + (vHi v j d - vLo v j d) else vHi v j d := rfl
theorem setSz_lo (v : SpV) (k e : Nat) (x : Int32) (j d : Nat) : vLo (setSz v k e x) j d = vLo v j d := rfl
theorem setSz_hi (v : SpV) (k e : Nat) (x : Int32) (j d : Nat) : vHi (setSz v k e x) j d = if j = k ∧ d = e then vLo v j d + x else vHi v j d := rfl
theorem isZ_setL {σ : Sg} {v : SpV} (hz : isZ (σ 370) v) {k e : Nat} (he : e < 3) (x : Int32) : isZ (upS σ 370 (4 + 7 * k + (1 + e)) x 370) (setL v k e x) := by
  obtain ⟨h0, h1, h2, h3, h4, h5, h6⟩ := hz
  refine ⟨h0, ?_, ?_, ?_, ?_, fun j hj => ?_, fun j hj d hd => ?_⟩
  · rw [up_get, if_neg (by omega)]; exact h1
  · rw [up_get, if_neg (by omega)]; exact h2
  · rw [up_get, if_neg (by omega)]; exact h3
  · rw [up_get, if_neg (by omega)]; exact h4
  · rw [up_get, if_neg (by omega)]; exact h5 j hj
  · rw [setL_lo, setL_hi, up_get, up_get, if_neg (c := 370 = 370 ∧ 4 + 7 * j + (4 + d) = 4 + 7 * k + (1 + e)) (by omega), (h6 j hj d hd).2]
    by_cases c : j = k ∧ d = e
    · rw [if_pos (by omega), if_pos c, if_pos c, add_subR]
      exact ⟨rfl, rfl⟩
    · rw [if_neg (by omega), if_neg c, if_neg c]
      exact ⟨(h6 j hj d hd).1, rfl⟩
theorem isZ_setSz {σ : Sg} {v : SpV} (hz : isZ (σ 370) v) {k e : Nat} (he : e < 3) (x : Int32) : isZ (upS σ 370 (4 + 7 * k + (4 + e)) x 370) (setSz v k e x) := by
  obtain ⟨h0, h1, h2, h3, h4, h5, h6⟩ := hz
  refine ⟨h0, ?_, ?_, ?_, ?_, fun j hj => ?_, fun j hj d hd => ?_⟩
  · rw [up_get, if_neg (by omega)]; exact h1
  · rw [up_get, if_neg (by omega)]; exact h2
  · rw [up_get, if_neg (by omega)]; exact h3
  · rw [up_get, if_neg (by omega)]; exact h4
  · rw [up_get, if_neg (by omega)]; exact h5 j hj
  · rw [setSz_lo, setSz_hi, up_get, up_get, if_neg (c := 370 = 370 ∧ 4 + 7 * j + (1 + d) = 4 + 7 * k + (4 + e)) (by omega), (h6 j hj d hd).1]
    by_cases c : j = k ∧ d = e
    · rw [if_pos (by omega), if_pos c, add_subR]
      exact ⟨rfl, rfl⟩
    · rw [if_neg (by omega), if_neg c]
      exact ⟨rfl, (h6 j hj d hd).2⟩
theorem add3R (a x b : Int32) : a + x + (b - a) = b + x := by
  rw [Int32.sub_eq_add_neg, Int32.add_comm b, ← Int32.add_assoc, Int32.add_assoc a x, Int32.add_comm x, ← Int32.add_assoc, ← Int32.sub_eq_add_neg, Int32.sub_self, Int32.zero_add, Int32.add_comm]
theorem isZ_sh {σ : Sg} {v : SpV} (hz : isZ (σ 370) v) {k e : Nat} (he : e < 3) (x : Int32) : isZ (upS σ 370 (4 + 7 * k + (1 + e)) (vLo v k e + x) 370) (shV v k e x) := by
  refine isZ_c (isZ_setL hz he (vLo v k e + x)) ⟨rfl, rfl, rfl, rfl, fun _ _ => rfl, fun j hj d hd => ?_⟩
  rw [setL_lo, setL_hi, shV_lo, shV_hi]
  by_cases c : j = k ∧ d = e
  · rw [if_pos c, if_pos c, if_pos c, if_pos c, c.1, c.2, add3R]
    exact ⟨rfl, rfl⟩
  · rw [if_neg c, if_neg c, if_neg c, if_neg c]
    exact ⟨rfl, rfl⟩
theorem up_back {σ : Sg} {q i : Nat} {x y : Int32} (h : y = σ q i) : upS (upS σ q i x) q i y = σ := by
  funext p j
  rw [up_get, up_get]
  by_cases c : p = q ∧ j = i
  · rw [if_pos c, h, c.1, c.2]
  · rw [if_neg c, if_neg c]
theorem sh0_lo (v : SpV) (k e j d : Nat) : vLo (shV v k e 0) j d = vLo v j d := by
  rw [shV_lo]
  split
  · exact Int32.add_zero _
  · rfl
theorem sh0_hi (v : SpV) (k e j d : Nat) : vHi (shV v k e 0) j d = vHi v j d := by
  rw [shV_hi]
  split
  · exact Int32.add_zero _
  · rfl
theorem mv_zero {v : SpV} (h : gdV v) {k e : Nat} (hk : k < vN v) : mvCut v k e 0 = false := by
  unfold mvCut
  refine anyb_f (fun j hj => ?_)
  rw [show vLo (shV v k e 0) j = vLo v j from funext (sh0_lo v k e j), show vHi (shV v k e 0) j = vHi v j from funext (sh0_hi v k e j), show vLo (shV v k e 0) k = vLo v k from funext (sh0_lo v k e k), show vHi (shV v k e 0) k = vHi v k from funext (sh0_hi v k e k)]
  by_cases c : j = k
  · rw [decide_eq_true c]; rfl
  · rw [h.2.2.2 j k hj hk c, Bool.and_false]
theorem neg_toInt {a : Nat} (h : a < 2 ^ 30) : (-(nI a)).toInt = -(a : Int) := by
  rw [Int32.toInt_neg, nI_toInt (by omega), Int.bmod_def]
  omega
theorem wide_add (a : Nat) (x : Int32) (h : a < 2 ^ 30) : ((nI a).toInt64 + x.toInt64).toInt = (a : Int) + x.toInt := by
  rw [Int64.toInt_add, Int32.toInt_toInt64, Int32.toInt_toInt64, nI_toInt (by omega), Int.bmod_def]
  have h1 := Int32.le_toInt x
  have h2 := Int32.toInt_lt x
  omega
theorem mv_range {v : SpV} (h : gdV v) {k e : Nat} (hk : k < vN v) (he : e < 3) (x : Int32) : inL ((vLo v k e).toInt64 + x.toInt64) 0 (32 - szG (vLo v) (vHi v) k e) = (!decide (x < -(vLo v k e)) && !decide (32 - vHi v k e < x)) := by
  obtain ⟨a, b, e1, e2, e3, e4, e5⟩ := h.2.2.1 k hk e he
  unfold inL szG
  rw [e1, e2, nI_subR (by omega), show (32 : Int32) = nI 32 from rfl, nI_subR (by omega), nI_subR (by omega)]
  have q1 : decide ((nI a).toInt64 + x.toInt64 < (0 : Int32).toInt64) = decide (x < -(nI a)) := decide_eq_decide.mpr (by
    rw [Int64.lt_iff_toInt_lt, wide_add a x (by omega), Int32.toInt_toInt64, Int32.lt_iff_toInt_lt, neg_toInt (by omega), show (0 : Int32).toInt = 0 from by decide]
    omega)
  have q2 : decide ((nI (32 - (b - a))).toInt64 < (nI a).toInt64 + x.toInt64) = decide (nI (32 - b) < x) := decide_eq_decide.mpr (by
    rw [Int64.lt_iff_toInt_lt, wide_add a x (by omega), Int32.toInt_toInt64, Int32.lt_iff_toInt_lt, nI_toInt (by omega), nI_toInt (by omega)]
    omega)
  rw [q1, q2]
theorem wide_back (a x : Int32) : (a.toInt64 + x.toInt64).toInt32 = a + x := by
  rw [Int64.toInt32_add, Int32.toInt32_toInt64, Int32.toInt32_toInt64]
theorem gr_nat {v : SpV} (h : gdV v) {k : Nat} (hk : k < vN v) {a : Nat} (ha : vLo v k 2 = nI a) (ha2 : a ≤ 32) : ∀ j, j ≤ vN v → ∃ g, g ≤ a ∧ grG (vLo v) (vHi v) k j = nI g
  | 0, _ => ⟨0, by omega, rfl⟩
  | j + 1, hj => by
    obtain ⟨g, hg, eg⟩ := gr_nat h hk ha ha2 j (by omega)
    obtain ⟨p, q, e1, e2, e3, e4, e5⟩ := h.2.2.1 j (by omega) 2 (by omega)
    rw [grG]
    by_cases c : beB (vLo v j) (vHi v j) (vLo v k) (vHi v k) = true
    · rw [if_pos c]
      unfold beB at c
      simp only [Bool.and_eq_true, Bool.not_eq_true', decide_eq_false_iff_not] at c
      have c2 := c.2
      rw [ha, e2] at c2
      have c3 : q ≤ a := by
        have := mt (nI_ltI (a := a) (b := q) (by omega) (by omega)).mpr c2
        omega
      split
      · exact ⟨q, c3, e2⟩
      · exact ⟨g, hg, eg⟩
    · rw [if_neg c]
      exact ⟨g, hg, eg⟩
theorem fall_z {σ : Sg} {v : SpV} {k : Nat} {x m : Int32} (hz : isZ (σ 370) v) (hx : x = vLo v k 2 - m) : isZ (upS σ 370 (4 + 7 * k + 3) m 370) (shV v k 2 (-x)) := by
  have e : m = vLo v k 2 + -x := by rw [hx, Int32.neg_sub, Int32.add_comm, Int32.sub_add_cancel]
  have := isZ_sh hz (k := k) (e := 2) (by omega) (-x)
  rw [← e] at this
  exact this
theorem fall_pos {v : SpV} (h : gdV v) {k : Nat} (hk : k < vN v) (h0 : ¬ vLo v k 2 - grG (vLo v) (vHi v) k (vN v) = 0) : 0 < vLo v k 2 - grG (vLo v) (vHi v) k (vN v) := by
  obtain ⟨a, b, e1, e2, e3, e4, e5⟩ := h.2.2.1 k hk 2 (by omega)
  obtain ⟨g, hg, eg⟩ := gr_nat h hk e1 (by omega) (vN v) (Nat.le_refl _)
  rw [e1, eg, nI_subR hg] at h0 ⊢
  have : ¬ a - g = 0 := fun q => h0 (by rw [q]; rfl)
  exact nI_lt (a := 0) (b := a - g) (by omega) (by omega)
theorem fI_neg {p : Nat → Bool} {n : Nat} (hn : n ≤ 16) (h : fI p n < 0) : fI p n = -1 := by
  unfold fI at h ⊢
  split
  · rename_i c
    rw [if_pos c] at h
    exact absurd h (nI_pos (by omega))
  · rfl
theorem mv_in {x A B : Int32} (h : (!decide (x < A) && !decide (B < x)) = true) : ¬ x < A ∧ ¬ B < x := by
  simp only [Bool.and_eq_true, Bool.not_eq_true', decide_eq_false_iff_not] at h
  exact h
theorem mv_out {x A B : Int32} (h : (!decide (x < A) && !decide (B < x)) = false) : x < A ∨ B < x := by
  by_cases c : x < A
  · exact Or.inl c
  · rw [decide_eq_false c] at h
    by_cases d : B < x
    · exact Or.inr d
    · rw [decide_eq_false d] at h
      cases h
theorem mv_o2 {α : Type} {x A B : Int32} {u w : α} (h : x < A ∨ B < x) : (if x < A then u else if B < x then u else w) = u := by
  by_cases c : x < A
  · rw [if_pos c]
  · rw [if_neg c, if_pos (h.resolve_left c)]
