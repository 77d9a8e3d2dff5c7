/-! THE LAW OF ITS OWN: shadows, rings, the drawing, layers -/
/-- the cell x, y lies in the shadow of box i, as the law asks -/
def shC (v : SpV) (k : Nat) (x y : Int32) (i : Nat) : Bool := !decide (i = k) && !decide (vLo v i 2 < vHi v k 2) && !decide (x < vLo v i 0) && decide (x < vHi v i 0) && !decide (y < vLo v i 1) && decide (y < vHi v i 1)
theorem shC_at {v : SpV} {k i x y a b c d : Nat} (hg : gdV v) (hk : k < vN v) (hi : i < vN v) (ha : vLo v k 0 = nI a) (hb : vHi v k 0 = nI b) (hc : vLo v k 1 = nI c) (hd : vHi v k 1 = nI d) (hx : a ≤ x ∧ x < b) (hy : c ≤ y ∧ y < d) (hb2 : b ≤ 32) (hd2 : d ≤ 32) : shC v k (nI x) (nI y) i = (beB (vLo v k) (vHi v k) (vLo v i) (vHi v i) && cvX v i (nI x) (nI y)) := by
  by_cases e : i = k
  · subst e
    rw [be_same (gd_lt hg) hk rfl]
    unfold shC
    rw [decide_eq_true rfl]
    rfl
  · obtain ⟨p0, q0, e1, e2, h1, h2, _⟩ := hg.2.2.1 i hi 0 (by omega)
    obtain ⟨p1, q1, e3, e4, h3, h4, _⟩ := hg.2.2.1 i hi 1 (by omega)
    unfold shC beB cvX mtB inW
    rw [decide_eq_false e, e1, e2, e3, e4, ha, hb, hc, hd, show (nI q0 - 1 : Int32) = nI (q0 - 1) from nI_subR (a := q0) (b := 1) (by omega), show (nI q1 - 1 : Int32) = nI (q1 - 1) from nI_subR (a := q1) (b := 1) (by omega)]
    generalize decide (vLo v i 2 < vHi v k 2) = z
    have c1 := nI_ltI (a := x) (b := p0) (by omega) (by omega)
    have c2 := nI_ltI (a := x) (b := q0) (by omega) (by omega)
    have c3 := nI_ltI (a := y) (b := p1) (by omega) (by omega)
    have c4 := nI_ltI (a := y) (b := q1) (by omega) (by omega)
    have c5 := nI_ltI (a := a) (b := q0) (by omega) (by omega)
    have c6 := nI_ltI (a := p0) (b := b) (by omega) (by omega)
    have c7 := nI_ltI (a := c) (b := q1) (by omega) (by omega)
    have c8 := nI_ltI (a := p1) (b := d) (by omega) (by omega)
    have c9 := nI_ltI (a := q0 - 1) (b := x) (by omega) (by omega)
    have c10 := nI_ltI (a := q1 - 1) (b := y) (by omega) (by omega)
    cases z with
    | true =>
      simp
    | false =>
      rw [Bool.eq_iff_iff]
      simp only [Bool.and_eq_true, Bool.not_eq_true', decide_eq_true_eq, decide_eq_false_iff_not, c1, c2, c3, c4, c5, c6, c7, c8, c9, c10, Bool.not_false, true_and, and_true]
      omega
theorem sh_any {v : SpV} {k x y a b c d : Nat} (hg : gdV v) (hk : k < vN v) (ha : vLo v k 0 = nI a) (hb : vHi v k 0 = nI b) (hc : vLo v k 1 = nI c) (hd : vHi v k 1 = nI d) (hx : a ≤ x ∧ x < b) (hy : c ≤ y ∧ y < d) (hb2 : b ≤ 32) (hd2 : d ≤ 32) : anyb (shC v k (nI x) (nI y)) (vN v) = shF v k x y := anyb_c (fun i hi => shC_at hg hk hi ha hb hc hd hx hy hb2 hd2)
/-! rings -/
def rgA (v : SpV) (k : Nat) : Int32 := if exN v k < vN v then nI (exN v k + 1) else -1
theorem rg_hit {v : SpV} {k j : Nat} (hj : j ≤ exN v k) (hn : j < vN v) (h : hasB (exW (HV v) (vN v) k j) k = true) : nI (j + 1) = rgA v k := by
  have e : exN v k = j := by
    by_cases c : j < exN v k
    · have := ffi_no (p := fun j => hasB (exW (HV v) (vN v) k j) k) (n := vN v) c
      simp only [h] at this
      cases this
    · omega
  unfold rgA
  rw [e, if_pos hn]
theorem rg_go {v : SpV} {k j : Nat} (hj : j ≤ exN v k) (hn : j < vN v) (h : hasB (exW (HV v) (vN v) k j) k = false) : j + 1 ≤ exN v k := by
  by_cases c : j = exN v k
  · have q : hasB (exW (HV v) (vN v) k (exN v k)) k = true := ffi_at (p := fun j => hasB (exW (HV v) (vN v) k j) k) (n := vN v) (by
      have : exN v k = ffi (fun j => hasB (exW (HV v) (vN v) k j) k) (vN v) := rfl
      omega)
    rw [← c, h] at q
    cases q
  · omega
theorem rg_end {v : SpV} {k j : Nat} (hj : j ≤ exN v k) (hn : ¬ j < vN v) : (-1 : Int32) = rgA v k := by
  unfold rgA
  rw [if_neg (by omega)]
theorem rg_sr {v : SpV} (hn : vN v ≤ 16) {k : Nat} (hk : k < vN v) : srO (HV v) (vN v) k = if rgA v k < 0 then -5 else rgA v k := by
  rw [sr_ex hn hk]
  unfold rgA
  by_cases c : exN v k < vN v
  · rw [if_pos c, if_pos c, if_neg (nI_pos (by omega))]
  · rw [if_neg c, if_neg c, if_pos (by decide)]
theorem rg_pos {v : SpV} (hn : vN v ≤ 16) {k : Nat} (hk : k < vN v) : decide (0 < rgA v k) = hasB (CVv v k) k := by
  unfold rgA
  by_cases c : exN v k < vN v
  · rw [if_pos c, (cv_ring hn hk).mpr c]
    exact decide_eq_true (nI_lt (a := 0) (by omega) (by omega))
  · rw [if_neg c]
    cases e : hasB (CVv v k) k with
    | true => exact absurd ((cv_ring hn hk).mp e) c
    | false => decide
theorem rg_neg {v : SpV} (hn : vN v ≤ 16) {k : Nat} (hk : k < vN v) : decide (rgA v k < 0) = !hasB (CVv v k) k := by
  unfold rgA
  by_cases c : exN v k < vN v
  · rw [if_pos c, (cv_ring hn hk).mpr c]
    exact decide_eq_false (nI_pos (by omega))
  · rw [if_neg c]
    cases e : hasB (CVv v k) k with
    | true => exact absurd ((cv_ring hn hk).mp e) c
    | false => decide
theorem sr_i {v : SpV} (hn : vN v ≤ 16) : ∀ m, m ≤ vN v → srI (HV v) (vN v) m = -5 ∨ ∃ q, q ≤ 17 ∧ srI (HV v) (vN v) m = nI q
  | 0, _ => Or.inl rfl
  | m + 1, hm => by
    rw [srI]
    have hs : srO (HV v) (vN v) m = -5 ∨ ∃ q, q ≤ 17 ∧ srO (HV v) (vN v) m = nI q := by
      rw [sr_ex hn (by omega)]
      by_cases c : exN v m < vN v
      · exact Or.inr ⟨exN v m + 1, by omega, by rw [if_pos c]⟩
      · exact Or.inl (by rw [if_neg c])
    split
    · exact sr_i hn m (by omega)
    · split
      · exact hs
      · split
        · exact hs
        · exact sr_i hn m (by omega)
/-- the shortest ring so far, as the law goes on -/
theorem sr_step {v : SpV} (hn : vN v ≤ 16) {m : Nat} (hm : m < vN v) : srI (HV v) (vN v) (m + 1) = if 0 < rgA v m ∧ (srI (HV v) (vN v) m < 0 ∨ rgA v m < srI (HV v) (vN v) m) then rgA v m else srI (HV v) (vN v) m := by
  rw [srI, rg_sr hn hm]
  have hr : rgA v m = -1 ∨ ∃ r, r ≤ 17 ∧ rgA v m = nI (r + 1) := by
    unfold rgA
    by_cases c : exN v m < vN v
    · exact Or.inr ⟨exN v m, by omega, by rw [if_pos c]⟩
    · exact Or.inl (by rw [if_neg c])
  rcases hr with e | ⟨r, hr, e⟩
  · rw [e, if_pos (by decide), if_neg (fun q => absurd q.1 (by decide))]
  · have h0 : (0 : Int32) < nI (r + 1) := nI_lt (a := 0) (by omega) (by omega)
    rw [e, if_neg (nI_pos (by omega)), if_neg (nI_nm5 (by omega))]
    rcases sr_i hn m (by omega) with q | ⟨q, hq, e2⟩
    · rw [q, if_pos rfl, if_pos ⟨h0, Or.inl (by decide)⟩]
    · rw [e2, if_neg (nI_nm5 (by omega))]
      by_cases c : nI (r + 1) < nI q
      · rw [if_pos c, if_pos ⟨h0, Or.inr c⟩]
      · rw [if_neg c, if_neg (fun z => z.2.elim (nI_pos (by omega)) c)]
/-! masks of ten -/
theorem m10_of {x : Int32} (h : ∀ k, 10 ≤ k → k < 32 → hasB x k = false) : ∃ m, m < 1024 ∧ x = nI m := by
  refine ⟨x.toBitVec.toNat, ?_, ?_⟩
  · refine Nat.lt_pow_two_of_testBit (n := 10) _ (fun i hi => ?_)
    by_cases c : i < 32
    · have := h i hi c
      rw [hasB_bit _ c] at this
      exact this
    · exact Nat.testBit_lt_two_pow (Nat.lt_of_lt_of_le x.toBitVec.isLt (Nat.pow_le_pow_right (by omega) (by omega)))
  · refine Int32.toBitVec_inj.mp ?_
    show x.toBitVec = BitVec.ofNat 32 x.toBitVec.toNat
    rw [BitVec.ofNat_toNat, BitVec.setWidth_eq]
theorem eqBts {x y : Int32} (h : ∀ j, j < 32 → hasB x j = hasB y j) : x = y := by
  refine Int32.toBitVec_inj.mp (BitVec.eq_of_getLsbD_eq (fun i hi => ?_))
  have := h i hi
  rw [hasB_bit _ hi, hasB_bit _ hi] at this
  exact this
theorem andBit {x : Int32} {i : Nat} (hi : i < 32) : x &&& bitI i = 0 ↔ hasB x i = false := by
  rw [zeroBts]
  constructor
  · intro h
    have := h i hi
    rw [hasB_and _ _ hi, hasB_bitI hi hi, decide_eq_true rfl, Bool.and_true] at this
    exact this
  · intro h j hj
    rw [hasB_and _ _ hj, hasB_bitI hi hj]
    by_cases e : j = i
    · rw [e, h, Bool.false_and]
    · rw [decide_eq_false e, Bool.and_false]
theorem cnt_Bt (x : Int32) : ∀ n, cntBt x n = cntNt (hasB x) n
  | 0 => rfl
  | n + 1 => by
    rw [cntBt, cntNt, cnt_Bt x n]
    cases hasB x n with
    | true => rfl
    | false => rfl
theorem bc_Bt {x : Int32} {n : Nat} (hn : n ≤ 16) (h : ∀ k, n ≤ k → k < 32 → hasB x k = false) : bcI x = nI (cntBt x n) := by
  rw [← on_bc (fun k a b => h k (by omega) b), on_cnt, cnt_cn, cnt_Bt]
  refine congrArg nI ?_
  have e : cntNt (hasB x) 16 = cntNt (fun j => decide (j < n) && hasB x j) 16 := cntNt_c (fun k hk => by
    by_cases c : k < n
    · rw [decide_eq_true c, Bool.true_and]
    · rw [h k (by omega) (by omega), Bool.and_false])
  rw [e, cn_cut 16 hn]
theorem cntBt_add {x : Int32} {b n : Nat} (hn : n ≤ 32) (hb : b < n) (h : hasB x b = false) : cntBt (x ||| bitI b) n = cntBt x n + 1 := by
  have e : cntBt ((x ||| bitI b) &&& (bitI b ^^^ -1)) n = cntBt x n := cntBt_c (fun k hk => by
    rw [hasB_and _ _ (by omega), hasB_or _ _ (by omega), hasB_not _ (by omega), hasB_bitI (by omega) (by omega)]
    by_cases c : k = b
    · rw [c, h, decide_eq_true rfl]
      rfl
    · rw [decide_eq_false c]
      simp)
  rw [← cntBt_cut (x := x ||| bitI b) (b := b) (by rw [hasB_or _ _ (by omega), hasB_bitI (by omega) (by omega), decide_eq_true rfl, Bool.or_true]) hn hb, e]
theorem cntBt_all {x : Int32} : ∀ {n : Nat}, (∀ k, k < n → hasB x k = true) → cntBt x n = n
  | 0, _ => rfl
  | n + 1, h => by rw [cntBt, h n (Nat.lt_succ_self n), if_pos rfl, cntBt_all (fun k hk => h k (Nat.lt_succ_of_lt hk))]
/-! the drawing as the law does it -/
def lwt (v : SpV) (k : Nat) : Int32 := if vRu v = 0 then nI k else if vRu v = 1 then vLo v k 0 + vLo v k 1 + vLo v k 2 else voG (vLo v) (vHi v) k
theorem lw_lt {v : SpV} {b k : Nat} (hr : ru3 v) (hbk : b < k) (hk : k < 16) : decide (WVv v k < WVv v b) = decide (lwt v k < lwt v b) := by
  unfold WVv wtG lwt
  rcases hr with e | e | e
  · rw [e]
    simp only [if_true, if_pos, if_neg (show ¬ (0 : Int32) = 1 by decide), if_neg (show ¬ (0 : Int32) = 2 by decide)]
    rw [decide_eq_false (nI_nlt (a := k) (b := b) (by omega) (by omega))]
    decide
  · rw [e]
    simp only [if_true, if_pos, if_neg (show ¬ (1 : Int32) = 0 by decide)]
  · rw [e]
    simp only [if_true, if_pos, if_neg (show ¬ (2 : Int32) = 0 by decide), if_neg (show ¬ (2 : Int32) = 1 by decide)]
/-- the best so far, and its weight -/
def bsI (v : SpV) (D : Int32) (m : Nat) (x y : Int32) : Prop := x = oI (bestO (canD (HV v) D) (fun k b => decide (WVv v k < WVv v b)) m) ∧ ∀ b, bestO (canD (HV v) D) (fun k b => decide (WVv v k < WVv v b)) m = some b → y = lwt v b
theorem bs_0 (v : SpV) (D : Int32) : bsI v D 0 (-1) 0 := ⟨rfl, fun b h => by cases h⟩
theorem bs_no {v : SpV} {D : Int32} {m : Nat} {x y : Int32} (h : bsI v D m x y) (hp : canD (HV v) D m = false) : bsI v D (m + 1) x y := by
  unfold bsI
  rw [bestO_no1 hp]
  exact h
theorem bs_first {v : SpV} {D : Int32} {m : Nat} {x y : Int32} (hm : m ≤ 16) (h : bsI v D m x y) (hp : canD (HV v) D m = true) (hx : x < 0) : bsI v D (m + 1) (nI m) (lwt v m) := by
  unfold bsI
  rw [bestO_yes hp (Or.inl (oI_lt hm h.1 hx))]
  exact ⟨rfl, fun b e => by cases e; rfl⟩
theorem bs_less {v : SpV} {D : Int32} {m : Nat} {x y : Int32} (hr : ru3 v) (hm : m < 16) (h : bsI v D m x y) (hp : canD (HV v) D m = true) (hx : ¬ x < 0) (hy : lwt v m < y) : bsI v D (m + 1) (nI m) (lwt v m) := by
  obtain ⟨b, hb, e, _⟩ := oI_nn h.1 hx
  have hy2 := h.2 b e
  unfold bsI
  rw [bestO_yes hp (Or.inr ⟨b, e, by
    show decide (WVv v m < WVv v b) = true
    rw [lw_lt hr hb hm, ← hy2]
    exact decide_eq_true hy⟩)]
  exact ⟨rfl, fun b e => by cases e; rfl⟩
theorem bs_not {v : SpV} {D : Int32} {m : Nat} {x y : Int32} (hr : ru3 v) (hm : m < 16) (h : bsI v D m x y) (hx : ¬ x < 0) (hy : ¬ lwt v m < y) : bsI v D (m + 1) x y := by
  obtain ⟨b, hb, e, _⟩ := oI_nn h.1 hx
  have hy2 := h.2 b e
  unfold bsI
  rw [bestO_no2 e (by
    show decide (WVv v m < WVv v b) = false
    rw [lw_lt hr hb hm, ← hy2]
    exact decide_eq_false hy)]
  exact h
/-- behind j draws: what is drawn (or wasn't to be drawn) -/
def drJ (v : SpV) (w : Int32) (j : Nat) (D : Int32) : Prop := lfD (vN v) (lfS v (lf0 v w) j) D ∧ (∀ i, i < j → (nxL v (lfS v (lf0 v w) i)).isNone = false) ∧ (∀ b, b < 32 → hasB w b = true → hasB D b = true) ∧ (∀ b, vN v ≤ b → b < 32 → hasB D b = false) ∧ cntBt (D &&& (w ^^^ -1)) (vN v) = j
def drX (v : SpV) (w X : Int32) : Prop := (∀ b, b < vN v → hasB X b = (!hasB (lfS v (lf0 v w) (lfC v (lf0 v w))) b && !hasB w b)) ∧ (∀ b, vN v ≤ b → b < 32 → hasB X b = false) ∧ cntBt X (vN v) = lfC v (lf0 v w)
theorem drJ_0 {v : SpV} {w : Int32} (hn : vN v ≤ 16) (hw : ∀ b, vN v ≤ b → b < 32 → hasB w b = false) : drJ v w 0 w := by
  refine ⟨⟨fun k hk => ?_, fun k hk hk2 => ?_⟩, fun i hi => absurd hi (Nat.not_lt_zero i), fun b _ h => h, hw, ?_⟩
  · show hasB (lf0 v w) k = !hasB w k
    rw [lf0_bit hn w (by omega), decide_eq_true hk, Bool.true_and]
  · show hasB (lf0 v w) k = false
    rw [lf0_bit hn w hk2, decide_eq_false (by omega), Bool.false_and]
  · have e : cntBt (w &&& (w ^^^ -1)) (vN v) = cntBt 0 (vN v) := cntBt_c (fun k hk => by
      rw [hasB_and _ _ (by omega), hasB_not _ (by omega), hasB_0 (by omega)]
      cases hasB w k <;> rfl)
    have z : ∀ n, n ≤ 32 → cntBt 0 n = 0 := fun n => by
      induction n with
      | zero => intro _; rfl
      | succ n ih =>
        intro h
        rw [cntBt, hasB_0 (by omega), if_neg (by decide)]
        exact ih (by omega)
    rw [e, z _ (by omega)]
theorem drJ_le {v : SpV} {w D : Int32} {j : Nat} (h : drJ v w j D) : j ≤ vN v := by
  have := cntBt_le (D &&& (w ^^^ -1)) (vN v)
  rw [h.2.2.2.2] at this
  exact this
theorem drJ_nx {v : SpV} {w D : Int32} {j : Nat} (hn : vN v ≤ 16) (h : drJ v w j D) : nxL v (lfS v (lf0 v w) j) = nxO (vN v) (HV v) (WVv v) D := lfD_nx hn h.1
theorem drJ_s {v : SpV} {w D : Int32} {j b : Nat} (hn : vN v ≤ 16) (h : drJ v w j D) (hb : nxO (vN v) (HV v) (WVv v) D = some b) : b < vN v ∧ drJ v w (j + 1) (D ||| bitI b) := by
  have e := drJ_nx hn h
  rw [hb] at e
  have hbn := nxL_lt e
  have e2 : lfS v (lf0 v w) (j + 1) = lfS v (lf0 v w) j &&& (bitI b ^^^ -1) := by rw [lfS, e]
  have hD : hasB D b = false := by
    have := (nxL_has e).1
    rw [h.1.1 b hbn] at this
    simpa using this
  refine ⟨hbn, by rw [e2]; exact lfD_s hn hbn h.1, fun i hi => ?_, fun k hk hw => ?_, fun k hk hk2 => ?_, ?_⟩
  · by_cases q : i = j
    · rw [q, e]
      rfl
    · exact h.2.1 i (by omega)
  · rw [hasB_or _ _ hk, h.2.2.1 k hk hw, Bool.true_or]
  · rw [hasB_or _ _ hk2, h.2.2.2.1 k hk hk2, hasB_bitI (by omega) hk2, decide_eq_false (by omega)]
    rfl
  · have hwb : hasB w b = false := by
      cases q : hasB w b with
      | false => rfl
      | true => rw [h.2.2.1 b (by omega) q] at hD; cases hD
    have e3 : cntBt ((D ||| bitI b) &&& (w ^^^ -1)) (vN v) = cntBt ((D &&& (w ^^^ -1)) ||| bitI b) (vN v) := cntBt_c (fun k hk => by
      rw [hasB_and _ _ (by omega), hasB_or _ _ (by omega), hasB_not _ (by omega), hasB_or _ _ (by omega), hasB_and _ _ (by omega), hasB_not _ (by omega), hasB_bitI (by omega) (by omega)]
      by_cases c : k = b
      · rw [c, hwb, hD, decide_eq_true rfl]
        rfl
      · rw [decide_eq_false c, Bool.or_false, Bool.or_false])
    rw [e3, cntBt_add (by omega) hbn (by rw [hasB_and _ _ (by omega), hD, Bool.false_and]), h.2.2.2.2]
theorem drJ_end {v : SpV} {w D : Int32} {j : Nat} (hn : vN v ≤ 16) (h : drJ v w j D) (hb : nxO (vN v) (HV v) (WVv v) D = none) : lfC v (lf0 v w) = j ∧ drX v w (D &&& (w ^^^ -1)) := by
  have e := drJ_nx hn h
  rw [hb] at e
  have hj := drJ_le h
  have ec : lfC v (lf0 v w) = j := ff_hit (p := fun j => (nxL v (lfS v (lf0 v w) j)).isNone) h.2.1 (by simp only [e]; rfl) (by omega)
  refine ⟨ec, ?_⟩
  unfold drX
  rw [ec]
  refine ⟨fun b hbn => ?_, fun b hb1 hb2 => ?_, h.2.2.2.2⟩
  · rw [hasB_and _ _ (by omega), hasB_not _ (by omega), h.1.1 b hbn, Bool.not_not]
  · rw [hasB_and _ _ hb2, h.2.2.2.1 b hb1 hb2, Bool.false_and]
theorem drJ_dc {v : SpV} {D : Int32} {j b : Nat} (hn : vN v ≤ 16) (h : drJ v 0 j D) (hb : nxO (vN v) (HV v) (WVv v) D = some b) : j < DCv v ∧ OV v j = nI b ∧ b < vN v := by
  have e := drJ_nx hn h
  rw [hb] at e
  have hj := drJ_le h
  have hlt : j < DCv v := by
    rw [← dr_cnt hn]
    by_cases c : j < lfC v (lf0 v 0)
    · exact c
    · exfalso
      have h2 : (nxL v (lfS v (lf0 v 0) (lfC v (lf0 v 0)))).isNone = true := ffi_at (p := fun j => (nxL v (lfS v (lf0 v 0) j)).isNone) (n := 17) (by
        have : lfC v (lf0 v 0) = ffi (fun j => (nxL v (lfS v (lf0 v 0) j)).isNone) 17 := rfl
        omega)
      by_cases q : lfC v (lf0 v 0) = j
      · rw [q, e] at h2
        cases h2
      · rw [h.2.1 _ (by omega)] at h2
        cases h2
  obtain ⟨b', hb', e1, _, e3, _⟩ := dr_some' hn hlt
  rw [← nx_all hn j, e] at e1
  cases e1
  exact ⟨hlt, e3, hb'⟩
theorem dv_end (v : SpV) : (DV v (vN v)).1 = (DV v (DCv v)).1 := by
  have hle : DCv v ≤ vN v := ffi_le _ _
  by_cases c : DCv v < vN v
  · have h1 : (nxO (vN v) (HV v) (WVv v) (DV v (DCv v)).1).isNone = true := ffi_at (p := fun j => (nxO (vN v) (HV v) (WVv v) (drS (vN v) (HV v) (WVv v) (fun _ => 0) (fun _ => -5) j).1).isNone) (n := vN v) c
    have h2 : nxO (vN v) (HV v) (WVv v) (DV v (DCv v)).1 = none := by
      cases q : nxO (vN v) (HV v) (WVv v) (DV v (DCv v)).1 with
      | none => rfl
      | some b => rw [q] at h1; cases h1
    have h3 := drS_stuck (o0 := fun _ => 0) (l0 := fun _ => -5) h2 (vN v - DCv v)
    rw [show DCv v + (vN v - DCv v) = vN v by omega] at h3
    exact congrArg (fun z => z.1) h3
  · rw [show DCv v = vN v by omega]
theorem dv_low {v : SpV} (hn : vN v ≤ 16) : ∀ j b, vN v ≤ b → b < 32 → hasB (DV v j).1 b = false
  | 0, b, _, h2 => hasB_0 h2
  | j + 1, b, h1, h2 => by
    rw [dv_step]
    cases q : nxO (vN v) (HV v) (WVv v) (DV v j).1 with
    | none => exact dv_low hn j b h1 h2
    | some c =>
      have hc : c < vN v := bestO_lt q
      show hasB ((DV v j).1 ||| bitI c) b = false
      rw [hasB_or _ _ h2, dv_low hn j b h1 h2, hasB_bitI (by omega) h2, decide_eq_false (by omega)]
      rfl
theorem drX_0 {v : SpV} {X : Int32} (hn : vN v ≤ 16) (h : drX v 0 X) : X = BV v := by
  refine eqBts (fun b hb => ?_)
  by_cases c : b < vN v
  · rw [h.1 b c, dr_cnt hn, (lfD_all hn (DCv v)).1 b c, hasB_0 hb, Bool.not_not]
    show (hasB (DV v (DCv v)).1 b && true) = hasB (DV v (vN v)).1 b
    rw [Bool.and_true, dv_end]
  · rw [h.2.1 b (by omega) hb]
    exact (dv_low hn (vN v) b (by omega) hb).symm
theorem drX_10 {v : SpV} {w X : Int32} (hn : vN v ≤ 10) (h : drX v w X) : ∃ m, m < 1024 ∧ X = nI m := m10_of (fun k a b => h.2.1 k (by omega) b)
theorem hv_10 {v : SpV} (hn : vN v ≤ 10) (k : Nat) : ∃ m, m < 1024 ∧ HV v k = nI m := m10_of (fun j a b => by rw [hv_bit (by omega) b, decide_eq_false (by omega), Bool.false_and])
theorem drX_on {v : SpV} {w X : Int32} (hn : vN v ≤ 16) (h : drX v w X) : bcI X = nI (lfC v (lf0 v w)) := by
  rw [bc_Bt hn h.2.1, h.2.2]
/-! layers -/
def mostL (v : SpV) (k : Nat) : Nat → Int32
  | 0 => -1
  | m + 1 => if hasB (HV v k) m then (if mostL v k m < LV v m then LV v m else mostL v k m) else mostL v k m
def allL (v : SpV) (k : Nat) : Nat → Bool
  | 0 => decide (rgA v k < 0)
  | m + 1 => if hasB (HV v k) m then allL v k m && !decide (LV v m < 0) else allL v k m
theorem allL_no {v : SpV} {k i : Nat} (hh : hasB (HV v k) i = true) (hl : LV v i < 0) : ∀ m, i < m → allL v k m = false
  | 0, h => absurd h (Nat.not_lt_zero i)
  | m + 1, h => by
    rw [allL]
    by_cases e : i = m
    · subst e
      rw [if_pos hh, decide_eq_true hl]
      simp
    · rw [allL_no hh hl m (by omega)]
      split <;> rfl
theorem allL_yes {v : SpV} {k : Nat} (h0 : rgA v k < 0) (h : ∀ i, i < vN v → hasB (HV v k) i = true → ¬ LV v i < 0) : ∀ m, m ≤ vN v → allL v k m = true
  | 0, _ => decide_eq_true h0
  | m + 1, hm => by
    rw [allL, allL_yes h0 h m (by omega)]
    split
    · rename_i c
      rw [decide_eq_false (h m (by omega) c)]
      rfl
    · rfl
theorem mostL_at {v : SpV} {k x : Nat} (hx : x < 2 ^ 30) (h : ∀ i, i < vN v → hasB (HV v k) i = true → ∃ y, LV v i = nI y ∧ y + 1 ≤ x) : ∀ m, m ≤ vN v → ∃ z, z ≤ x ∧ ((z = 0 ∧ mostL v k m = -1) ∨ ∃ y, z = y + 1 ∧ mostL v k m = nI y) ∧ ∀ i, i < m → hasB (HV v k) i = true → ∀ y, y < 2 ^ 30 → LV v i = nI y → y + 1 ≤ z
  | 0, _ => ⟨0, Nat.zero_le _, Or.inl ⟨rfl, rfl⟩, fun i hi => absurd hi (Nat.not_lt_zero i)⟩
  | m + 1, hm => by
    obtain ⟨z, hz, h1, h2⟩ := mostL_at hx h m (by omega)
    rw [mostL]
    by_cases c : hasB (HV v k) m = true
    · rw [if_pos c]
      obtain ⟨y, e, hy⟩ := h m (by omega) c
      by_cases d : mostL v k m < LV v m
      · rw [if_pos d, e]
        refine ⟨y + 1, hy, Or.inr ⟨y, rfl, rfl⟩, fun i hi hh y2 hy2 e2 => ?_⟩
        by_cases q : i = m
        · subst q
          rw [e] at e2
          have := (nI_eq (a := y) (b := y2) (by omega) (by omega)).mp e2
          omega
        · have := h2 i (by omega) hh y2 hy2 e2
          rw [e] at d
          rcases h1 with ⟨rfl, _⟩ | ⟨y3, rfl, e3⟩
          · omega
          · rw [e3] at d
            have := (nI_ltI (a := y3) (b := y) (by omega) (by omega)).mp d
            omega
      · rw [if_neg d]
        refine ⟨z, hz, h1, fun i hi hh y2 hy2 e2 => ?_⟩
        by_cases q : i = m
        · subst q
          rw [e] at e2
          have e4 := (nI_eq (a := y) (b := y2) (by omega) (by omega)).mp e2
          rw [e] at d
          rcases h1 with ⟨rfl, e3⟩ | ⟨y3, rfl, e3⟩
          · rw [e3] at d
            exact absurd (Int32.lt_iff_toInt_lt.mpr (by rw [nI_toInt (by omega), show (-1 : Int32).toInt = -1 from by decide]; omega)) d
          · rw [e3] at d
            have : ¬ y3 < y := fun q => d (nI_lt q (by omega))
            omega
        · exact h2 i (by omega) hh y2 hy2 e2
    · rw [if_neg c]
      refine ⟨z, hz, h1, fun i hi hh y2 hy2 e2 => ?_⟩
      by_cases q : i = m
      · subst q
        exact absurd hh c
      · exact h2 i (by omega) hh y2 hy2 e2
theorem lay_at {v : SpV} (hn : vN v ≤ 16) {k : Nat} (hk : k < vN v) : LV v k = if allL v k (vN v) then mostL v k (vN v) + 1 else -5 := by
  have hl := ly_dr hn (vN v) hn
  cases c : hasB (BV v) k with
  | true =>
    obtain ⟨x, e, hx, h1, h2⟩ := (hl k hk).2 c
    have e' : LV v k = nI x := e
    have h1' : ∀ i, i < vN v → hasB (HV v k) i = true → ∃ y, LV v i = nI y ∧ y + 1 ≤ x := h1
    have hr : rgA v k < 0 := by
      have := rg_neg hn hk
      rw [(dr_free hn (vN v) k hk c).1] at this
      simpa using this
    rw [allL_yes hr (fun i hi hh => by
      obtain ⟨y, e2, hy⟩ := h1' i hi hh
      rw [e2]
      exact nI_pos (by omega)) (vN v) (Nat.le_refl _), if_pos rfl, e']
    obtain ⟨z, hz, h3, h4⟩ := mostL_at (x := x) (by omega) h1' (vN v) (Nat.le_refl _)
    have ez : z = x := by
      rcases h2 with h2 | ⟨i, hi, hh, y, e2, hy⟩
      · omega
      · have := h4 i hi hh y (by omega) e2
        omega
    rcases h3 with ⟨h3, e3⟩ | ⟨y, h3, e3⟩
    · rw [e3, ← ez, h3]
      decide
    · rw [e3, nI_1, ← ez, h3]
  | false =>
    obtain ⟨i, hi, hh, hb⟩ := bv_stuck hn hk c
    have e1 : LV v k = -5 := (hl k hk).1 c
    have e2 : LV v i = -5 := (hl i hi).1 hb
    rw [allL_no hh (by rw [e2]; decide) (vN v) hi, if_neg (by decide), e1]
/-! without a ring all are drawn -/
theorem cnt_none {p : Nat → Bool} : ∀ {n : Nat}, n < 1000 → ¬ 0 < cntI p n → ∀ k, k < n → p k = false := fun {n} hn h => by
  rw [cnt_cn] at h
  have hz : cntNt p n = 0 := by
    by_cases c : cntNt p n = 0
    · exact c
    · exact absurd (nI_lt (a := 0) (b := cntNt p n) (by omega) (by
        have : ∀ m, cntNt p m ≤ m := fun m => by
          induction m with
          | zero => exact Nat.le_refl _
          | succ m ih =>
            rw [cntNt]
            cases p m with
            | true => show cntNt p m + 1 ≤ m + 1; omega
            | false => show cntNt p m + 0 ≤ m + 1; omega
        have := this n
        omega)) h
  have g : ∀ m, cntNt p m = 0 → ∀ k, k < m → p k = false := fun m => by
    induction m with
    | zero => intro _ k hk; exact absurd hk (Nat.not_lt_zero k)
    | succ m ih =>
      intro hm k hk
      rw [cntNt] at hm
      by_cases e : k = m
      · subst e
        cases q : p k with
        | false => rfl
        | true => rw [q] at hm; exact absurd hm (by show ¬ cntNt p k + 1 = 0; omega)
      · exact ih (by omega) k (by omega)
  exact g n hz
theorem all_drawn {v : SpV} (hn : vN v ≤ 16) (h : ¬ 0 < cntI (fun k => hasB (CVv v k) k) (vN v)) : DCv v = vN v := by
  have hp := cnt_none (p := fun k => hasB (CVv v k) k) (n := vN v) (by omega) h
  have ha : ∀ k, k < vN v → hasB (BV v) k = true := fun k hk => by
    cases c : hasB (BV v) k with
    | true => rfl
    | false =>
      rcases nd_ring hn (cntBt (CVv v k) (vN v)) k hk (Nat.le_refl _) c with q | ⟨d, hd, _, q⟩
      · have := hp k hk
        simp only [q] at this
        cases this
      · have := hp d hd
        simp only [q] at this
        cases this
  have h1 := lf_cnt hn (lf0 v 0) (DCv v) (fun i hi => by
    rw [← dr_cnt hn] at hi
    exact ffi_no (p := fun j => (nxL v (lfS v (lf0 v 0) j)).isNone) (n := 17) hi)
  have hle : DCv v ≤ vN v := ffi_le _ _
  have e0 : cntBt (lf0 v 0) (vN v) = vN v := cntBt_all (fun k hk => by rw [lf0_bit hn 0 (by omega), decide_eq_true hk, hasB_0 (by omega)]; rfl)
  have e1 : ∀ m, m ≤ vN v → cntBt (lfS v (lf0 v 0) (DCv v)) m = 0 := fun m => by
    induction m with
    | zero => intro _; rfl
    | succ m ih =>
      intro hm
      have hb : hasB (lfS v (lf0 v 0) (DCv v)) m = false := by
        rw [(lfD_all hn (DCv v)).1 m (by omega), ← dv_end]
        rw [show hasB (DV v (vN v)).1 m = true from ha m (by omega)]
        rfl
      rw [cntBt, hb, if_neg (by decide)]
      exact ih (by omega)
  rw [e0, e1 _ (Nat.le_refl _)] at h1
  omega
