/-! THE LAW OF ITS OWN: what its questions are answered, in the words of the spec -/
/-- the class holds S, the law's two rows of ints hold E and G -/
def lwS (S : StV) (E G : Nat → Int32) (σ : Sg) : Prop := isC σ S ∧ σ 369 = E ∧ σ 370 = G
theorem lw_q {S : StV} {E G : Nat → Int32} {σ σ1 : Sg} {o : Int32 × StV} {x : Int32} (hs : lwS S E G σ) (h : okC σ o x σ1) (ho : o.2 = S) : x = o.1 ∧ lwS S E G σ1 := ⟨h.1, by rw [← ho]; exact h.2.1, (h.2.2 369 (by omega)).trans hs.2.1, (h.2.2 370 (by omega)).trans hs.2.2⟩
theorem lo_at {v : SpV} {k : Nat} (hu : uniV v) (hk : k < vN v) : locO v (vNu v k) = some k := by
  have e : ffi (fun j => decide (vNu v j = vNu v k)) (vN v) = k := ff_hit (fun j hj => decide_eq_false (hu j k hj hk)) (decide_eq_true rfl) hk
  unfold locO
  rw [e, if_pos hk]
theorem box_at {S : StV} {k : Nat} (hn : vN (qC S) ≤ 16) (hk : k < vN (qC S)) : (oBox S (nI k)).1 = vNu (qC S) k := by
  unfold oBox
  simp only
  rw [if_neg (nI_pos (by omega)), if_pos (nI_lt hk (by omega)), nI_clamp (by omega)]
theorem box_n {S : StV} (hn : vN (qC S) ≤ 16) : (oBox S (nI (vN (qC S)))).1 = -5 := by
  unfold oBox
  simp only
  rw [if_neg (nI_pos (by omega)), if_neg (nI_nlt (Nat.le_refl _) (by omega))]
theorem box_m (S : StV) : (oBox S (-1)).1 = -2 := by
  unfold oBox
  simp only
  rw [if_pos (by decide)]
theorem dir_at {d : Nat} (hd : d < 3) : dirB (nI d) = true := by
  rcases (show d = 0 ∨ d = 1 ∨ d = 2 by omega) with rfl | rfl | rfl <;> decide
theorem end_at {S : StV} {k d : Nat} {h : Int32} (hu : uniV (qC S)) (hk : k < vN (qC S)) (hd : d < 3) : (oEnd S (vNu (qC S) k) (nI d) h).1 = if h = 0 then vLo (qC S) k d else vHi (qC S) k d := by
  rw [oEnd_at (lo_at hu hk) (dir_at hd)]
  simp only
  rw [nI_clamp (by omega)]
theorem of_at {S : StV} {k : Nat} {w : Int32} (hu : uniV (qC S)) (hk : k < vN (qC S)) : (oOf S (vNu (qC S) k) w).1 = ofA (qC S) k w := by
  have e := lo_at hu hk
  unfold oOf
  simp only [e]
theorem pair_at {S : StV} {a b : Nat} (hg : gdV (qC S)) (ha : a < vN (qC S)) (hb : b < vN (qC S)) (hab : ¬ a = b) : (oPair S (vNu (qC S) a) (vNu (qC S) b)).1 = if 0 < hbI (qC S) b a then 3 + hbI (qC S) b a else hbI (qC S) a b := by
  have e1 := lo_at hg.1 ha
  have e2 := lo_at hg.1 hb
  have n1 : hbI (qC S) a b = dhV (qC S) a b + 1 := by rw [hbI, if_neg hab]
  have n2 : hbI (qC S) b a = dhV (qC S) b a + 1 := by rw [hbI, if_neg (fun q => hab q.symm)]
  rw [n1, n2]
  unfold oPair
  simp only [e1, e2]
  rw [if_neg hab]
  rcases pr_ex hg a b ha hb hab with h | h
  · rw [h]
    rcases dh_cases (qC S) b a with q | q | q | q <;> rw [q] <;> decide
  · rw [h]
    rcases dh_cases (qC S) a b with q | q | q | q <;> rw [q] <;> decide
theorem dra_at {S : StV} {j b : Nat} (hn : vN (qC S) ≤ 16) (hj : j < DCv (qC S)) (hO : OV (qC S) j = nI b) (hb : b < vN (qC S)) : (oDrawn S (nI j)).1 = vNu (qC S) b := by
  have hle : DCv (qC S) ≤ vN (qC S) := ffi_le _ _
  unfold oDrawn
  simp only
  rw [if_neg (nI_pos (by omega)), if_pos (nI_lt hj (by omega)), nI_clamp (by omega), hO, nI_clamp (by omega)]
theorem dra_no {S : StV} (hn : vN (qC S) ≤ 16) : (oDrawn S (nI (DCv (qC S)))).1 = -5 := by
  have hle : DCv (qC S) ≤ vN (qC S) := ffi_le _ _
  unfold oDrawn
  simp only
  rw [if_neg (nI_pos (by omega)), if_neg (nI_nlt (Nat.le_refl _) (by omega))]
theorem wai_at {S : StV} {k : Nat} (hu : uniV (qC S)) (hk : k < vN (qC S)) : (oWaits S (vNu (qC S) k)).1 = if waI (qC S) k = -1 then -5 else vNu (qC S) (waI (qC S) k).toNatClampNeg := by
  have e := lo_at hu hk
  unfold oWaits
  simp only [e]
theorem wo_at {S : StV} {k : Nat} (hu : uniV (qC S)) (hk : k < vN (qC S)) : (oWithout S (vNu (qC S) k)).1 = nI (DCv (rmV (qC S) k)) := by
  have e := lo_at hu hk
  unfold oWithout
  simp only [e]
theorem to_13 (S : StV) : toA S 13 = -2 := toA_d (fun j hj q => by
  have := (nI_eq (a := 13) (b := j) (by omega) (by omega)).mp q
  omega)
/-! the row of ends -/
def encE (E : Nat → Int32) (v : SpV) : Prop := ∀ j, j < vN v → ∀ d, d < 3 → E (6 * j + d) = vLo v j d ∧ E (6 * j + 3 + d) = vHi v j d
theorem en0 {E : Nat → Int32} {v : SpV} (he : encE E v) {j : Nat} (hj : j < vN v) : E (6 * j) = vLo v j 0 := (he j hj 0 (by omega)).1
theorem en1 {E : Nat → Int32} {v : SpV} (he : encE E v) {j : Nat} (hj : j < vN v) : E (6 * j + 1) = vLo v j 1 := (he j hj 1 (by omega)).1
theorem en2 {E : Nat → Int32} {v : SpV} (he : encE E v) {j : Nat} (hj : j < vN v) : E (6 * j + 2) = vLo v j 2 := (he j hj 2 (by omega)).1
theorem en3 {E : Nat → Int32} {v : SpV} (he : encE E v) {j : Nat} (hj : j < vN v) : E (6 * j + 3) = vHi v j 0 := (he j hj 0 (by omega)).2
theorem en4 {E : Nat → Int32} {v : SpV} (he : encE E v) {j : Nat} (hj : j < vN v) : E (6 * j + 4) = vHi v j 1 := (he j hj 1 (by omega)).2
theorem en5 {E : Nat → Int32} {v : SpV} (he : encE E v) {j : Nat} (hj : j < vN v) : E (6 * j + 5) = vHi v j 2 := (he j hj 2 (by omega)).2
theorem enL {E : Nat → Int32} {v : SpV} (he : encE E v) {j d : Nat} (hj : j < vN v) (hd : d < 3) : E (6 * j + d) = vLo v j d := (he j hj d hd).1
theorem enH {E : Nat → Int32} {v : SpV} (he : encE E v) {j d : Nat} (hj : j < vN v) (hd : d < 3) : E (6 * j + 3 + d) = vHi v j d := (he j hj d hd).2
theorem ix6 (i : Nat) : (6 : Int32) * nI i = nI (6 * i) := nI_mulR 6 i
theorem ix6c (i c : Nat) : (6 : Int32) * nI i + nI c = nI (6 * i + c) := by
  rw [ix6, nI_add]
theorem ix63 (i d : Nat) : (6 : Int32) * nI i + 3 + nI d = nI (6 * i + 3 + d) := by
  rw [show (6 : Int32) * nI i + 3 = nI (6 * i + 3) from ix6c i 3, nI_add]
/-! who hides whom -/
theorem fI_ne {p : Nat → Bool} {n d : Nat} (hd : d < n) (h : p d = true) (hn : n < 1000) : ¬ fI p n = -1 := by
  intro q
  unfold fI at q
  by_cases c : ffi p n < n
  · rw [if_pos c] at q
    exact nI_nm1 (by omega) q
  · have := ffi_no (p := p) (n := n) (k := d) (by omega)
    rw [h] at this
    cases this
theorem dh_no {v : SpV} {a b : Nat} (h : ovB (vLo v a) (vHi v a) (vLo v b) (vHi v b) = false) : dhV v a b = -1 := by
  unfold dhV dhB
  rw [h]
  rfl
theorem dh_yes {v : SpV} {a b d : Nat} (h : ovB (vLo v a) (vHi v a) (vLo v b) (vHi v b) = true) (hd : d < 3) (hl : ¬ vLo v a d < vHi v b d) : ¬ dhV v a b = -1 := by
  unfold dhV dhB
  rw [h, if_pos rfl]
  exact fI_ne hd (by simp [hl]) (by omega)
theorem ovB_sym (l1 h1 l2 h2 : V3) : ovB l1 h1 l2 h2 = ovB l2 h2 l1 h1 := by
  unfold ovB md
  rw [Bool.and_comm (decide (l1 0 - h1 1 < h2 0 - l2 1)), Bool.and_comm (decide (l1 0 - h1 2 < h2 0 - l2 2)), Bool.and_comm (decide (l1 1 - h1 2 < h2 1 - l2 2))]
theorem ov_by {v : SpV} {i j : Nat} (hg : gdV v) (hi : i < vN v) (hj : j < vN v) (hij : ¬ i = j) : ovB (vLo v i) (vHi v i) (vLo v j) (vHi v j) = decide (0 < hbI v i j + hbI v j i) := by
  have n1 : hbI v i j = dhV v i j + 1 := by rw [hbI, if_neg hij]
  have n2 : hbI v j i = dhV v j i + 1 := by rw [hbI, if_neg (fun q => hij q.symm)]
  rw [n1, n2]
  cases h : ovB (vLo v i) (vHi v i) (vLo v j) (vHi v j) with
  | false =>
    rw [dh_no h, dh_no (by rw [ovB_sym]; exact h)]
    decide
  | true =>
    have hs : ovB (vLo v j) (vHi v j) (vLo v i) (vHi v i) = true := by rw [ovB_sym]; exact h
    have hc := hg.2.2.2 i j hi hj hij
    have hx : ¬ dhV v i j = -1 ∨ ¬ dhV v j i = -1 := by
      unfold ctBx mtB at hc
      simp only [Bool.and_eq_false_iff, decide_eq_false_iff_not] at hc
      rcases hc with ((q | q) | (q | q)) | (q | q)
      · exact Or.inl (dh_yes h (d := 0) (by omega) q)
      · exact Or.inr (dh_yes hs (d := 0) (by omega) q)
      · exact Or.inl (dh_yes h (d := 1) (by omega) q)
      · exact Or.inr (dh_yes hs (d := 1) (by omega) q)
      · exact Or.inl (dh_yes h (d := 2) (by omega) q)
      · exact Or.inr (dh_yes hs (d := 2) (by omega) q)
    rcases pr_ex hg i j hi hj hij with e | e
    · rw [e] at hx ⊢
      rcases dh_cases v j i with q | q | q | q
      · rw [q] at hx
        rcases hx with hx | hx <;> exact absurd rfl hx
      all_goals rw [q]; decide
    · rw [e] at hx ⊢
      rcases dh_cases v i j with q | q | q | q
      · rw [q] at hx
        rcases hx with hx | hx <;> exact absurd rfl hx
      all_goals rw [q]; decide
theorem hb_ex {v : SpV} {i j : Nat} (hg : gdV v) (hi : i < vN v) (hj : j < vN v) (hij : ¬ i = j) (h1 : 0 < hbI v i j) : ¬ 0 < hbI v j i := by
  have n1 : hbI v i j = dhV v i j + 1 := by rw [hbI, if_neg hij]
  have n2 : hbI v j i = dhV v j i + 1 := by rw [hbI, if_neg (fun q => hij q.symm)]
  rw [n1] at h1
  rw [n2]
  rcases pr_ex hg i j hi hj hij with e | e
  · rw [e] at h1
    exact absurd h1 (by decide)
  · rw [e]
    decide
theorem ct_no {v : SpV} {i j : Nat} (hg : gdV v) (hi : i < vN v) (hj : j < vN v) (hij : ¬ i = j) (h0 : mtB (vLo v i) (vHi v i) (vLo v j) (vHi v j) 0 = true) (h1 : mtB (vLo v i) (vHi v i) (vLo v j) (vHi v j) 1 = true) : mtB (vLo v i) (vHi v i) (vLo v j) (vHi v j) 2 = false := by
  have hc := hg.2.2.2 i j hi hj hij
  unfold ctBx at hc
  rw [h0, h1] at hc
  simpa using hc
/-! ones of a small mask -/
def ckK : Nat → Bool
  | 0 => true
  | n + 1 => Nat.beq (nbN (n + 1)) (nbN ((n + 1) &&& n) + 1) && ckK n
theorem ckK_1 : ckK 1023 = true := by decide +kernel
theorem ckK_at : ∀ {n i : Nat}, ckK n = true → i < n → nbN (i + 1) = nbN ((i + 1) &&& i) + 1
  | 0, i, _, hi => absurd hi (Nat.not_lt_zero i)
  | n + 1, i, h, hi => by
    rw [ckK, Bool.and_eq_true] at h
    by_cases e : i = n
    · rw [e]
      exact Nat.eq_of_beq_eq_true h.1
    · exact ckK_at h.2 (by omega)
theorem kn_step {m : Nat} (h0 : 0 < m) (hm : m < 1024) : ∃ r, r < m ∧ nI m &&& (nI m - 1) = nI r ∧ nbN m = nbN r + 1 := by
  obtain ⟨i, rfl⟩ : ∃ i, m = i + 1 := ⟨m - 1, by omega⟩
  refine ⟨(i + 1) &&& i, ?_, ?_, ckK_at ckK_1 (by omega)⟩
  · have : (i + 1) &&& i ≤ i := Nat.and_le_right
    omega
  · rw [nI_pred, and_nat]
