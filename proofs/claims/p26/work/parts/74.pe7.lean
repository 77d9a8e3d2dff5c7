/-! PURE: layers, by drawing and by rounds -/
theorem bestO_nil {p : Nat → Bool} {lt : Nat → Nat → Bool} : ∀ {n : Nat}, bestO p lt n = none → ∀ k, k < n → p k = false
  | 0, _, k, hk => absurd hk (Nat.not_lt_zero k)
  | n + 1, h, k, hk => by
    cases c : p n with
    | false =>
      rw [bestO_no1 c] at h
      by_cases e : k = n
      · rw [e]
        exact c
      · exact bestO_nil h k (by omega)
    | true =>
      cases e : bestO p lt n with
      | none =>
        rw [bestO_yes c (Or.inl e)] at h
        cases h
      | some b =>
        cases d : lt n b with
        | true =>
          rw [bestO_yes c (Or.inr ⟨b, e, d⟩)] at h
          cases h
        | false =>
          rw [bestO_no2 e d, e] at h
          cases h
theorem layA_has {lay : Nat → Int32} {x : Int32} {J : Nat} (hJ : J < 2 ^ 30) : ∀ n, (∀ i, i < n → hasB x i = true → ∃ y, lay i = nI y ∧ y ≤ J) → ∃ z, layA lay x n = nI z ∧ z ≤ J + 1 ∧ (∀ i, i < n → hasB x i = true → ∃ y, lay i = nI y ∧ y + 1 ≤ z) ∧ (z = 0 ∨ ∃ i, i < n ∧ hasB x i = true ∧ ∃ y, lay i = nI y ∧ z = y + 1)
  | 0, _ => ⟨0, rfl, Nat.zero_le _, fun i hi => absurd hi (Nat.not_lt_zero i), Or.inl rfl⟩
  | n + 1, h => by
    obtain ⟨z, e, hz, h1, h2⟩ := layA_has hJ n (fun i hi => h i (Nat.lt_succ_of_lt hi))
    by_cases c : hasB x n = true
    · obtain ⟨y, ey, hy⟩ := h n (Nat.lt_succ_self n) c
      by_cases d : z < y + 1
      · refine ⟨y + 1, ?_, by omega, fun i hi hb => ?_, Or.inr ⟨n, Nat.lt_succ_self n, c, y, ey, rfl⟩⟩
        · rw [layA, if_pos c, e, ey, nI_1, if_pos ((nI_ltI (by omega) (by omega)).mpr d)]
        · by_cases q : i = n
          · rw [q]
            exact ⟨y, ey, Nat.le_refl _⟩
          · obtain ⟨y', e', h'⟩ := h1 i (by omega) hb
            exact ⟨y', e', by omega⟩
      · refine ⟨z, ?_, hz, fun i hi hb => ?_, ?_⟩
        · rw [layA, if_pos c, e, ey, nI_1, if_neg (fun q => d ((nI_ltI (by omega) (by omega)).mp q))]
        · by_cases q : i = n
          · rw [q]
            exact ⟨y, ey, by omega⟩
          · exact h1 i (by omega) hb
        · rcases h2 with h2 | ⟨i, hi, r⟩
          · exact Or.inl h2
          · exact Or.inr ⟨i, by omega, r⟩
    · refine ⟨z, ?_, hz, fun i hi hb => ?_, ?_⟩
      · rw [layA, if_neg c, e]
      · by_cases q : i = n
        · rw [q] at hb
          exact absurd hb c
        · exact h1 i (by omega) hb
      · rcases h2 with h2 | ⟨i, hi, r⟩
        · exact Or.inl h2
        · exact Or.inr ⟨i, by omega, r⟩
/-- the layers after j draws -/
def lyP (v : SpV) (D : Int32) (L : Nat → Int32) (j : Nat) : Prop := ∀ k, k < vN v → (hasB D k = false → L k = -5) ∧ (hasB D k = true → ∃ x, L k = nI x ∧ x ≤ j ∧ (∀ i, i < vN v → hasB (HV v k) i = true → ∃ y, L i = nI y ∧ y + 1 ≤ x) ∧ (x = 0 ∨ ∃ i, i < vN v ∧ hasB (HV v k) i = true ∧ ∃ y, L i = nI y ∧ x = y + 1))
theorem dv_some {v : SpV} {j b : Nat} (q : nxO (vN v) (HV v) (WVv v) (DV v j).1 = some b) : DV v (j + 1) = ((DV v j).1 ||| bitI b, upd (DV v j).2.1 j (nI b), upd (DV v j).2.2 b (layA (DV v j).2.2 (HV v b) (vN v))) := by
  show drS (vN v) (HV v) (WVv v) (fun _ => 0) (fun _ => -5) (j + 1) = _
  rw [drS, show nxO (vN v) (HV v) (WVv v) (drS (vN v) (HV v) (WVv v) (fun _ => 0) (fun _ => -5) j).1 = some b from q]
  rfl
theorem dv_none {v : SpV} {j : Nat} (q : nxO (vN v) (HV v) (WVv v) (DV v j).1 = none) : DV v (j + 1) = DV v j := by
  show drS (vN v) (HV v) (WVv v) (fun _ => 0) (fun _ => -5) (j + 1) = _
  rw [drS, show nxO (vN v) (HV v) (WVv v) (drS (vN v) (HV v) (WVv v) (fun _ => 0) (fun _ => -5) j).1 = none from q]
  rfl
/-- whoever is drawn next hides only what is drawn -/
theorem nx_sees {v : SpV} (hn : vN v ≤ 16) {j b : Nat} (q : nxO (vN v) (HV v) (WVv v) (DV v j).1 = some b) : hasB (DV v j).1 b = false ∧ ∀ i, i < vN v → hasB (HV v b) i = true → hasB (DV v j).1 i = true := by
  have p := bestO_p q
  unfold canD at p
  rw [Bool.and_eq_true, decide_eq_true_eq] at p
  refine ⟨by simpa using p.1, fun i hi hb => ?_⟩
  have z := zeroBts.mp p.2 i (by omega)
  rw [hasB_and _ _ (by omega), hasB_not _ (by omega), hb, Bool.true_and] at z
  cases y : hasB (DV v j).1 i with
  | true => rfl
  | false => rw [y] at z; cases z
theorem ly_dr {v : SpV} (hn : vN v ≤ 16) : ∀ j, j ≤ 16 → lyP v (DV v j).1 (DV v j).2.2 j
  | 0, _ => fun k hk => ⟨fun _ => rfl, fun h => by
    rw [show (DV v 0).1 = 0 from rfl, hasB_0 (by omega)] at h
    cases h⟩
  | j + 1, hj => by
    have ih := ly_dr hn j (by omega)
    cases q : nxO (vN v) (HV v) (WVv v) (DV v j).1 with
    | none =>
      rw [dv_none q]
      refine fun k hk => ⟨(ih k hk).1, fun h => ?_⟩
      obtain ⟨x, h1, h2, h3⟩ := (ih k hk).2 h
      exact ⟨x, h1, by omega, h3⟩
    | some b =>
      have hbn : b < vN v := bestO_lt q
      obtain ⟨hb0, hb1⟩ := nx_sees hn q
      rw [dv_some q]
      show lyP v ((DV v j).1 ||| bitI b) (upd (DV v j).2.2 b (layA (DV v j).2.2 (HV v b) (vN v))) (j + 1)
      obtain ⟨z, ez, hz, g1, g2⟩ := layA_has (lay := (DV v j).2.2) (x := HV v b) (J := j) (by omega) (vN v) (fun i hi hb => by
        obtain ⟨x, h1, h2, _⟩ := (ih i hi).2 (hb1 i hi hb)
        exact ⟨x, h1, h2⟩)
      have old : ∀ i, hasB (DV v j).1 i = true → upd (DV v j).2.2 b (layA (DV v j).2.2 (HV v b) (vN v)) i = (DV v j).2.2 i := fun i hi => by
        unfold upd
        rw [if_neg (fun e => by rw [e, hb0] at hi; cases hi)]
      refine fun k hk => ⟨fun h => ?_, fun h => ?_⟩
      · rw [hasB_or _ _ (by omega), Bool.or_eq_false_iff] at h
        have : ¬ k = b := fun e => by
          rw [e, hasB_bitI (by omega) (by omega)] at h
          simp at h
        unfold upd
        rw [if_neg this]
        exact (ih k hk).1 h.1
      · by_cases e : k = b
        · rw [e]
          refine ⟨z, ?_, hz, fun i hi hb => ?_, ?_⟩
          · unfold upd
            rw [if_pos rfl, ez]
          · rw [old i (hb1 i hi hb)]
            exact g1 i hi hb
          · rcases g2 with g2 | ⟨i, hi, hb, r⟩
            · exact Or.inl g2
            · refine Or.inr ⟨i, hi, hb, ?_⟩
              rw [old i (hb1 i hi hb)]
              exact r
        · rw [hasB_or _ _ (by omega), hasB_bitI (by omega) (by omega), decide_eq_false e, Bool.or_false] at h
          have hc : ∀ i, i < vN v → hasB (HV v k) i = true → hasB (DV v j).1 i = true := fun i hi hb => dv_closed hn j k h hk i hi hb
          obtain ⟨x, h1, h2, h3, h4⟩ := (ih k hk).2 h
          refine ⟨x, ?_, by omega, fun i hi hb => ?_, ?_⟩
          · rw [old k h]
            exact h1
          · rw [old i (hc i hi hb)]
            exact h3 i hi hb
          · rcases h4 with h4 | ⟨i, hi, hb, r⟩
            · exact Or.inl h4
            · refine Or.inr ⟨i, hi, hb, ?_⟩
              rw [old i (hc i hi hb)]
              exact r
/-- whatever walks out of what is drawn stays in it -/
theorem ex_in {v : SpV} (hn : vN v ≤ 16) {D : Int32} {b : Nat} (h1 : ∀ i, i < vN v → hasB (HV v b) i = true → hasB D i = true) (h2 : ∀ k, k < vN v → hasB D k = true → ∀ i, i < vN v → hasB (HV v k) i = true → hasB D i = true) : ∀ j i, i < vN v → hasB (exW (HV v) (vN v) b j) i = true → hasB D i = true
  | 0, i, hi, h => h1 i hi h
  | j + 1, i, hi, h => by
    obtain ⟨a, ha, z1, z2⟩ := (orI_bit (by omega)).mp h
    exact h2 a ha (ex_in hn h1 h2 j a ha z1) i hi z2
/-- what is drawn is in no ring and reaches none -/
theorem dr_free {v : SpV} (hn : vN v ≤ 16) : ∀ j k, k < vN v → hasB (DV v j).1 k = true → hasB (CVv v k) k = false ∧ ∀ c, c < vN v → hasB (CVv v k) c = true → hasB (CVv v c) c = false
  | 0, k, hk, h => by
    rw [show (DV v 0).1 = 0 from rfl, hasB_0 (by omega)] at h
    cases h
  | j + 1, k, hk, h => by
    cases q : nxO (vN v) (HV v) (WVv v) (DV v j).1 with
    | none =>
      rw [dv_none q] at h
      exact dr_free hn j k hk h
    | some b =>
      have hbn : b < vN v := bestO_lt q
      obtain ⟨hb0, hb1⟩ := nx_sees hn q
      rw [dv_some q] at h
      have h' : hasB ((DV v j).1 ||| bitI b) k = true := h
      by_cases e : k = b
      · subst e
        have st : ∀ c, c < vN v → hasB (CVv v k) c = true → hasB (DV v j).1 c = true := fun c hc h => by
          obtain ⟨i, hi⟩ := cv_ex (by omega) (vN v) (Nat.le_refl _) k c hk hc h
          exact ex_in hn hb1 (fun a ha hd => dv_closed hn j a hd ha) i c hc hi
        refine ⟨?_, fun c hc h => (dr_free hn j c hc (st c hc h)).1⟩
        cases y : hasB (CVv v k) k with
        | false => rfl
        | true =>
          have := st k hk y
          rw [hb0] at this
          cases this
      · rw [hasB_or _ _ (by omega), hasB_bitI (by omega) (by omega), decide_eq_false e, Bool.or_false] at h'
        exact dr_free hn j k hk h'
/-- at the end whatever isn't drawn hides something that isn't -/
theorem bv_stuck {v : SpV} (hn : vN v ≤ 16) {k : Nat} (hk : k < vN v) (h : hasB (BV v) k = false) : ∃ i, i < vN v ∧ hasB (HV v k) i = true ∧ hasB (BV v) i = false := by
  by_cases c : DCv v < vN v
  · have h1 : (nxO (vN v) (HV v) (WVv v) (DV v (DCv v)).1).isNone = true := ffi_at (p := fun j => (nxO (vN v) (HV v) (WVv v) (drS (vN v) (HV v) (WVv v) (fun _ => 0) (fun _ => -5) j).1).isNone) (n := vN v) c
    have h2 : nxO (vN v) (HV v) (WVv v) (DV v (DCv v)).1 = none := by
      cases q : nxO (vN v) (HV v) (WVv v) (DV v (DCv v)).1 with
      | none => rfl
      | some b => rw [q] at h1; cases h1
    have h3 := drS_stuck (o0 := fun _ => 0) (l0 := fun _ => -5) h2 (vN v - DCv v)
    rw [show DCv v + (vN v - DCv v) = vN v by omega] at h3
    have s : BV v = (DV v (DCv v)).1 := congrArg (fun z => z.1) h3
    rw [s] at h ⊢
    have nc : canD (HV v) (DV v (DCv v)).1 k = false := bestO_nil h2 k hk
    unfold canD at nc
    rw [h] at nc
    have nz : ¬ HV v k &&& ((DV v (DCv v)).1 ^^^ -1) = 0 := by simpa using nc
    by_cases g : ∃ i, i < vN v ∧ hasB (HV v k) i = true ∧ hasB (DV v (DCv v)).1 i = false
    · exact g
    · refine absurd (zeroBts.mpr (fun i hi => ?_)) nz
      rw [hasB_and _ _ hi, hasB_not _ hi, hv_bit hn hi]
      by_cases d : i < vN v
      · cases y1 : hasB (HV v k) i with
        | false =>
          rw [hv_bit hn hi] at y1
          rw [y1, Bool.false_and]
        | true =>
          cases y2 : hasB (DV v (DCv v)).1 i with
          | true => exact Bool.and_false _
          | false => exact absurd ⟨i, d, y1, y2⟩ g
      · rw [decide_eq_false d, Bool.false_and, Bool.false_and]
  · have e : DCv v = vN v := by
      have : DCv v ≤ vN v := ffi_le _ _
      omega
    have all := lf_cnt hn (lf0 v 0) (vN v) (fun i hi => by
      rw [nx_all hn i]
      exact ffi_no (p := fun j => (nxO (vN v) (HV v) (WVv v) (drS (vN v) (HV v) (WVv v) (fun _ => 0) (fun _ => -5) j).1).isNone) (n := vN v) (k := i) (by
        have : DCv v = ffi (fun j => (nxO (vN v) (HV v) (WVv v) (drS (vN v) (HV v) (WVv v) (fun _ => 0) (fun _ => -5) j).1).isNone) (vN v) := rfl
        omega))
    have le := cntBt_le (lf0 v 0) (vN v)
    have lb : hasB (lfS v (lf0 v 0) (vN v)) k = true := by
      rw [(lfD_all hn (vN v)).1 k hk]
      show (!hasB (BV v) k) = true
      rw [h]
      rfl
    have := cntBt_cut lb (n := vN v) (by omega) hk
    omega
/-- what isn't drawn is in a ring or reaches one -/
theorem nd_ring {v : SpV} (hn : vN v ≤ 16) : ∀ m k, k < vN v → cntBt (CVv v k) (vN v) ≤ m → hasB (BV v) k = false → hasB (CVv v k) k = true ∨ ∃ c, c < vN v ∧ hasB (CVv v k) c = true ∧ hasB (CVv v c) c = true
  | m, k, hk, hm, h => by
    obtain ⟨i, hi, hb, hd⟩ := bv_stuck hn hk h
    have ki : hasB (CVv v k) i = true := ws_mono hk (by omega) hb _
    by_cases c : hasB (CVv v i) i = true
    · exact Or.inr ⟨i, hi, ki, c⟩
    · have lt : cntBt (CVv v i) (vN v) < cntBt (CVv v k) (vN v) := cntBt_lt (b := i) (by simpa using c) ki (fun b hb h => ws_trans (by omega) (vN v) (Nat.le_refl _) k i b hk hi hb ki h) hi
      cases m with
      | zero => omega
      | succ m =>
        rcases nd_ring hn m i hi (by omega) hd with y | ⟨c', h1, h2, h3⟩
        · exact absurd y c
        · exact Or.inr ⟨c', h1, ws_trans (by omega) (vN v) (Nat.le_refl _) k i c' hk hi h1 ki h2, h3⟩
theorem rg_bit {v : SpV} (hn : vN v ≤ 16) {k : Nat} (hk : k < vN v) : hasB (rgI v) k = hasB (CVv v k) k := by
  unfold rgI
  rw [hasB_mask (by omega) (by omega), decide_eq_true hk, Bool.true_and]
theorem rg_zero {v : SpV} (hn : vN v ≤ 16) {k : Nat} (h : ∀ c, c < vN v → hasB (CVv v k) c = true → hasB (CVv v c) c = false) : CVv v k &&& rgI v = 0 := zeroBts.mpr (fun j hj => by
  rw [hasB_and _ _ hj]
  by_cases c : j < vN v
  · rw [rg_bit hn c]
    cases y : hasB (CVv v k) j with
    | false => rfl
    | true => rw [h j c y]; rfl
  · unfold rgI
    rw [hasB_mask hj (by omega), decide_eq_false c, Bool.false_and, Bool.and_false])
theorem ly0_at {v : SpV} (hn : vN v ≤ 16) {k : Nat} (hk : k < vN v) : ly0 v k = if hasB (BV v) k = true then 0 else -5 := by
  unfold ly0
  rw [rg_bit hn hk]
  cases h : hasB (BV v) k with
  | true =>
    have f := dr_free hn (vN v) k hk h
    rw [f.1, rg_zero hn f.2]
    rfl
  | false =>
    rcases nd_ring hn _ k hk (Nat.le_refl _) h with y | ⟨c, h1, h2, h3⟩
    · rw [y]
      rfl
    · have nz : ¬ CVv v k &&& rgI v = 0 := fun e => by
        have := zeroBts.mp e c (by omega)
        rw [hasB_and _ _ (by omega), rg_bit hn h1, h2, h3] at this
        cases this
      rw [if_neg nz, ite_self]
      rfl
/-- the rounds: none above the layer, and right where the layer isn't above the round -/
def lrO (v : SpV) (r : Nat) (L : Nat → Int32) (k : Nat) : Prop := (hasB (BV v) k = false → L k = -5) ∧ (hasB (BV v) k = true → ∃ x d, L k = nI x ∧ LV v k = nI d ∧ d ≤ 16 ∧ x ≤ d ∧ (d ≤ r → x = d))
def lrI (v : SpV) (r : Nat) (L : Nat → Int32) : Prop := ∀ k, k < vN v → lrO v r L k
theorem lyJ_ne {v : SpV} {L : Nat → Int32} {k i : Nat} (h : ¬ i = k) : ∀ m, lyJ v L k m i = L i
  | 0 => rfl
  | m + 1 => by
    rw [lyJ]
    unfold upd
    rw [if_neg h]
    exact lyJ_ne h m
theorem lyJ_nd {v : SpV} {L : Nat → Int32} {k : Nat} (h : L k = -5) : ∀ m, lyJ v L k m k = -5
  | 0 => h
  | m + 1 => by
    rw [lyJ]
    unfold upd
    rw [if_pos rfl, lyJ_nd h m, if_pos (by decide)]
theorem hv_irr {v : SpV} (hn : vN v ≤ 16) {k : Nat} (hk : k < vN v) : hasB (HV v k) k = false := by
  rw [hv_bit hn (by omega), decide_eq_true hk]
  unfold hdG
  simp
/-- one box's step in a round -/
theorem lyJ_up {v : SpV} (hn : vN v ≤ 16) {r : Nat} {L : Nat → Int32} {k : Nat} (hk : k < vN v) (hI : lrI v r L) (h : hasB (BV v) k = true) : ∀ m, m ≤ vN v → ∃ x d, lyJ v L k m k = nI x ∧ LV v k = nI d ∧ d ≤ 16 ∧ x ≤ d ∧ (∃ x0, L k = nI x0 ∧ x0 ≤ x) ∧ ∀ i, i < m → hasB (HV v k) i = true → ∃ y, L i = nI y ∧ y + 1 ≤ x
  | 0, _ => by
    obtain ⟨x, d, h1, h2, h3, h4, h5⟩ := (hI k hk).2 h
    exact ⟨x, d, h1, h2, h3, h4, ⟨x, h1, Nat.le_refl _⟩, fun i hi => absurd hi (Nat.not_lt_zero i)⟩
  | m + 1, hm => by
    obtain ⟨x, d, h1, h2, h3, h4, ⟨x0, h5, h6⟩, h7⟩ := lyJ_up hn hk hI h m (by omega)
    have step : lyJ v L k (m + 1) k = if hasB (HV v k) m then (if lyJ v L k m m < nI x then nI x else lyJ v L k m m + 1) else nI x := by
      rw [lyJ]
      unfold upd
      rw [if_pos rfl, h1, if_neg (nI_pos (by omega))]
    by_cases c : hasB (HV v k) m = true
    · have nk : ¬ m = k := fun e => by
        rw [e, hv_irr hn hk] at c
        cases c
      have mb : hasB (BV v) m = true := dv_closed hn (vN v) k h hk m (by omega) c
      obtain ⟨y, e, g1, g2, g3, g4, g5⟩ := (hI m (by omega)).2 mb
      obtain ⟨x', p1, p2, p3, p4⟩ := (ly_dr hn (vN v) (by omega) k hk).2 h
      obtain ⟨y', q1, q2⟩ := p3 m (by omega) c
      have ex : x' = d := (nI_eq (by omega) (by omega)).mp (p1.symm.trans h2)
      have ey : y' = e := (nI_eq (by omega) (by omega)).mp (q1.symm.trans g2)
      rw [if_pos c, lyJ_ne nk m, g1] at step
      by_cases w : y < x
      · rw [if_pos ((nI_ltI (by omega) (by omega)).mpr w)] at step
        refine ⟨x, d, step, h2, h3, h4, ⟨x0, h5, h6⟩, fun i hi hb => ?_⟩
        by_cases z : i = m
        · rw [z]
          exact ⟨y, g1, w⟩
        · exact h7 i (by omega) hb
      · rw [if_neg (fun z => w ((nI_ltI (by omega) (by omega)).mp z)), nI_1] at step
        refine ⟨y + 1, d, step, h2, h3, by omega, ⟨x0, h5, by omega⟩, fun i hi hb => ?_⟩
        by_cases z : i = m
        · rw [z]
          exact ⟨y, g1, Nat.le_refl _⟩
        · obtain ⟨y2, r1, r2⟩ := h7 i (by omega) hb
          exact ⟨y2, r1, by omega⟩
    · rw [if_neg c] at step
      refine ⟨x, d, step, h2, h3, h4, ⟨x0, h5, h6⟩, fun i hi hb => ?_⟩
      by_cases z : i = m
      · rw [z] at hb
        exact absurd hb c
      · exact h7 i (by omega) hb
/-- a box's step leaves the round as it was, and the box right for the next -/
theorem lyJ_ok {v : SpV} (hn : vN v ≤ 16) {r : Nat} {L : Nat → Int32} {k : Nat} (hk : k < vN v) (hI : lrI v r L) : lrO v (r + 1) (lyJ v L k (vN v)) k := by
  refine ⟨fun h => lyJ_nd ((hI k hk).1 h) _, fun h => ?_⟩
  obtain ⟨x, d, h1, h2, h3, h4, ⟨x0, h5, h6⟩, h7⟩ := lyJ_up hn hk hI h (vN v) (Nat.le_refl _)
  refine ⟨x, d, h1, h2, h3, h4, fun hd => ?_⟩
  obtain ⟨x', p1, p2, p3, p4⟩ := (ly_dr hn (vN v) (by omega) k hk).2 h
  have ex : x' = d := (nI_eq (by omega) (by omega)).mp (p1.symm.trans h2)
  rcases p4 with p4 | ⟨i, hi, hb, y', q1, q2⟩
  · omega
  · obtain ⟨y, g1, g2⟩ := h7 i hi hb
    have mb : hasB (BV v) i = true := dv_closed hn (vN v) k h hk i hi hb
    obtain ⟨y2, e, r1, r2, r3, r4, r5⟩ := (hI i hi).2 mb
    have e1 : y2 = y := (nI_eq (by omega) (by omega)).mp (r1.symm.trans g1)
    have e2 : y' = e := (nI_eq (by omega) (by omega)).mp (q1.symm.trans r2)
    have := r5 (by omega)
    omega
theorem lrO_dn {v : SpV} {r : Nat} {L : Nat → Int32} {k : Nat} (h : lrO v (r + 1) L k) : lrO v r L k := ⟨h.1, fun b => by
  obtain ⟨x, d, h1, h2, h3, h4, h5⟩ := h.2 b
  exact ⟨x, d, h1, h2, h3, h4, fun q => h5 (by omega)⟩⟩
theorem lyK_ok {v : SpV} (hn : vN v ≤ 16) {r : Nat} {L : Nat → Int32} (hI : lrI v r L) : ∀ m, m ≤ vN v → lrI v r (lyK v L m) ∧ ∀ k, k < m → lrO v (r + 1) (lyK v L m) k
  | 0, _ => ⟨hI, fun k hk => absurd hk (Nat.not_lt_zero k)⟩
  | m + 1, hm => by
    obtain ⟨a, b⟩ := lyK_ok hn hI m (by omega)
    have g := lyJ_ok hn (k := m) (by omega) a
    have ne : ∀ k, ¬ k = m → lyK v L (m + 1) k = lyK v L m k := fun k hk => lyJ_ne hk _
    refine ⟨fun k hk => ?_, fun k hk => ?_⟩
    · by_cases e : k = m
      · rw [e]
        exact lrO_dn g
      · unfold lrO
        rw [ne k e]
        exact a k hk
    · by_cases e : k = m
      · rw [e]
        exact g
      · unfold lrO
        rw [ne k e]
        exact b k (by omega)
theorem lyR_ok {v : SpV} (hn : vN v ≤ 16) : ∀ r, lrI v r (lyR v r)
  | 0 => fun k hk => by
    have e := ly0_at hn hk
    refine ⟨fun h => ?_, fun h => ?_⟩
    · show ly0 v k = -5
      rw [e, h]
      rfl
    · obtain ⟨x, p1, p2, p3, p4⟩ := (ly_dr hn (vN v) (by omega) k hk).2 h
      refine ⟨0, x, ?_, p1, by omega, Nat.zero_le _, fun q => by omega⟩
      show ly0 v k = _
      rw [e, if_pos h]
      rfl
  | r + 1 => fun k hk => (lyK_ok hn (lyR_ok hn r) (vN v) (Nat.le_refl _)).2 k hk
theorem pe_ly {v : SpV} (hn : vN v ≤ 16) : peLy v := fun k hk => by
  have g := lyR_ok hn (vN v) k hk
  have p := ly_dr hn (vN v) (by omega) k hk
  cases h : hasB (BV v) k with
  | false => exact (g.1 h).trans (p.1 h).symm
  | true =>
    obtain ⟨x, d, h1, h2, h3, h4, h5⟩ := g.2 h
    obtain ⟨x', p1, p2, _⟩ := p.2 h
    have e : x' = d := (nI_eq (by omega) (by omega)).mp (p1.symm.trans h2)
    have := h5 (by omega)
    show lyR v (vN v) k = _
    rw [h1, h2, this]
