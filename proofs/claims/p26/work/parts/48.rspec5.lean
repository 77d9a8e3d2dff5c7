/-! REFERENCE: splitting, breaking, turning -/
theorem add_sub_cR (a b : Int32) : a + (b - a) = b := by rw [Int32.add_comm, Int32.sub_add_cancel]
def spV (v : SpV) (x : Int32) : SpV := (vN v, vX v, x, vRu v, vNu v, vLo v, vHi v)
theorem isZ_sp {σ : Sg} {v : SpV} (hz : isZ (σ 370) v) (x : Int32) : isZ (upS σ 370 2 x 370) (spV v x) := by
  obtain ⟨h0, h1, h2, h3, h4, h5, h6⟩ := hz
  refine ⟨h0, ?_, ?_, ?_, ?_, fun j hj => ?_, fun j hj d hd => ?_⟩
  · rw [up_get, if_neg (by omega)]; exact h1
  · rw [up_get, if_neg (by omega)]; exact h2
  · rw [up_get, if_pos ⟨rfl, rfl⟩]; rfl
  · rw [up_get, if_neg (by omega)]; exact h4
  · rw [up_get, if_neg (by omega)]; exact h5 j hj
  · rw [up_get, if_neg (by omega), up_get, if_neg (by omega)]; exact h6 j hj d hd
theorem isZ_ru {σ : Sg} {v : SpV} (hz : isZ (σ 370) v) (x : Int32) : isZ (upS σ 370 3 x 370) (ruV v x) := by
  obtain ⟨h0, h1, h2, h3, h4, h5, h6⟩ := hz
  refine ⟨h0, ?_, ?_, ?_, ?_, fun j hj => ?_, fun j hj d hd => ?_⟩
  · rw [up_get, if_neg (by omega)]; exact h1
  · rw [up_get, if_neg (by omega)]; exact h2
  · rw [up_get, if_neg (by omega)]; exact h3
  · rw [up_get, if_pos ⟨rfl, rfl⟩]; rfl
  · rw [up_get, if_neg (by omega)]; exact h5 j hj
  · rw [up_get, if_neg (by omega), up_get, if_neg (by omega)]; exact h6 j hj d hd
theorem v3_at (x y z : Int32) (f : Nat → Int32) (h0 : x = f 0) (h1 : y = f 1) (h2 : z = f 2) {d : Nat} (hd : d < 3) : v3 x y z d = f d := by
  rcases (show d = 0 ∨ d = 1 ∨ d = 2 by omega) with rfl | rfl | rfl
  · exact h0
  · exact h1
  · exact h2
def cutX (v : SpV) (k e : Nat) (t : Int32) : SpV := entV (setSz v k e (t - vLo v k e)) (vLo (setSz v k e (t - vLo v k e)) k 0) (vLo (setSz v k e (t - vLo v k e)) k 1) (vLo (setSz v k e (t - vLo v k e)) k 2) (szG (vLo (setSz v k e (t - vLo v k e))) (vHi (setSz v k e (t - vLo v k e))) k 0) (szG (vLo (setSz v k e (t - vLo v k e))) (vHi (setSz v k e (t - vLo v k e))) k 1) (szG (vLo (setSz v k e (t - vLo v k e))) (vHi (setSz v k e (t - vLo v k e))) k 2)
theorem cutX_lo (v : SpV) (k e : Nat) (t : Int32) (j : Nat) {d : Nat} (hd : d < 3) : vLo (cutX v k e t) j d = if j = vN v then vLo v k d else vLo v j d := by
  unfold cutX
  show vLo (addV (setSz v k e (t - vLo v k e)) _ _) j d = _
  rw [addV_lo]
  by_cases c : j = vN v
  · rw [if_pos (show j = vN (setSz v k e (t - vLo v k e)) from c), if_pos c]
    exact v3_at _ _ _ (vLo v k) rfl rfl rfl hd
  · rw [if_neg (show ¬ j = vN (setSz v k e (t - vLo v k e)) from c), if_neg c]
    rfl
theorem cutX_hi (v : SpV) (k e : Nat) (t : Int32) (j : Nat) {d : Nat} (hd : d < 3) : vHi (cutX v k e t) j d = if j = vN v then (if d = e then t else vHi v k d) else if j = k ∧ d = e then t else vHi v j d := by
  unfold cutX
  show vHi (addV (setSz v k e (t - vLo v k e)) _ _) j d = _
  rw [addV_hi]
  by_cases c : j = vN v
  · rw [if_pos (show j = vN (setSz v k e (t - vLo v k e)) from c), if_pos c]
    have g : ∀ d, vLo (setSz v k e (t - vLo v k e)) k d + szG (vLo (setSz v k e (t - vLo v k e))) (vHi (setSz v k e (t - vLo v k e))) k d = (if d = e then t else vHi v k d) := fun d => by
      unfold szG
      rw [add_sub_cR, setSz_hi]
      by_cases q : d = e
      · rw [if_pos ⟨rfl, q⟩, if_pos q, q, add_sub_cR]
      · rw [if_neg (by omega), if_neg q]
    exact v3_at _ _ _ (fun d => if d = e then t else vHi v k d) (g 0) (g 1) (g 2) hd
  · rw [if_neg (show ¬ j = vN (setSz v k e (t - vLo v k e)) from c), if_neg c, setSz_hi]
    by_cases q : j = k ∧ d = e
    · rw [if_pos q, if_pos q, q.1, q.2, add_sub_cR]
    · rw [if_neg q, if_neg q]
theorem cut_bx (v : SpV) {k e : Nat} (hk : k < vN v) (t : Int32) : bxZ (spV (setSz (setL (cutX v k e t) (vN v) e t) (vN v) e (vHi v k e - t)) (vSp v + 1)) (cutV v k e t) := by
  refine ⟨rfl, rfl, rfl, rfl, fun _ _ => rfl, fun j hj d hd => ⟨?_, ?_⟩⟩
  · show vLo (setSz (setL (cutX v k e t) (vN v) e t) (vN v) e (vHi v k e - t)) j d = _
    rw [setSz_lo, setL_lo, cutX_lo v k e t j hd, cutV_lo]
    by_cases c : j = vN v
    · rw [if_pos c, if_pos c]
      by_cases q : d = e
      · rw [if_pos ⟨c, q⟩, if_pos q]
      · rw [if_neg (by omega), if_neg q]
    · rw [if_neg (by omega), if_neg c, if_neg c]
  · show vHi (setSz (setL (cutX v k e t) (vN v) e t) (vN v) e (vHi v k e - t)) j d = _
    rw [setSz_hi, setL_lo, setL_hi, cutX_lo v k e t j hd, cutX_hi v k e t j hd, cutV_hi]
    by_cases c : j = vN v
    · rw [if_pos c, if_pos c, if_pos c]
      by_cases q : d = e
      · rw [if_pos ⟨c, q⟩, if_pos ⟨c, q⟩, add_sub_cR, q]
      · rw [if_neg (by omega), if_neg (by omega), if_neg q]
    · rw [if_neg (by omega), if_neg (by omega), if_neg c, if_neg c]
def dspI (v : SpV) (k e : Nat) (t : Int32) (σ : Sg) (r : Int32) (σ1 : Sg) : Prop := r = vX v ∧ isZ (σ1 370) (cutV v k e t) ∧ ∀ q, q ≠ 370 → σ1 q = σ q
def oI5 : Option Nat → Int32
  | none => -5
  | some k => nI k
theorem oI5_nn {p : Nat → Bool} {lt : Nat → Nat → Bool} {k : Nat} {x : Int32} (hx : x = oI5 (bestO p lt k)) (h : ¬ x < 0) : ∃ j, j < k ∧ bestO p lt k = some j ∧ x = nI j := by
  cases e : bestO p lt k with
  | none =>
    rw [e] at hx
    rw [hx] at h
    exact absurd (show (-5 : Int32) < 0 from by decide) h
  | some j =>
    rw [e] at hx
    exact ⟨j, bestO_lt e, rfl, hx⟩
theorem oI5_lt {p : Nat → Bool} {lt : Nat → Nat → Bool} {k : Nat} {x : Int32} (hk : k ≤ 16) (hx : x = oI5 (bestO p lt k)) (h : x < 0) : bestO p lt k = none := by
  cases e : bestO p lt k with
  | none => rfl
  | some j =>
    have hj := bestO_lt e
    rw [e] at hx
    rw [show x = nI j from hx] at h
    exact absurd h (nI_pos (by omega))
def baI (v : SpV) (σ : Sg) (x : Int32) (σ1 : Sg) : Prop := x = oI5 (grV v) ∧ fhF σ σ1
theorem fhF_kr {σ σ1 : Sg} (h : fhF σ σ1) : keepRf σ σ1 := ⟨fun q hq => h q (by omega) (by omega), fun i _ _ _ => by rw [h 369 (by omega) (by omega)]⟩
theorem lgd2 (f : Nat → Int32) : lgd f 2 = if f (if f 0 < f 1 then 1 else 0) < f 2 then 2 else (if f 0 < f 1 then 1 else 0) := rfl
theorem brD_0 {v : SpV} {k : Nat} (h1 : ¬ szG (vLo v) (vHi v) k 0 < szG (vLo v) (vHi v) k 1) (h2 : ¬ szG (vLo v) (vHi v) k 0 < szG (vLo v) (vHi v) k 2) : brD v k = 0 := by rw [brD, lgd2, if_neg h1, if_neg h2]
theorem brD_1 {v : SpV} {k : Nat} (h1 : szG (vLo v) (vHi v) k 0 < szG (vLo v) (vHi v) k 1) (h2 : ¬ szG (vLo v) (vHi v) k 1 < szG (vLo v) (vHi v) k 2) : brD v k = 1 := by rw [brD, lgd2, if_pos h1, if_neg h2]
theorem brD_20 {v : SpV} {k : Nat} (h1 : ¬ szG (vLo v) (vHi v) k 0 < szG (vLo v) (vHi v) k 1) (h2 : szG (vLo v) (vHi v) k 0 < szG (vLo v) (vHi v) k 2) : brD v k = 2 := by rw [brD, lgd2, if_neg h1, if_pos h2]
theorem brD_21 {v : SpV} {k : Nat} (h1 : szG (vLo v) (vHi v) k 0 < szG (vLo v) (vHi v) k 1) (h2 : szG (vLo v) (vHi v) k 1 < szG (vLo v) (vHi v) k 2) : brD v k = 2 := by rw [brD, lgd2, if_pos h1, if_pos h2]
def whA (v : SpV) : Int32 := match grV v with
  | none => -5
  | some k => if szG (vLo v) (vHi v) k (brD v k) = 1 then -4 else if vN v = 16 then -3 else 0
theorem wh_some {v : SpV} {k : Nat} (h : grV v = some k) : whA v = if szG (vLo v) (vHi v) k (brD v k) = 1 then -4 else if vN v = 16 then -3 else 0 := by
  unfold whA
  rw [h]
theorem wh_none {v : SpV} (h : grV v = none) : whA v = -5 := by
  unfold whA
  rw [h]
theorem sz_1 {v : SpV} (hg : gdV v) {k d : Nat} (hk : k < vN v) (hd : d < 3) : (1 < szG (vLo v) (vHi v) k d) = ¬ szG (vLo v) (vHi v) k d = 1 := by
  obtain ⟨s, h1, h2, e⟩ := gd_sz hg hk hd
  rw [e]
  refine propext ⟨fun q q2 => ?_, fun q => ?_⟩
  · rw [q2] at q
    exact absurd q (by decide)
  · have : ¬ s = 1 := fun z => q (by rw [z]; rfl)
    exact nI_lt (a := 1) (by omega) (by omega)
theorem wh_br {v : SpV} (hg : gdV v) : (whA v < 0 ∧ ¬ whA v = 0 ∧ brO v = none ∧ brA v = whA v) ∨ (whA v = 0 ∧ ∃ k, k < vN v ∧ ¬ vN v = 16 ∧ grV v = some k ∧ brA v = vX v ∧ brO v = some (brV v k) ∧ 1 < szG (vLo v) (vHi v) k (brD v k)) := by
  cases e : grV v with
  | none =>
    rw [wh_none e]
    exact Or.inl ⟨by decide, by decide, (br_none e).2, (br_none e).1⟩
  | some k =>
    have hk : k < vN v := bestO_lt e
    have h1 := sz_1 hg hk (brD_lt v k)
    by_cases c : szG (vLo v) (vHi v) k (brD v k) = 1
    · rw [wh_some e, if_pos c]
      have h2 : ¬ 1 < szG (vLo v) (vHi v) k (brD v k) := by rw [h1]; exact fun q => q c
      exact Or.inl ⟨by decide, by decide, (br_one e h2).2, (br_one e h2).1⟩
    · have h2 : 1 < szG (vLo v) (vHi v) k (brD v k) := by rw [h1]; exact c
      by_cases d : vN v = 16
      · rw [wh_some e, if_neg c, if_pos d]
        exact Or.inl ⟨by decide, by decide, (br_full e h2 d).2, (br_full e h2 d).1⟩
      · rw [wh_some e, if_neg c, if_neg d]
        exact Or.inr ⟨rfl, k, hk, d, rfl, (br_yes e h2 d).1, (br_yes e h2 d).2, h2⟩
theorem okMd_tr {σ σ1 σ2 : Sg} {o : Int32 × StV} {r : Int32} (hk : keepLw σ σ1) (h : okMd σ1 o r σ2) : okMd σ o r σ2 := ⟨h.1, h.2.1, keepLw_tr hk h.2.2⟩
/-! turning -/
def tqV (v : SpV) (k : Nat) : SpV := (vN v, vX v, vSp v, vRu v, vNu v, (fun j d => if j < k then vLo (qtV v) j d else vLo v j d), (fun j d => if j < k then vHi (qtV v) j d else vHi v j d))
theorem tqV_lo (v : SpV) (k j d : Nat) : vLo (tqV v k) j d = if j < k then vLo (qtV v) j d else vLo v j d := rfl
theorem tqV_hi (v : SpV) (k j d : Nat) : vHi (tqV v k) j d = if j < k then vHi (qtV v) j d else vHi v j d := rfl
theorem tq_0 (v : SpV) : bxZ v (tqV v 0) := ⟨rfl, rfl, rfl, rfl, fun _ _ => rfl, fun j hj d hd => by rw [tqV_lo, tqV_hi, if_neg (by omega), if_neg (by omega)]; exact ⟨rfl, rfl⟩⟩
theorem tq_n (v : SpV) : bxZ (tqV v (vN v)) (qtV v) := ⟨rfl, rfl, rfl, rfl, fun _ _ => rfl, fun j hj d hd => by
  have hj2 : j < vN v := hj
  rw [tqV_lo, tqV_hi, if_pos hj2, if_pos hj2]
  exact ⟨rfl, rfl⟩⟩
theorem ring32 (a b : Int32) : 32 - b + (b - a) = 32 - a := by
  rw [Int32.sub_eq_add_neg, Int32.sub_eq_add_neg, Int32.sub_eq_add_neg, Int32.add_assoc, ← Int32.add_assoc (-b), Int32.add_comm (-b) b, ← Int32.sub_eq_add_neg b b, Int32.sub_self, Int32.zero_add]
theorem tq_s {σ : Sg} {v : SpV} {k : Nat} (hz : isZ (σ 370) (tqV v k)) (hk : k < vN v) : ∀ (σ1 σ2 σ3 σ4 : Sg), isZ (σ1 370) (setL (tqV v k) k 0 (32 - vHi (tqV v k) k 1)) → isZ (σ2 370) (setSz (setL (tqV v k) k 0 (32 - vHi (tqV v k) k 1)) k 0 (szG (vLo (setL (tqV v k) k 0 (32 - vHi (tqV v k) k 1))) (vHi (setL (tqV v k) k 0 (32 - vHi (tqV v k) k 1))) k 1)) → isZ (σ4 370) (setSz (setL (setSz (setL (tqV v k) k 0 (32 - vHi (tqV v k) k 1)) k 0 (szG (vLo (setL (tqV v k) k 0 (32 - vHi (tqV v k) k 1))) (vHi (setL (tqV v k) k 0 (32 - vHi (tqV v k) k 1))) k 1)) k 1 (vLo (tqV v k) k 0)) k 1 (szG (vLo (tqV v k)) (vHi (tqV v k)) k 0)) → isZ (σ4 370) (tqV v (k + 1)) := by
  intro σ1 σ2 σ3 σ4 _ _ h
  refine isZ_c h ⟨rfl, rfl, rfl, rfl, fun _ _ => rfl, fun j hj d hd => ?_⟩
  simp only [setSz_lo, setSz_hi, setL_lo, setL_hi, tqV_lo, tqV_hi, szG]
  by_cases e : j = k
  · subst e
    rcases (show d = 0 ∨ d = 1 ∨ d = 2 by omega) with rfl | rfl | rfl
    · simp [qtV_lo, qtV_hi, ring32]
    · simp [qtV_lo, qtV_hi, add_sub_cR]
    · simp [qtV_lo, qtV_hi]
  · have h1 : ¬ (j = k ∧ d = 0) := by omega
    have h2 : ¬ (j = k ∧ d = 1) := by omega
    simp only [if_neg h1, if_neg h2]
    by_cases c : j < k
    · rw [if_pos c, if_pos (show j < k + 1 by omega), if_pos c, if_pos (show j < k + 1 by omega)]
      exact ⟨rfl, rfl⟩
    · rw [if_neg c, if_neg (show ¬ j < k + 1 by omega), if_neg c, if_neg (show ¬ j < k + 1 by omega)]
      exact ⟨rfl, rfl⟩
def bf9 (v : SpV) (σ : Sg) (k : Nat) (τ : Sg) : Prop := (∀ j, j < k → τ 379 j = HV v j) ∧ ∀ q, q ≠ 379 → τ q = σ q
theorem bf9_s {v : SpV} {σ τ : Sg} {k : Nat} {x : Int32} (h : bf9 v σ k τ) (hx : x = HV v k) : bf9 v σ (k + 1) (upS τ 379 k x) := by
  refine ⟨fun j hj => ?_, fun q hq => by rw [up_ne hq]; exact h.2 q hq⟩
  rw [up_get]
  by_cases e : j = k
  · subst e
    rw [if_pos ⟨rfl, rfl⟩, hx]
  · rw [if_neg (by omega)]
    exact h.1 j (by omega)
def tnA (v : SpV) : Nat → Int32 := sumI (fun k => onI (HV v k &&& (HV (qtV v) k ^^^ -1)))
def peTn (v : SpV) : Prop := ∀ k, k < vN v → onI (HV v k &&& (HV (qtV v) k ^^^ -1)) = bcI (HV v k &&& (HV (qtV v) k ^^^ -1))
theorem sumI_cR {f g : Nat → Int32} : ∀ {n : Nat}, (∀ k, k < n → f k = g k) → sumI f n = sumI g n
  | 0, _ => rfl
  | n + 1, h => by rw [sumI, sumI, sumI_cR (fun k hk => h k (Nat.lt_succ_of_lt hk)), h n (Nat.lt_succ_self n)]
/-- from a state with z changed and the scratch -/
theorem push_z2 {σ σ1 σ2 : Sg} {S : StV} {w : SpV} {r : Int32} {o : Int32 × StV} (h : isMd σ S) (hp : phI S σ σ1) (hk : ∀ q, q < 369 ∨ (371 < q ∧ q < 375) → σ2 q = σ1 q) (hk9 : ∀ i, i ≠ 12 → i ≠ 15 → i ≠ 16 → σ2 369 i = σ1 369 i) (hw : isZ (σ2 370) w) (e : o = (r, pushS S w)) : okMd σ o r σ2 := by
  have h1 : isMd σ1 (pushS S (qC S)) := push_md h hp (by rw [phI_z hp]; exact h.1)
  refine okMd_of e ⟨hw, ?_, ?_, ?_⟩ (fun q hq => (hk q (by omega)).trans (phI_keepL hp q hq))
  · have := h1.2.1
    show hsM σ2 (psN S) (psH S)
    unfold hsM
    rw [hk9 3 (by omega) (by omega) (by omega), hk 372 (by omega)]
    exact this
  · have := h1.2.2.1
    show snM σ2 (qP S)
    unfold snM
    rw [hk9 5 (by omega) (by omega) (by omega), hk 373 (by omega)]
    exact this
  · have := h1.2.2.2
    show txM σ2 (qL S) (qT S)
    unfold txM
    rw [hk9 7 (by omega) (by omega) (by omega), hk 374 (by omega)]
    exact this
theorem type_md {σ : Sg} {S : StV} {x : Int32} (h : isMd σ S) (hL : qL S < 80) : okMd σ (oType S x) (nI (qL S + 1)) (upS (upS σ 374 (qL S) x) 369 7 (nI (qL S + 1))) := by
  obtain ⟨h1, h2, h3, h4⟩ := h
  have e3 : ∀ q, q ≠ 374 → q ≠ 369 → upS (upS σ 374 (qL S) x) 369 7 (nI (qL S + 1)) q = σ q := fun q a b => by rw [up_ne b, up_ne a]
  have e9 : ∀ i, i ≠ 7 → upS (upS σ 374 (qL S) x) 369 7 (nI (qL S + 1)) 369 i = σ 369 i := fun i hi => by rw [up_get, if_neg (by omega), up_ne (by omega)]
  refine okMd_of (S' := (qC S, qN S, qH S, qP S, qL S + 1, fun i => if i = qL S then x else qT S i)) (by rw [oType, if_pos hL]) ⟨?_, ?_, ?_, ?_⟩ (fun q hq2 => e3 q (by omega) (by omega))
  · rw [e3 370 (by omega) (by omega)]
    exact h1
  · show hsM _ (qN S) (qH S)
    unfold hsM
    rw [e9 3 (by omega), e3 372 (by omega) (by omega)]
    exact h2
  · show snM _ (qP S)
    unfold snM
    rw [e9 5 (by omega), e3 373 (by omega) (by omega)]
    exact h3
  · refine ⟨by rw [up_get, if_pos ⟨rfl, rfl⟩], by show qL S + 1 ≤ 80; omega, fun i hi => ?_⟩
    have hi2 : i < qL S + 1 := hi
    show _ = if i = qL S then x else qT S i
    rw [up_ne (by omega), up_get]
    by_cases e : i = qL S
    · rw [if_pos ⟨rfl, e⟩, if_pos e]
    · rw [if_neg (by omega), if_neg e]
      exact h4.2.2 i (by omega)
theorem clear_md {σ : Sg} {S : StV} (h : isMd σ S) : okMd σ (oClear S) (nI (qL S)) (upS σ 369 7 0) := by
  obtain ⟨h1, h2, h3, h4⟩ := h
  have e3 : ∀ q, q ≠ 369 → upS σ 369 7 0 q = σ q := fun q b => by rw [up_ne b]
  have e9 : ∀ i, i ≠ 7 → upS σ 369 7 0 369 i = σ 369 i := fun i hi => by rw [up_get, if_neg (by omega)]
  refine okMd_of (S' := (qC S, qN S, qH S, qP S, 0, qT S)) rfl ⟨?_, ?_, ?_, ?_⟩ (fun q hq2 => e3 q (by omega))
  · rw [e3 370 (by omega)]
    exact h1
  · show hsM _ (qN S) (qH S)
    unfold hsM
    rw [e9 3 (by omega), e3 372 (by omega)]
    exact h2
  · show snM _ (qP S)
    unfold snM
    rw [e9 5 (by omega), e3 373 (by omega)]
    exact h3
  · exact ⟨by rw [up_get, if_pos ⟨rfl, rfl⟩]; rfl, Nat.zero_le _, fun i hi => absurd hi (Nat.not_lt_zero i)⟩
