/-! REFERENCE: reading the text -/
def sgT (t : Nat → Int32) (L i : Nat) : Int32 := if i < L then t i else 0
/-- what reading leaves: all but the place, the wrong, the given -/
def keepRp (σ σ1 : Sg) : Prop := (∀ q, q ≠ 369 → q ≠ 380 → σ1 q = σ q) ∧ ∀ i, i ≠ 15 → i ≠ 16 → σ1 369 i = σ 369 i
theorem keepRp_rfl (σ : Sg) : keepRp σ σ := ⟨fun _ _ _ => rfl, fun _ _ _ => rfl⟩
theorem keepRp_tr {σ τ υ : Sg} (h1 : keepRp σ τ) (h2 : keepRp τ υ) : keepRp σ υ := ⟨fun q a b => (h2.1 q a b).trans (h1.1 q a b), fun i a b => (h2.2 i a b).trans (h1.2 i a b)⟩
theorem keepRp_f {σ : Sg} {i : Nat} {x : Int32} (hi : i = 15 ∨ i = 16) : keepRp σ (upS σ 369 i x) := ⟨fun p a _ => up_ne a, fun j a b => by rw [up_get, if_neg (by omega)]⟩
theorem keepRp_g {σ : Sg} {i : Nat} {x : Int32} : keepRp σ (upS σ 380 i x) := ⟨fun p _ b => up_ne b, fun j a b => by rw [up_ne (by omega)]⟩
theorem keepRp_kr {σ σ1 : Sg} (h : keepRp σ σ1) : keepRf σ σ1 := ⟨fun q hq => h.1 q (by omega) (by omega), fun i _ b c => h.2 i b c⟩
/-- the reader stands at place i; it is wrong or not; what it leaves -/
def rpI (σ : Sg) (L : Nat) (t : Nat → Int32) (τ : Sg) (i : Nat) (w : Bool) : Prop := keepRp σ τ ∧ txM τ L t ∧ τ 369 15 = nI i ∧ τ 369 16 = bI w ∧ i ≤ L
theorem txM_kr {σ τ : Sg} {L : Nat} {t : Nat → Int32} (h : txM σ L t) (hk : keepRf σ τ) : txM τ L t := by
  unfold txM
  rw [hk.2 7 (by omega) (by omega) (by omega), hk.1 374 (by omega)]
  exact h
def tkT (σ : Sg) (i : Nat) (w b : Bool) (σ1 : Sg) : Prop := σ1 = upS (upS σ 369 16 (bI (w || !b))) 369 15 (nI (if (w || !b) = true then i else i + 1))
theorem rp_take {σ τ σ1 : Sg} {L i : Nat} {t : Nat → Int32} {w b : Bool} (h : rpI σ L t τ i w) (h1 : tkT τ i w b σ1) (hi : (w || !b) = false → i < L) : rpI σ L t σ1 (if (w || !b) = true then i else i + 1) (w || !b) := by
  obtain ⟨h2, h3, h4, h5, h6⟩ := h
  have k : keepRp τ σ1 := by
    rw [h1]
    exact keepRp_tr (keepRp_f (Or.inr rfl)) (keepRp_f (Or.inl rfl))
  refine ⟨keepRp_tr h2 k, txM_kr h3 (keepRp_kr k), by rw [h1, up_get, if_pos ⟨rfl, rfl⟩], by rw [h1, up_get, if_neg (by omega), up_get, if_pos ⟨rfl, rfl⟩], ?_⟩
  cases c : (w || !b) with
  | true => rw [if_pos rfl]; exact h6
  | false =>
    have := hi c
    rw [if_neg (by decide)]
    omega
theorem sub48 (x : Int32) : (x - 48).toInt = if x.toInt - 48 < -2147483648 then x.toInt - 48 + 4294967296 else x.toInt - 48 := by
  have h1 := Int32.le_toInt x
  have h2 := Int32.toInt_lt x
  rw [Int32.toInt_sub, show (48 : Int32).toInt = 48 from by decide, Int.bmod_def]
  omega
theorem dgt_in (x : Int32) : inW (x - 48) 0 9 = dgtB x := by
  have h1 := Int32.le_toInt x
  have h2 := Int32.toInt_lt x
  have e := sub48 x
  rw [Bool.eq_iff_iff]
  unfold inW dgtB
  simp only [Bool.and_eq_true, Bool.not_eq_true', decide_eq_false_iff_not, Int32.lt_iff_toInt_lt, show (0 : Int32).toInt = 0 from by decide, show (9 : Int32).toInt = 9 from by decide, show (48 : Int32).toInt = 48 from by decide, show (57 : Int32).toInt = 57 from by decide]
  omega
/-- a digit is a number below ten -/
theorem dgt_nat {x : Int32} (h : dgtB x = true) : ∃ k, k ≤ 9 ∧ x = nI (48 + k) ∧ x - 48 = nI k := by
  unfold dgtB at h
  simp only [Bool.and_eq_true, Bool.not_eq_true', decide_eq_false_iff_not, Int32.lt_iff_toInt_lt, show (48 : Int32).toInt = 48 from by decide, show (57 : Int32).toInt = 57 from by decide] at h
  have e : x = nI (48 + (x.toInt - 48).toNat) := Int32.toInt_inj.mp (by rw [nI_toInt (by omega)]; omega)
  refine ⟨(x.toInt - 48).toNat, by omega, e, ?_⟩
  rw [e, show (48 : Int32) = nI 48 from rfl, nI_subR (by omega), Nat.add_sub_cancel_left, ← e]
theorem dgt_0 : dgtB 0 = false := by decide
/-- the first sign of a number -/
theorem num_bad {t : Nat → Int32} {L i pl c : Nat} {vs : Nat → Int32} (hi : i ≤ L) (h : rdS t i = some (pl, -1, c, vs)) (hb : inW (sgT t L i - 48) (if 3 ≤ pl then 1 else 0) 9 = false) : rdF t L = nI i := by
  by_cases q : i < L
  · refine rdF_at q h ?_
    unfold sgT at hb
    rw [if_pos q] at hb
    unfold rdN
    by_cases d : dgtB (t i) = true
    · rw [if_pos d, if_pos]
      obtain ⟨k, h1, h2, h3⟩ := dgt_nat d
      rw [h3] at hb ⊢
      by_cases p : 3 ≤ pl
      · rw [if_pos p] at hb
        have k0 : k = 0 := by
          by_cases z : k = 0
          · exact z
          · unfold inW at hb
            rw [decide_eq_false (show ¬ nI k < 1 from nI_nlt (a := k) (b := 1) (by omega) (by omega)), decide_eq_false (show ¬ (9 : Int32) < nI k from nI_nlt (a := 9) (b := k) h1 (by omega))] at hb
            cases hb
        subst k0
        show wdG (-1) (nI 0) (decide (3 ≤ pl)) = -2
        rw [decide_eq_true p]
        decide
      · rw [if_neg p] at hb
        unfold inW at hb
        rw [decide_eq_false (show ¬ nI k < 0 from nI_pos (by omega)), decide_eq_false (show ¬ (9 : Int32) < nI k from nI_nlt (a := 9) (b := k) h1 (by omega))] at hb
        cases hb
    · rw [if_neg d, if_pos rfl]
  · have e : i = L := by omega
    subst e
    rw [rdF_end h]
    rfl
theorem num_ok {t : Nat → Int32} {L i pl c : Nat} {vs : Nat → Int32} (hi : i ≤ L) (h : rdS t i = some (pl, -1, c, vs)) (hb : inW (sgT t L i - 48) (if 3 ≤ pl then 1 else 0) 9 = true) : i < L ∧ ∃ k, k ≤ 9 ∧ (3 ≤ pl → 1 ≤ k) ∧ sgT t L i - 48 = nI k ∧ rdS t (i + 1) = some (pl, nI k, c, vs) := by
  have hd : dgtB (sgT t L i) = true := by
    rw [← dgt_in]
    unfold inW at hb ⊢
    simp only [Bool.and_eq_true, Bool.not_eq_true', decide_eq_false_iff_not] at hb ⊢
    refine ⟨fun q => hb.1 ?_, hb.2⟩
    split
    · exact Int32.lt_trans q (by decide)
    · exact q
  have q : i < L := by
    by_cases q : i < L
    · exact q
    · unfold sgT at hd
      rw [if_neg q] at hd
      exact absurd hd (by decide)
  have es : sgT t L i = t i := by
    unfold sgT
    exact if_pos q
  rw [es] at hb hd ⊢
  obtain ⟨k, h1, h2, h3⟩ := dgt_nat hd
  have hk : 3 ≤ pl → 1 ≤ k := fun p => by
    by_cases z : k = 0
    · rw [h3, if_pos p, z] at hb
      exact absurd hb (by decide)
    · omega
  refine ⟨q, k, h1, hk, h3, ?_⟩
  rw [rdS, h]
  show rdN (pl, -1, c, vs) (t i) = _
  unfold rdN
  have e : wdG (-1) (t i - 48) (decide (3 ≤ pl)) = nI k := by
    rw [h3]
    unfold wdG
    rw [if_pos rfl]
    by_cases p : 3 ≤ pl
    · have := hk p
      rw [decide_eq_true p, decide_eq_false (fun z => by
        have := (nI_eq (a := k) (b := 0) (by omega) (by omega)).mp z
        omega)]
      rfl
    · rw [decide_eq_false p]
      rfl
  rw [if_pos hd]
  show (if wdG (-1) (t i - 48) (decide (3 ≤ pl)) = -2 then none else some (pl, wdG (-1) (t i - 48) (decide (3 ≤ pl)), c, vs)) = _
  rw [e, if_neg (fun z => by
    have h4 := congrArg Int32.toInt z
    rw [nI_toInt (by omega), show (-2 : Int32).toInt = -2 from by decide] at h4
    omega)]
theorem ten_r (d x : Int32) : 10 * d + x - 48 = d * 10 + (x - 48) := by
  rw [Int32.mul_comm 10 d, Int32.sub_eq_add_neg, Int32.sub_eq_add_neg, Int32.add_assoc]
/-- no digit goes on here -/
def noGo (t : Nat → Int32) (L i pl : Nat) (r : Int32) : Prop := i < L → dgtB (t i) = true → wdG r (t i - 48) (decide (3 ≤ pl)) = -2
theorem num_stop0 {t : Nat → Int32} {L i pl d : Nat} (h : ¬ 0 < nI d) (hd : d < 1000) : noGo t L i pl (nI d) := fun _ _ => by
  have e : d = 0 := by
    by_cases z : d = 0
    · exact z
    · exact absurd (nI_lt (a := 0) (b := d) (by omega) (by omega)) h
  subst e
  unfold wdG
  rw [if_neg (by decide), if_pos (by decide)]
theorem num_stopd {t : Nat → Int32} {L i pl : Nat} {r : Int32} (h : inW (sgT t L i) 48 57 = false) : noGo t L i pl r := fun hi hd => by
  unfold sgT at h
  rw [if_pos hi] at h
  unfold inW at h
  unfold dgtB at hd
  rw [hd] at h
  cases h
theorem num_stopm {t : Nat → Int32} {L i pl d : Nat} (h0 : 0 < nI d) (hd : d < 1000) (h : (if 3 ≤ pl then (12 : Int32) else 31) < 10 * nI d + sgT t L i - 48) : noGo t L i pl (nI d) := fun hi hd2 => by
  have hz : ¬ nI d = 0 := fun q => by rw [q] at h0; exact absurd h0 (by decide)
  unfold sgT at h
  rw [if_pos hi, ten_r] at h
  unfold wdG
  rw [if_neg (nI_nm1 (by omega)), if_neg hz]
  by_cases p : 3 ≤ pl
  · rw [if_pos p] at h
    rw [decide_eq_true p, if_pos rfl, if_pos h]
  · rw [if_neg p] at h
    rw [decide_eq_false p]
    exact if_pos h
theorem num_step {t : Nat → Int32} {L i pl c d : Nat} {vs : Nat → Int32} (h0 : 0 < nI d) (hd : d ≤ 31) (hs : inW (sgT t L i) 48 57 = true) (h : ¬ (if 3 ≤ pl then (12 : Int32) else 31) < 10 * nI d + sgT t L i - 48) (hr : rdS t i = some (pl, nI d, c, vs)) : i < L ∧ ∃ e, e ≤ 31 ∧ 10 * nI d + sgT t L i - 48 = nI e ∧ rdS t (i + 1) = some (pl, nI e, c, vs) := by
  have hdg : dgtB (sgT t L i) = true := hs
  have q : i < L := by
    by_cases q : i < L
    · exact q
    · unfold sgT at hdg
      rw [if_neg q] at hdg
      exact absurd hdg (by decide)
  have es : sgT t L i = t i := by
    unfold sgT
    exact if_pos q
  rw [es] at hdg h ⊢
  obtain ⟨k, h1, h2, h3⟩ := dgt_nat hdg
  have hz : ¬ nI d = 0 := fun q => by rw [q] at h0; exact absurd h0 (by decide)
  have ev : 10 * nI d + t i - 48 = nI (d * 10 + k) := by
    rw [ten_r, h3, show (10 : Int32) = nI 10 from rfl, nI_mulR, nI_add]
  rw [ev] at h ⊢
  have hle : d * 10 + k ≤ 31 := by
    by_cases p : 3 ≤ pl
    · rw [if_pos p] at h
      have := mt (nI_ltI (a := 12) (b := d * 10 + k) (by omega) (by omega)).mpr h
      omega
    · rw [if_neg p] at h
      have := mt (nI_ltI (a := 31) (b := d * 10 + k) (by omega) (by omega)).mpr h
      omega
  refine ⟨q, d * 10 + k, hle, rfl, ?_⟩
  rw [rdS, hr]
  show rdN (pl, nI d, c, vs) (t i) = _
  have e : wdG (nI d) (t i - 48) (decide (3 ≤ pl)) = nI (d * 10 + k) := by
    rw [h3]
    unfold wdG
    rw [if_neg (nI_nm1 (by omega)), if_neg hz, show (10 : Int32) = nI 10 from rfl, nI_mulR, nI_add, if_neg]
    intro z
    apply h
    by_cases p : 3 ≤ pl
    · rw [decide_eq_true p, if_pos rfl] at z
      rw [if_pos p]
      exact z
    · rw [decide_eq_false p] at z
      rw [if_neg p]
      exact z
  unfold rdN
  rw [if_pos hdg]
  show (if wdG (nI d) (t i - 48) (decide (3 ≤ pl)) = -2 then none else some (pl, wdG (nI d) (t i - 48) (decide (3 ≤ pl)), c, vs)) = _
  rw [e, if_neg (fun z => by
    have h4 := congrArg Int32.toInt z
    rw [nI_toInt (by omega), show (-2 : Int32).toInt = -2 from by decide] at h4
    omega)]
/-- a number was read, or it is wrong -/
def rnI (σ : Sg) (L : Nat) (t : Nat → Int32) (i pl c : Nat) (vs : Nat → Int32) (r : Int32) (σ1 : Sg) : Prop := (rpI σ L t σ1 i true ∧ rdF t L = nI i) ∨ ∃ j d, i < j ∧ d ≤ 31 ∧ r = nI d ∧ rpI σ L t σ1 j false ∧ rdS t j = some (pl, nI d, c, vs) ∧ noGo t L j pl (nI d)
theorem rp_inc {σ τ : Sg} {L i : Nat} {t : Nat → Int32} (h : rpI σ L t τ i false) (hi : i < L) : rpI σ L t (upS τ 369 15 (nI (i + 1))) (i + 1) false := by
  obtain ⟨h2, h3, h4, h5, h6⟩ := h
  have k : keepRp τ (upS τ 369 15 (nI (i + 1))) := keepRp_f (Or.inl rfl)
  exact ⟨keepRp_tr h2 k, txM_kr h3 (keepRp_kr k), by rw [up_get, if_pos ⟨rfl, rfl⟩], by rw [up_get, if_neg (by omega)]; exact h5, by omega⟩
