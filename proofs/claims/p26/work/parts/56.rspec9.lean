/-! REFERENCE: reading a box -/
/-- wrong at i, for good -/
def rwW (σ : Sg) (L : Nat) (t : Nat → Int32) (τ : Sg) : Prop := ∃ i, rpI σ L t τ i true ∧ rdF t L = nI i
/-- number k is to be read -/
def rbR (σ : Sg) (L : Nat) (t : Nat → Int32) (j c : Nat) (vs : Nat → Int32) (k : Nat) (τ : Sg) : Prop := ∃ i ws, j ≤ i ∧ rpI σ L t τ i false ∧ rdS t i = some (k, -1, c + k, ws) ∧ (∀ m, m < k → τ 380 m = ws (c + m)) ∧ ∀ m, m < c → ws m = vs m
/-- number k was read -/
def rbN (σ : Sg) (L : Nat) (t : Nat → Int32) (j c : Nat) (vs : Nat → Int32) (k : Nat) (τ : Sg) : Prop := ∃ i d ws, j < i ∧ d ≤ 31 ∧ rpI σ L t τ i false ∧ rdS t i = some (k, nI d, c + k, ws) ∧ noGo t L i k (nI d) ∧ (∀ m, m < k → τ 380 m = ws (c + m)) ∧ τ 380 k = nI d ∧ ∀ m, m < c → ws m = vs m
/-- at the start of round k -/
def rbS (σ : Sg) (L : Nat) (t : Nat → Int32) (j c : Nat) (vs : Nat → Int32) (k : Nat) (τ : Sg) : Prop := (k = 0 ∧ rbR σ L t j c vs 0 τ) ∨ (0 < k ∧ rbN σ L t j c vs (k - 1) τ)
def rbI (σ : Sg) (L : Nat) (t : Nat → Int32) (j c : Nat) (vs : Nat → Int32) (σ1 : Sg) : Prop := rwW σ L t σ1 ∨ rbN σ L t j c vs 5 σ1
def sepK (k : Nat) : Int32 := if k = 3 then 58 else 44
theorem sep_B {k : Nat} (h0 : 0 < k) (h6 : k < 6) : sgB (k - 1) = sepK k := by
  unfold sgB sepK
  by_cases c : k = 3
  · rw [if_pos c, if_pos (by omega)]
  · rw [if_neg c, if_neg (by omega), if_neg (by omega)]
theorem sep_nd (k : Nat) : dgtB (sepK k) = false ∧ ¬ sepK k = 0 := by
  unfold sepK
  split
  · exact ⟨by decide, by decide⟩
  · exact ⟨by decide, by decide⟩
theorem sep_bad {t : Nat → Int32} {L i k c d : Nat} {x : Int32} {ws : Nat → Int32} (hi : i ≤ L) (hd : d ≤ 31) (h : rdS t i = some (k, nI d, c, ws)) (hg : noGo t L i k (nI d)) (hx : sgB k = x) (h5 : i = L → k + 1 < 6) (hb : ¬ sgT t L i = x) : rdF t L = nI i := by
  by_cases q : i < L
  · refine rdF_at q h ?_
    unfold sgT at hb
    rw [if_pos q] at hb
    unfold rdN
    by_cases p : dgtB (t i) = true
    · rw [if_pos p]
      exact if_pos (hg q p)
    · rw [if_neg p]
      show (if nI d = -1 then none else if t i = sgB k then _ else none) = none
      rw [if_neg (nI_nm1 (by omega)), if_neg (by rw [hx]; exact hb)]
  · have e : i = L := by omega
    subst e
    rw [rdF_end h]
    unfold rdE
    rw [if_neg (nI_nm1 (by omega))]
    exact if_pos (h5 rfl)
theorem sep_ok {t : Nat → Int32} {L i k c d : Nat} {x : Int32} {ws : Nat → Int32} (hd : d ≤ 31) (h : rdS t i = some (k, nI d, c, ws)) (hx : sgB k = x) (hn : dgtB x = false) (h0 : ¬ x = 0) (hb : sgT t L i = x) : i < L ∧ rdS t (i + 1) = some (if k + 1 < 6 then k + 1 else 0, -1, c + 1, upd ws c (nI d)) := by
  have q : i < L := by
    by_cases q : i < L
    · exact q
    · unfold sgT at hb
      rw [if_neg q] at hb
      exact absurd hb.symm h0
  unfold sgT at hb
  rw [if_pos q] at hb
  refine ⟨q, ?_⟩
  rw [rdS, h]
  show rdN (k, nI d, c, ws) (t i) = _
  unfold rdN
  rw [hb, if_neg (by rw [hn]; decide)]
  show (if nI d = -1 then none else if x = sgB k then _ else none) = _
  rw [if_neg (nI_nm1 (by omega)), if_pos hx.symm]
theorem tk_380 {τ σ1 : Sg} {i : Nat} {w b : Bool} (h : tkT τ i w b σ1) : σ1 380 = τ 380 := by
  rw [h, up_ne (by omega), up_ne (by omega)]
theorem rw_tk {σ τ σ1 : Sg} {L i : Nat} {t : Nat → Int32} {b : Bool} (h : rpI σ L t τ i true) (hf : rdF t L = nI i) (h1 : tkT τ i true b σ1) : rwW σ L t σ1 := ⟨i, rp_take h h1 (fun z => by cases z), hf⟩
theorem rw_bad {σ τ σ1 : Sg} {L i : Nat} {t : Nat → Int32} (h : rpI σ L t τ i false) (hf : rdF t L = nI i) (h1 : tkT τ i false false σ1) : rwW σ L t σ1 := ⟨i, rp_take h h1 (fun z => by cases z), hf⟩
/-- a stored number shows nowhere but where it is given -/
theorem rp_g {σ τ : Sg} {L i : Nat} {t : Nat → Int32} {w : Bool} {k : Nat} {x : Int32} (h : rpI σ L t τ i w) : rpI σ L t (upS τ 380 k x) i w := by
  obtain ⟨h2, h3, h4, h5, h6⟩ := h
  have q : keepRp τ (upS τ 380 k x) := keepRp_g
  exact ⟨keepRp_tr h2 q, txM_kr h3 (keepRp_kr q), by rw [up_ne (by omega)]; exact h4, by rw [up_ne (by omega)]; exact h5, h6⟩
theorem rb_good {σ τ σ1 : Sg} {L j c k i d : Nat} {t vs ws : Nat → Int32} (h0 : 0 < k) (h6 : k < 6) (g1 : j < i) (g2 : d ≤ 31) (g3 : rpI σ L t τ i false) (g4 : rdS t i = some (k - 1, nI d, c + (k - 1), ws)) (g6 : ∀ m, m < k - 1 → τ 380 m = ws (c + m)) (g7 : τ 380 (k - 1) = nI d) (g8 : ∀ m, m < c → ws m = vs m) (hs : sgT t L i = sepK k) (h1 : tkT τ i false true σ1) : rbR σ L t j c vs k σ1 := by
  obtain ⟨u1, u2⟩ := sep_ok g2 g4 (sep_B h0 h6) (sep_nd k).1 (sep_nd k).2 hs
  have e9 : σ1 380 = τ 380 := tk_380 h1
  refine ⟨i + 1, upd ws (c + (k - 1)) (nI d), by omega, rp_take g3 h1 (fun _ => u1), ?_, fun m hm => ?_, fun m hm => ?_⟩
  · rw [u2, if_pos (by omega), Nat.sub_add_cancel (by omega), show c + (k - 1) + 1 = c + k by omega]
  · rw [e9]
    show _ = upd ws (c + (k - 1)) (nI d) (c + m)
    unfold upd
    by_cases z : m = k - 1
    · rw [if_pos (by omega), z, g7]
    · rw [if_neg (by omega)]
      exact g6 m (by omega)
  · unfold upd
    rw [if_neg (by omega)]
    exact g8 m hm
theorem rb_read {σ τ σ1 : Sg} {L j c k : Nat} {t vs : Nat → Int32} {r : Int32} {i : Nat} {ws : Nat → Int32} (g1 : j ≤ i) (g4 : ∀ m, m < k → τ 380 m = ws (c + m)) (g5 : ∀ m, m < c → ws m = vs m) (h : rnI σ L t i k (c + k) ws r σ1) (h1 : σ1 380 = τ 380) : rwW σ L t (upS σ1 380 k r) ∨ rbS σ L t j c vs (k + 1) (upS σ1 380 k r) := by
  rcases h with ⟨a1, a2⟩ | ⟨q, d, a1, a2, a3, a4, a5, a6⟩
  · exact Or.inl ⟨i, rp_g a1, a2⟩
  · refine Or.inr (Or.inr ⟨by omega, q, d, ws, by omega, a2, rp_g a4, a5, a6, fun m hm => ?_, ?_, g5⟩)
    · have hm2 : m < k := hm
      rw [up_get, if_neg (by omega), h1]
      exact g4 m hm2
    · show upS σ1 380 k r 380 k = nI d
      rw [up_get, if_pos ⟨rfl, rfl⟩, a3]
