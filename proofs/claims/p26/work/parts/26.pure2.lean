/-! the history: which space holds which state -/
def hOk (σ : Sg) (c : Nat) (pm : Nat → Nat) : Prop := σ 363 1 = nI c ∧ c ≤ 4 ∧ (∀ i, i < 4 → σ 364 i = nI (pm i) ∧ 3 ≤ pm i ∧ pm i < 7) ∧ ∀ i j, i < 4 → j < 4 → pm i = pm j → i = j
theorem hOk_cl {σ : Sg} {c : Nat} {pm : Nat → Nat} (h : hOk σ c pm) {i : Nat} (hi : i < 4) : (σ 364 i).toNatClampNeg = pm i := by
  have := h.2.2.1 i hi
  rw [this.1, nI_clamp (by omega)]
theorem hOk_eq {σ τ : Sg} {c : Nat} {pm : Nat → Nat} (h : hOk σ c pm) (h1 : τ 363 = σ 363) (h2 : τ 364 = σ 364) : hOk τ c pm := by
  unfold hOk
  rw [h1, h2]
  exact h
def drI (σ : Sg) (pm : Nat → Nat) (k : Nat) (τ : Sg) : Prop := (∀ i, i < 4 → τ 364 i = nI (if i < k then pm (i + 1) else pm i)) ∧ ∀ q, q ≠ 364 → τ q = σ q
theorem drI_cl {σ τ : Sg} {c k : Nat} {pm : Nat → Nat} (h0 : hOk σ c pm) (h : drI σ pm k τ) (hk : k + 1 < 4) : (τ 364 (k + 1)).toNatClampNeg = pm (k + 1) := by
  have e := h.1 (k + 1) hk
  rw [if_neg (by omega)] at e
  have := h0.2.2.1 (k + 1) hk
  rw [e, nI_clamp (by omega)]
theorem drI_step {σ τ : Sg} {k : Nat} {pm : Nat → Nat} (h : drI σ pm k τ) : drI σ pm (k + 1) (upS τ 364 k (nI (pm (k + 1)))) := by
  refine ⟨fun i hi => ?_, fun q hq => by rw [up_ne hq]; exact h.2 q hq⟩
  rw [up_get]
  by_cases e : i = k
  · subst e
    simp
  · have := h.1 i hi
    simp only [e, and_false, if_false]
    rw [this]
    by_cases e2 : i < k
    · rw [if_pos e2, if_pos (by omega)]
    · rw [if_neg e2, if_neg (by omega)]
theorem dr_end {σ τ : Sg} {c : Nat} {pm : Nat → Nat} (h0 : hOk σ c pm) (h : drI σ pm 3 τ) : hOk (upS (upS τ 364 3 (nI (pm 0))) 363 1 3) 3 (fun i => if i < 3 then pm (i + 1) else pm 0) ∧ ∀ q, q ≠ 363 → q ≠ 364 → upS (upS τ 364 3 (nI (pm 0))) 363 1 3 q = σ q := by
  refine ⟨⟨by simp [up_get]; rfl, by omega, fun i hi => ?_, fun i j hi hj e => ?_⟩, fun q a b => by rw [up_ne a, up_ne b]; exact h.2 q b⟩
  · rw [up_ne (by omega), up_get]
    by_cases e : i = 3
    · subst e
      have := h0.2.2.1 0 (by omega)
      simp [this.2.1, this.2.2]
    · have h1 := h.1 i hi
      have := h0.2.2.1 (i + 1) (by omega)
      simp only [e, and_false, if_false, show i < 3 by omega, if_true]
      rw [h1, if_pos (by omega)]
      exact ⟨rfl, this.2.1, this.2.2⟩
  · have inj := h0.2.2.2
    dsimp only at e
    by_cases a : i < 3 <;> by_cases b : j < 3
    · rw [if_pos a, if_pos b] at e
      have := inj _ _ (by omega) (by omega) e
      omega
    · rw [if_pos a, if_neg b] at e
      have := inj _ _ (by omega) (by omega) e
      omega
    · rw [if_neg a, if_pos b] at e
      have := inj _ _ (by omega) (by omega) e
      omega
    · omega
/-- a state is put behind the others -/
def rmJ (τ : Sg) (s n c : Nat) (pm : Nat → Nat) (σ1 : Sg) : Prop := hOk σ1 (c + 1) pm ∧ spC σ1 (pm c) τ s n ∧ ∀ q, q ≠ 363 → q ≠ iS (pm c) → outB (pm c) q → σ1 q = τ q
def rmI (σ : Sg) (s n c : Nat) (pm : Nat → Nat) (σ1 : Sg) : Prop := ∃ (pm' : Nat → Nat) (τ : Sg) (c' : Nat), hOk τ c' pm' ∧ (∀ q, q ≠ 363 → q ≠ 364 → τ q = σ q) ∧ ((c < 4 ∧ c' = c ∧ pm' = pm ∧ τ = σ) ∨ (c = 4 ∧ c' = 3 ∧ pm' = fun i => if i < 3 then pm (i + 1) else pm 0)) ∧ rmJ τ s n c' pm' σ1
theorem o363 {s : Nat} (hs : s < 7) : outB s 363 := by
  intro j hj
  have := bx_lt hs hj
  refine ⟨?_, ?_, ?_⟩
  · unfold iBo; omega
  · unfold iL; omega
  · unfold iH; omega
theorem o364 {s : Nat} (hs : s < 7) : outB s 364 := by
  intro j hj
  have := bx_lt hs hj
  refine ⟨?_, ?_, ?_⟩
  · unfold iBo; omega
  · unfold iL; omega
  · unfold iH; omega
theorem rmJ_ok {τ σ1 : Sg} {s n c : Nat} {pm : Nat → Nat} (hn : n ≤ 16) (hc4 : c < 4) (h0 : hOk τ c pm) (h1 : spC σ1 (pm c) τ s n) (h2 : frS (pm c) τ σ1) : rmJ τ s n c pm (upS σ1 363 1 (σ1 363 1 + 1)) := by
  obtain ⟨hp1, hp2, hp3⟩ := h0.2.2.1 c hc4
  have e3 : σ1 363 = τ 363 := h2 363 (by unfold iS; omega) (o363 hp3)
  have e4 : σ1 364 = τ 364 := h2 364 (by unfold iS; omega) (o364 hp3)
  refine ⟨⟨?_, by omega, ?_, h0.2.2.2⟩, ⟨fun i a b => ?_, fun j hj => ?_⟩, fun q a b c => ?_⟩
  · rw [up_get, if_pos ⟨rfl, rfl⟩, e3, h0.1, nI_1]
  · rw [up_ne (by omega), e4]
    exact h0.2.2.1
  · rw [up_ne (by unfold iS; omega)]
    exact h1.1 i a b
  · have := h1.2 j hj
    refine bxC_keep this (up_ne ?_) (up_ne ?_) (up_ne ?_)
    · unfold iBo bx; omega
    · unfold iL bx; omega
    · unfold iH bx; omega
  · rw [up_ne a]
    exact h2 q b c
def rcI (σ : Sg) (s n c : Nat) (pm : Nat → Nat) (σ1 : Sg) : Prop := hOk σ1 c pm ∧ spC σ1 s σ (pm c) n ∧ ∀ q, q ≠ 363 → q ≠ iS s → outB s q → σ1 q = σ q
theorem rcI_ok {σ σ1 : Sg} {s n c : Nat} {pm : Nat → Nat} (hs : s < 3) (hn : n ≤ 16) (hc4 : c < 4) (h0 : hOk σ (c + 1) pm) (h1 : spC σ1 s (upS σ 363 1 (nI c)) (pm c) n) (h2 : frS s (upS σ 363 1 (nI c)) σ1) : rcI σ s n c pm σ1 := by
  obtain ⟨hp1, hp2, hp3⟩ := h0.2.2.1 c hc4
  have e3 : σ1 363 = (upS σ 363 1 (nI c)) 363 := h2 363 (by unfold iS; omega) (o363 (by omega))
  have e4 : σ1 364 = σ 364 := (h2 364 (by unfold iS; omega) (o364 (by omega))).trans (up_ne (by omega))
  refine ⟨⟨?_, by omega, ?_, h0.2.2.2⟩, ⟨fun i a b => ?_, fun j hj => ?_⟩, fun q a b c => ?_⟩
  · rw [e3, up_get, if_pos ⟨rfl, rfl⟩]
  · rw [e4]
    exact h0.2.2.1
  · rw [h1.1 i a b, up_ne (by unfold iS; omega)]
  · have := h1.2 j hj
    refine bxC_in (up_ne ?_) (up_ne ?_) (up_ne ?_) this
    · unfold iBo bx; omega
    · unfold iL bx; omega
    · unfold iH bx; omega
  · rw [h2 q b c, up_ne a]
theorem canD_t {h : Nat → Int32} {db : Int32} {k : Nat} (a : hasB db k = false) (b : h k &&& (db ^^^ -1) = 0) : canD h db k = true := by
  unfold canD
  rw [a, decide_eq_true b]
  rfl
theorem canD_f1 {h : Nat → Int32} {db : Int32} {k : Nat} (a : hasB db k = true) : canD h db k = false := by
  unfold canD
  rw [a]
  rfl
theorem canD_f2 {h : Nat → Int32} {db : Int32} {k : Nat} (b : ¬ h k &&& (db ^^^ -1) = 0) : canD h db k = false := by
  unfold canD
  rw [decide_eq_false b, Bool.and_false]
