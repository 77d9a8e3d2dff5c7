/-! PURE: the whole stays good -/
def goV (B : Nat) (v : SpV) : Prop := gdV v ∧ nuV B v
theorem goV_up {B C : Nat} {v : SpV} (h : goV B v) (hBC : B ≤ C) : goV C v := by
  obtain ⟨h1, M, m1, m2, m3⟩ := h
  exact ⟨h1, M, m1, by omega, m3⟩
def goS (B : Nat) (S : StV) : Prop := goV B (qC S) ∧ (∀ i, i < qN S → goV B (qH S i)) ∧ ∀ w, qP S = some w → goV B w
theorem goS_up {B C : Nat} {S : StV} (h : goS B S) (hBC : B ≤ C) : goS C S := ⟨goV_up h.1 hBC, fun i hi => goV_up (h.2.1 i hi) hBC, fun w hw => goV_up (h.2.2 w hw) hBC⟩
theorem go_push {B : Nat} {S : StV} {w : SpV} (h : goS B S) (h4 : qN S ≤ 4) (hw : goV B w) : goS B (pushS S w) := by
  refine ⟨hw, fun i hi => ?_, h.2.2⟩
  have hi2 : i < psN S := hi
  show goV B (psH S i)
  unfold psH
  unfold psN at hi2 ⊢
  by_cases c : qN S < 4
  · rw [if_pos c] at hi2 ⊢
    by_cases e : i + 1 = qN S + 1
    · rw [if_pos e]
      exact h.1
    · rw [if_neg e, if_pos c]
      exact h.2.1 i (by omega)
  · rw [if_neg c] at hi2 ⊢
    by_cases e : i + 1 = 4
    · rw [if_pos e]
      exact h.1
    · rw [if_neg e, if_neg c]
      exact h.2.1 (i + 1) (by omega)
theorem go_undo {B : Nat} {S : StV} (h : goS B S) : goS B (oUndo S).2 := by
  unfold oUndo
  by_cases c : qN S = 0
  · rw [if_pos c]
    exact h
  · rw [if_neg c]
    exact ⟨h.2.1 _ (by omega), fun i hi => h.2.1 i (by have : i < qN S - 1 := hi; omega), h.2.2⟩
theorem go_keep {B : Nat} {S : StV} (h : goS B S) : goS B (oKeep S).2 := ⟨h.1, h.2.1, fun w hw => by
  have e : some (qC S) = some w := hw
  injection e with e
  rw [← e]
  exact h.1⟩
theorem go_restore {B : Nat} {S : StV} (h : goS B S) (h4 : qN S ≤ 4) : goS B (oRestore S).2 := by
  unfold oRestore
  cases e : qP S with
  | none => exact h
  | some w => exact go_push h h4 (h.2.2 w e)
theorem go_add {B : Nat} {S : StV} {x y z a b c : Int32} (h : goS B S) (h4 : qN S ≤ 4) (hB : B + 1 < 2 ^ 31) : goS (B + 1) (oAdd S x y z a b c).2 := by
  unfold oAdd
  by_cases e : entOk (qC S) x y z a b c = true
  · rw [if_pos e]
    exact go_push (goS_up h (by omega)) h4 (gd_ent h.1.1 h.1.2 hB e)
  · rw [if_neg e]
    exact goS_up h (by omega)
theorem lo_lt {v : SpV} {x : Int32} {k : Nat} (h : locO v x = some k) : k < vN v := by
  unfold locO at h
  by_cases c : ffi (fun k => decide (vNu v k = x)) (vN v) < vN v
  · rw [if_pos c] at h
    injection h with h
    rw [← h]
    exact c
  · rw [if_neg c] at h
    cases h
theorem go_remove {B : Nat} {S : StV} {x : Int32} (h : goS B S) (h4 : qN S ≤ 4) : goS B (oRemove S x).2 := by
  unfold oRemove
  cases e : locO (qC S) x with
  | none => exact h
  | some k => exact go_push h h4 (gd_rm h.1.1 h.1.2 (lo_lt e))
theorem go_turn {B : Nat} {S : StV} (h : goS B S) (h4 : qN S ≤ 4) : goS B (oTurn S).2 := by
  unfold oTurn
  by_cases c : vN (qC S) = 0
  · rw [if_pos c]
    exact h
  · rw [if_neg c]
    exact go_push h h4 (gd_qt h.1.1 h.1.2)
theorem go_fall {B : Nat} {S : StV} {x : Int32} (h : goS B S) (h4 : qN S ≤ 4) : goS B (oFall S x).2 := by
  unfold oFall
  cases e : locO (qC S) x with
  | none => exact h
  | some k =>
    simp only
    split
    · exact go_push h h4 (gd_fall h.1.1 h.1.2 (lo_lt e))
    · exact h
theorem go_break {B : Nat} {S : StV} (h : goS B S) (h4 : qN S ≤ 4) (hB : B + 1 < 2 ^ 31) : goS (B + 1) (oBreak S).2 := by
  unfold oBreak
  rcases wh_br h.1.1 with ⟨_, _, e, _⟩ | ⟨_, k, hk, _, _, _, e, hs⟩
  · rw [e]
    exact goS_up h (by omega)
  · rw [e]
    exact go_push (goS_up h (by omega)) h4 (gd_br h.1.1 h.1.2 hB hk hs)
