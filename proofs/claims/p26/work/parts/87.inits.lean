/-! CONSTRUCTORS, one by one -/
def rmN (fr lo ce sl : Nat) : Room := { frames := fr, cells := ce, slots := sl, locals := lo }
theorem nw_eq {M : MI} {Γ : GmW} {Ω : Om} {ws ws' : va_W} {c n pc : Nat} {lv : List (Option Value)} {st : List Value} (e : ws = ws') (k : NwW M Γ Ω ws' c n pc lv st) : NwW M Γ Ω ws c n pc lv st := by
  rw [e]
  exact k
theorem wp_cons {D : va_G} {cl : List vw_C} {q : Nat × va_E} {ws : va_W} {H : Heap} : va_P D cl (q :: ws) H ↔ va_at D cl q H ∧ va_P D cl ws H := by
  constructor
  · intro h
    exact ⟨h 0 q rfl, fun k x hx => h (k + 1) x hx⟩
  · rintro ⟨h1, h2⟩ k x hx
    cases k with
    | zero =>
      cases hx
      exact h1
    | succ k => exact h2 k x hx
theorem wd_same {A : Nat → Prop} {ws ws' : va_W} (e : ws.map (fun q => q.1) = ws'.map (fun q => q.1)) (h : va_D A ws) : va_D A ws' := by
  have key : ∀ (k : Nat) (q : Nat × va_E), ws'[k]? = some q → ∃ q', ws[k]? = some q' ∧ q'.1 = q.1 := fun k q hq => by
    have h1 : (ws'.map (fun q => q.1))[k]? = some q.1 := by rw [List.getElem?_map, hq]; rfl
    rw [← e, List.getElem?_map] at h1
    cases h2 : ws[k]? with
    | none => rw [h2] at h1; cases h1
    | some q' =>
      rw [h2] at h1
      exact ⟨q', rfl, Option.some.inj h1⟩
  refine ⟨fun i j p q hp hq e => ?_, fun k q hq => ?_⟩
  · obtain ⟨p', h1, h2⟩ := key i p hp
    obtain ⟨q', h3, h4⟩ := key j q hq
    exact h.1 i j p' q' h1 h3 (by rw [h2, h4, e])
  · obtain ⟨q', h1, h2⟩ := key k q hq
    rw [← h2]
    exact h.2 k q' h1
theorem nw_conv {M : MI} {Γ : GmW} {Ω : Om} {ws ws' : va_W} {c n pc : Nat} {lv : List (Option Value)} {st : List Value} (e : ws.map (fun q => q.1) = ws'.map (fun q => q.1)) (h : ∀ H, va_P Ω.1 vwCl ws H → va_P Ω.1 vwCl ws' H) (k : NwW M Γ Ω ws' c n pc lv st) : NwW M Γ Ω ws c n pc lv st :=
  fun G H locs ls hP hD hS hl => k G H locs ls (h H hP) (wd_same e hD) hS hl
theorem rf_cell {D : va_G} {cl : List vw_C} {a n : Nat} {cA : ClassId} {f g : Nat → Option Nat} {H : Heap} (e : ∀ i, i < n → f i = g i) (h : va_at D cl (a, .inl (cA, n, .inr (.inr (.inr (.inr f))))) H) : va_at D cl (a, .inl (cA, n, .inr (.inr (.inr (.inr g))))) H := by
  have h1 : H[a]? = some (vp_cell cA (n, .inr (.inr (.inr (.inr f))))) := h
  show H[a]? = some (vp_cell cA (n, .inr (.inr (.inr (.inr g)))))
  rw [h1, vp_cell_q, vp_cell_q]
  unfold arrV
  congr 3
  funext j
  show va_rf (f j.val) = va_rf (g j.val)
  rw [e j.val j.isLt]
def gBx (Ω : Om) (b l h : Nat) : va_W := [(b, .inr (0, [.int 0, .ref l, .ref h])), (l, .inl (Ω.2.1 0, 3, .inl (fun _ => 0))), (h, .inl (Ω.2.1 0, 3, .inl (fun _ => 0)))]
def gPi (Ω : Om) (p a b c d : Nat) : va_W := [(p, .inr (2, [.int 0, .ref a, .ref b, .ref c, .int 0, .int 0, .ref d])), (a, .inl (Ω.2.1 0, 16, .inl (fun _ => 0))), (b, .inl (Ω.2.1 0, 16, .inl (fun _ => 0))), (c, .inl (Ω.2.1 0, 16, .inl (fun _ => 0))), (d, .inl (Ω.2.1 0, 16, .inl (fun _ => 0)))]
def gTx (Ω : Om) (t a b : Nat) : va_W := [(t, .inr (4, [.ref a, .int 0, .ref b, .int 0])), (a, .inl (Ω.2.1 3, 80, .inl (fun _ => 0))), (b, .inl (Ω.2.1 0, 41, .inl (fun _ => 0)))]

abbrev mX0_init : MI := (cX0_init, RX0, wsX0_init, 1, rmN 1 12 2 6, none)
theorem jX0_init : ∀ w ∈ wsX00, w ∈ mW mX0_init := by decide +kernel
theorem lX0_init_9 : Cond.fieldLink (mO mX0_init) 9 (TX0 1).1 (TX0 1).2.1 (TX0 1).2.2.1 ∈ mW mX0_init := by decide +kernel
theorem lX0_init_15 : Cond.fieldLink (mO mX0_init) 15 (TX0 2).1 (TX0 2).2.1 (TX0 2).2.2.1 ∈ mW mX0_init := by decide +kernel
set_option maxRecDepth 20000 in
theorem ciX0 (l : Launch) (Ω : Om) (q : Nat) : CiW l yX0_init wsX0_init (rmN 1 12 2 6) Ω q [(q, .inr (0, [.int 0, .null, .null]))] 2 6 (fun w => ∃ a b, w = gBx Ω q a b) := by
  refine ci_intro (cc := cX0_init) (maxL := 1) [some (.ref q)] (by decide +kernel) rfl rfl rfl (by decide) (fun Γ hL hini hQ => ?_)
  refine n_aload_n dX0_init_0 rfl ?_
  refine n_obj (M := mX0_init) (by decide +kernel) (by decide +kernel) (by decide +kernel) (Nat.le_of_ble_eq_true rfl) (Nat.le_of_ble_eq_true rfl) dX0_init_1 ?_
  refine n_aload_n dX0_init_4 rfl ?_
  refine n_iconst 3 dX0_init_5 (by decide) ?_
  refine n_newi (N := 3) rfl (Nat.le_of_ble_eq_true rfl) (by decide +kernel) (Nat.le_of_ble_eq_true rfl) (Nat.le_of_ble_eq_true rfl) dX0_init_6 (fun a0 => ?_)
  refine n_putF (ty := .array .int) 0 rfl rfl 1 (by decide) jX0_init tyX0 tyX0_ok nmX0 lX0_init_9 rfl rfl hini (by decide +kernel) rfl rfl (Nat.le_of_ble_eq_true rfl) dX0_init_8 ?_
  refine nw_eq (ws' := [(q, .inr (0, [.int 0, .ref a0, .null])), (a0, .inl (Ω.2.1 0, 3, .inl (fun _ => 0)))]) rfl ?_
  refine n_aload_n dX0_init_11 rfl ?_
  refine n_iconst 3 dX0_init_12 (by decide) ?_
  refine n_newi (N := 3) rfl (Nat.le_of_ble_eq_true rfl) (by decide +kernel) (Nat.le_of_ble_eq_true rfl) (Nat.le_of_ble_eq_true rfl) dX0_init_13 (fun a1 => ?_)
  refine n_putF (ty := .array .int) 0 rfl rfl 2 (by decide) jX0_init tyX0 tyX0_ok nmX0 lX0_init_15 rfl rfl hini (by decide +kernel) rfl rfl (Nat.le_of_ble_eq_true rfl) dX0_init_15 ?_
  refine nw_eq (ws' := [(q, .inr (0, [.int 0, .ref a0, .ref a1])), (a0, .inl (Ω.2.1 0, 3, .inl (fun _ => 0))), (a1, .inl (Ω.2.1 0, 3, .inl (fun _ => 0)))]) rfl ?_
  exact n_vret hQ rfl (Nat.le_of_ble_eq_true rfl) (Nat.le_of_ble_eq_true rfl) dX0_init_18 ⟨a0, a1, rfl⟩
abbrev mX2_init : MI := (cX2_init, RX2, wsX2_init, 1, rmN 1 12 4 64, none)
theorem jX2_init : ∀ w ∈ wsX20, w ∈ mW mX2_init := by decide +kernel
theorem lX2_init_9 : Cond.fieldLink (mO mX2_init) 9 (TX2 1).1 (TX2 1).2.1 (TX2 1).2.2.1 ∈ mW mX2_init := by decide +kernel
theorem lX2_init_15 : Cond.fieldLink (mO mX2_init) 15 (TX2 2).1 (TX2 2).2.1 (TX2 2).2.2.1 ∈ mW mX2_init := by decide +kernel
theorem lX2_init_18 : Cond.fieldLink (mO mX2_init) 18 (TX2 3).1 (TX2 3).2.1 (TX2 3).2.2.1 ∈ mW mX2_init := by decide +kernel
theorem lX2_init_21 : Cond.fieldLink (mO mX2_init) 21 (TX2 6).1 (TX2 6).2.1 (TX2 6).2.2.1 ∈ mW mX2_init := by decide +kernel
set_option maxRecDepth 20000 in
theorem ciX2 (l : Launch) (Ω : Om) (q : Nat) : CiW l yX2_init wsX2_init (rmN 1 12 4 64) Ω q [(q, .inr (2, [.int 0, .null, .null, .null, .int 0, .int 0, .null]))] 4 64 (fun w => ∃ a b c d, w = gPi Ω q a b c d) := by
  refine ci_intro (cc := cX2_init) (maxL := 1) [some (.ref q)] (by decide +kernel) rfl rfl rfl (by decide) (fun Γ hL hini hQ => ?_)
  refine n_aload_n dX2_init_0 rfl ?_
  refine n_obj (M := mX2_init) (by decide +kernel) (by decide +kernel) (by decide +kernel) (Nat.le_of_ble_eq_true rfl) (Nat.le_of_ble_eq_true rfl) dX2_init_1 ?_
  refine n_aload_n dX2_init_4 rfl ?_
  refine n_bipush 16 dX2_init_5 (by decide) ?_
  refine n_newi (N := 16) rfl (Nat.le_of_ble_eq_true rfl) (by decide +kernel) (Nat.le_of_ble_eq_true rfl) (Nat.le_of_ble_eq_true rfl) dX2_init_7 (fun a0 => ?_)
  refine n_putF (ty := .array .int) 0 rfl rfl 1 (by decide) jX2_init tyX2 tyX2_ok nmX2 lX2_init_9 rfl rfl hini (by decide +kernel) rfl rfl (Nat.le_of_ble_eq_true rfl) dX2_init_9 ?_
  refine nw_eq (ws' := [(q, .inr (2, [.int 0, .ref a0, .null, .null, .int 0, .int 0, .null])), (a0, .inl (Ω.2.1 0, 16, .inl (fun _ => 0)))]) rfl ?_
  refine n_aload_n dX2_init_12 rfl ?_
  refine n_bipush 16 dX2_init_13 (by decide) ?_
  refine n_newi (N := 16) rfl (Nat.le_of_ble_eq_true rfl) (by decide +kernel) (Nat.le_of_ble_eq_true rfl) (Nat.le_of_ble_eq_true rfl) dX2_init_15 (fun a1 => ?_)
  refine n_putF (ty := .array .int) 0 rfl rfl 2 (by decide) jX2_init tyX2 tyX2_ok nmX2 lX2_init_15 rfl rfl hini (by decide +kernel) rfl rfl (Nat.le_of_ble_eq_true rfl) dX2_init_17 ?_
  refine nw_eq (ws' := [(q, .inr (2, [.int 0, .ref a0, .ref a1, .null, .int 0, .int 0, .null])), (a0, .inl (Ω.2.1 0, 16, .inl (fun _ => 0))), (a1, .inl (Ω.2.1 0, 16, .inl (fun _ => 0)))]) rfl ?_
  refine n_aload_n dX2_init_20 rfl ?_
  refine n_bipush 16 dX2_init_21 (by decide) ?_
  refine n_newi (N := 16) rfl (Nat.le_of_ble_eq_true rfl) (by decide +kernel) (Nat.le_of_ble_eq_true rfl) (Nat.le_of_ble_eq_true rfl) dX2_init_23 (fun a2 => ?_)
  refine n_putF (ty := .array .int) 0 rfl rfl 3 (by decide) jX2_init tyX2 tyX2_ok nmX2 lX2_init_18 rfl rfl hini (by decide +kernel) rfl rfl (Nat.le_of_ble_eq_true rfl) dX2_init_25 ?_
  refine nw_eq (ws' := [(q, .inr (2, [.int 0, .ref a0, .ref a1, .ref a2, .int 0, .int 0, .null])), (a0, .inl (Ω.2.1 0, 16, .inl (fun _ => 0))), (a1, .inl (Ω.2.1 0, 16, .inl (fun _ => 0))), (a2, .inl (Ω.2.1 0, 16, .inl (fun _ => 0)))]) rfl ?_
  refine n_aload_n dX2_init_28 rfl ?_
  refine n_bipush 16 dX2_init_29 (by decide) ?_
  refine n_newi (N := 16) rfl (Nat.le_of_ble_eq_true rfl) (by decide +kernel) (Nat.le_of_ble_eq_true rfl) (Nat.le_of_ble_eq_true rfl) dX2_init_31 (fun a3 => ?_)
  refine n_putF (ty := .array .int) 0 rfl rfl 6 (by decide) jX2_init tyX2 tyX2_ok nmX2 lX2_init_21 rfl rfl hini (by decide +kernel) rfl rfl (Nat.le_of_ble_eq_true rfl) dX2_init_33 ?_
  refine nw_eq (ws' := [(q, .inr (2, [.int 0, .ref a0, .ref a1, .ref a2, .int 0, .int 0, .ref a3])), (a0, .inl (Ω.2.1 0, 16, .inl (fun _ => 0))), (a1, .inl (Ω.2.1 0, 16, .inl (fun _ => 0))), (a2, .inl (Ω.2.1 0, 16, .inl (fun _ => 0))), (a3, .inl (Ω.2.1 0, 16, .inl (fun _ => 0)))]) rfl ?_
  exact n_vret hQ rfl (Nat.le_of_ble_eq_true rfl) (Nat.le_of_ble_eq_true rfl) dX2_init_36 ⟨a0, a1, a2, a3, rfl⟩
abbrev mX4_init : MI := (cX4_init, RX4, wsX4_init, 1, rmN 1 12 2 121, none)
theorem jX4_init : ∀ w ∈ wsX40, w ∈ mW mX4_init := by decide +kernel
theorem lX4_init_9 : Cond.fieldLink (mO mX4_init) 9 (TX4 0).1 (TX4 0).2.1 (TX4 0).2.2.1 ∈ mW mX4_init := by decide +kernel
theorem lX4_init_15 : Cond.fieldLink (mO mX4_init) 15 (TX4 2).1 (TX4 2).2.1 (TX4 2).2.2.1 ∈ mW mX4_init := by decide +kernel
set_option maxRecDepth 20000 in
theorem ciX4 (l : Launch) (Ω : Om) (q : Nat) : CiW l yX4_init wsX4_init (rmN 1 12 2 121) Ω q [(q, .inr (4, [.null, .int 0, .null, .int 0]))] 2 121 (fun w => ∃ a b, w = gTx Ω q a b) := by
  refine ci_intro (cc := cX4_init) (maxL := 1) [some (.ref q)] (by decide +kernel) rfl rfl rfl (by decide) (fun Γ hL hini hQ => ?_)
  refine n_aload_n dX4_init_0 rfl ?_
  refine n_obj (M := mX4_init) (by decide +kernel) (by decide +kernel) (by decide +kernel) (Nat.le_of_ble_eq_true rfl) (Nat.le_of_ble_eq_true rfl) dX4_init_1 ?_
  refine n_aload_n dX4_init_4 rfl ?_
  refine n_bipush 80 dX4_init_5 (by decide) ?_
  refine n_newc (N := 80) rfl (Nat.le_of_ble_eq_true rfl) (by decide +kernel) (Nat.le_of_ble_eq_true rfl) (Nat.le_of_ble_eq_true rfl) dX4_init_7 (fun a0 => ?_)
  refine n_putF (ty := .array .char) 0 rfl rfl 0 (by decide) jX4_init tyX4 tyX4_ok nmX4 lX4_init_9 rfl rfl hini (by decide +kernel) rfl rfl (Nat.le_of_ble_eq_true rfl) dX4_init_9 ?_
  refine nw_eq (ws' := [(q, .inr (4, [.ref a0, .int 0, .null, .int 0])), (a0, .inl (Ω.2.1 3, 80, .inl (fun _ => 0)))]) rfl ?_
  refine n_aload_n dX4_init_12 rfl ?_
  refine n_bipush 41 dX4_init_13 (by decide) ?_
  refine n_newi (N := 41) rfl (Nat.le_of_ble_eq_true rfl) (by decide +kernel) (Nat.le_of_ble_eq_true rfl) (Nat.le_of_ble_eq_true rfl) dX4_init_15 (fun a1 => ?_)
  refine n_putF (ty := .array .int) 0 rfl rfl 2 (by decide) jX4_init tyX4 tyX4_ok nmX4 lX4_init_15 rfl rfl hini (by decide +kernel) rfl rfl (Nat.le_of_ble_eq_true rfl) dX4_init_17 ?_
  refine nw_eq (ws' := [(q, .inr (4, [.ref a0, .int 0, .ref a1, .int 0])), (a0, .inl (Ω.2.1 3, 80, .inl (fun _ => 0))), (a1, .inl (Ω.2.1 0, 41, .inl (fun _ => 0)))]) rfl ?_
  exact n_vret hQ rfl (Nat.le_of_ble_eq_true rfl) (Nat.le_of_ble_eq_true rfl) dX4_init_20 ⟨a0, a1, rfl⟩
/-! a space: sixteen boxes -/
def bxL (Ω : Om) (F : Nat → Nat × Nat × Nat) : Nat → va_W
  | 0 => []
  | j + 1 => bxL Ω F j ++ gBx Ω (F j).1 (F j).2.1 (F j).2.2
theorem bxL_c {Ω : Om} {F F' : Nat → Nat × Nat × Nat} : ∀ {j : Nat}, (∀ i, i < j → F i = F' i) → bxL Ω F j = bxL Ω F' j
  | 0, _ => rfl
  | j + 1, h => by rw [bxL, bxL, bxL_c (fun i hi => h i (Nat.lt_succ_of_lt hi)), h j (Nat.lt_succ_self j)]
theorem bxL_len (Ω : Om) (F : Nat → Nat × Nat × Nat) : ∀ j, (bxL Ω F j).length = 3 * j
  | 0 => rfl
  | j + 1 => by
    rw [bxL, List.length_append, bxL_len Ω F j]
    show 3 * j + 3 = 3 * (j + 1)
    omega
def spW (Ω : Om) (h a : Nat) (F : Nat → Nat × Nat × Nat) (j : Nat) : va_W := (h, .inr (3, [.ref a, .int 0, .int 0, .int 0, .int 0])) :: (a, .inl (Ω.2.1 1, 16, .inr (.inr (.inr (.inr (fun i => if i < j then some (F i).1 else none)))))) :: bxL Ω F j
def gSp (Ω : Om) (h a : Nat) (F : Nat → Nat × Nat × Nat) : va_W := (h, .inr (3, [.ref a, .int 0, .int 0, .int 0, .int 0])) :: (a, .inl (Ω.2.1 1, 16, .inr (.inr (.inr (.inr (fun i => some (F i).1)))))) :: bxL Ω F 16
abbrev mX3_init : MI := (cX3_init, RX3, wsX3_init, 2, rmN 2 40 49 160, none)
theorem jX3_init : ∀ w ∈ wsX30, w ∈ mW mX3_init := by decide +kernel
theorem lX3_init_11 : Cond.fieldLink (mO mX3_init) 11 (TX3 0).1 (TX3 0).2.1 (TX3 0).2.2.1 ∈ mW mX3_init := by decide +kernel
theorem qX3_init_X0 : NwT mX3_init 9 RX0 TX0 3 0 tyX0 [.int 0, .null, .null] := ⟨by decide +kernel, tyX0_ok, by decide +kernel, by decide +kernel, by decide +kernel, rfl, fun j hj => by rcases (show j = 0 ∨ j = 1 ∨ j = 2 by omega) with rfl | rfl | rfl <;> rfl⟩
theorem uX3_init_X0 : NwI mX3_init yX0_init wsX0_init (rmN 1 12 2 6) 2 6 := ⟨cX0_init, 1, _, gX3_init_X0_init_n17, rfl, rfl, rfl, by decide +kernel, by decide +kernel, rfl, by decide +kernel, ⟨Nat.le_of_ble_eq_true rfl, Nat.le_of_ble_eq_true rfl⟩⟩
theorem sp_next (Ω : Om) (h a : Nat) (F : Nat → Nat × Nat × Nat) (j : Nat) (x : Nat × Nat × Nat) : (spW Ω h a F j ++ gBx Ω x.1 x.2.1 x.2.2).set 1 (a, .inl (Ω.2.1 1, 16, .inr (.inr (.inr (.inr (va_up (fun i => if i < j then some (F i).1 else none) j (some x.1))))))) = spW Ω h a (fun i => if i = j then x else F i) (j + 1) := by
  unfold spW
  show (h, _) :: (a, _) :: (bxL Ω F j ++ gBx Ω x.1 x.2.1 x.2.2) = _
  have e1 : bxL Ω F j = bxL Ω (fun i => if i = j then x else F i) j := bxL_c (fun i hi => by
    show F i = if i = j then x else F i
    rw [if_neg (by omega)])
  have e2 : va_up (fun i => if i < j then some (F i).1 else none) j (some x.1) = fun i => if i < j + 1 then some ((fun i => if i = j then x else F i) i).1 else none := by
    funext i
    unfold va_up
    by_cases c : i = j
    · simp [c]
    · by_cases d : i < j
      · simp [c, d, show i < j + 1 by omega]
      · simp [c, d, show ¬ i < j + 1 by omega]
  rw [e1, e2, bxL]
  simp
theorem sp_at (Ω : Om) (h a : Nat) (F : Nat → Nat × Nat × Nat) (j : Nat) (x : Nat × Nat × Nat) : (spW Ω h a F j ++ gBx Ω x.1 x.2.1 x.2.2)[2 + 3 * j]? = some (x.1, .inr (0, [.int 0, .ref x.2.1, .ref x.2.2])) := by
  rw [List.getElem?_append_right (by
    unfold spW
    rw [List.length_cons, List.length_cons, bxL_len]
    omega)]
  have : 2 + 3 * j - (spW Ω h a F j).length = 0 := by
    unfold spW
    rw [List.length_cons, List.length_cons, bxL_len]
    omega
  rw [this]
  rfl
theorem lpX3 {l : Launch} {Γ : GmW} {Ω : Om} {h a : Nat} (hL : gL Γ = l) (hQ : gQ Γ = MQ (gB Γ) (va_Qv (fun w => ∃ a F, w = gSp Ω h a F) (fun w t => va_P Ω.1 vwCl w t.heap ∧ va_D (gA Γ) w) (gA Γ)) (gAr Γ) (gSt Γ) 49 160 (gA Γ)) : ∀ k j F, k + j = 16 → NwW mX3_init Γ Ω (spW Ω h a F j) (1 + 3 * j) (16 + 9 * j) 15 [some (.ref h), some (.int (nI j))] []
  | 0, j, F, hk => by
    have : j = 16 := by omega
    subst this
    refine n_iload_n dX3_init_15 rfl ?_
    refine n_bipush 16 dX3_init_16 (by decide) ?_
    refine n_icmp_ge 40 dX3_init_18 (by decide) (fun _ => ?_) (fun q => absurd (Int32.le_refl _) q)
    refine nw_conv (ws' := gSp Ω h a F) rfl (fun H hP => ?_) ?_
    · obtain ⟨p1, p2⟩ := wp_cons.mp hP
      obtain ⟨p3, p4⟩ := wp_cons.mp p2
      refine wp_cons.mpr ⟨p1, wp_cons.mpr ⟨rf_cell (fun i hi => ?_) p3, p4⟩⟩
      show (if i < 16 then some (F i).1 else none) = some (F i).1
      rw [if_pos hi]
    · exact n_vret hQ rfl (Nat.le_of_ble_eq_true rfl) (Nat.le_of_ble_eq_true rfl) dX3_init_40 ⟨a, F, rfl⟩
  | k + 1, j, F, hk => by
    refine n_iload_n dX3_init_15 rfl ?_
    refine n_bipush 16 dX3_init_16 (by decide) ?_
    refine n_icmp_ge 40 dX3_init_18 (by decide) (fun q => absurd ((nI_leI (a := 16) (b := j) (by omega) (by omega)).mp q) (by omega)) (fun _ => ?_)
    refine n_aload_n dX3_init_21 rfl ?_
    refine n_get 0 rfl rfl 0 (by decide) jX3_init lX3_init_11 rfl dX3_init_22 ?_
    refine n_iload_n dX3_init_25 rfl ?_
    refine n_newN (st := [.int (nI j), .ref a]) hL (fun q => ciX0 l Ω q) qX3_init_X0 uX3_init_X0 (fun U hU => hU.2.1) (by
      show 1 + 3 * j + 1 + 2 ≤ 49
      omega) (by
      show 16 + 9 * j + 3 + 6 ≤ 160
      omega) (Nat.le_of_ble_eq_true rfl) dX3_init_26 dX3_init_29 dX3_init_30 (fun q w hw => ?_)
    obtain ⟨x, y, rfl⟩ := hw
    refine n_aast (r := (RX0, TX0, 3)) (t0 := 1) 1 (2 + 3 * j) rfl rfl (sp_at Ω h a F j (q, x, y)) rfl j rfl (by omega) (by omega) dX3_init_33 ?_
    refine nw_eq (sp_next Ω h a F j (q, x, y)) ?_
    refine n_iinc (nI (j + 1)) dX3_init_34 rfl (nI_1 j) (by decide) rfl ?_
    refine n_goto 15 dX3_init_37 (by decide) ?_
    have ih := lpX3 (h := h) (a := a) hL hQ k (j + 1) (fun i => if i = j then (q, x, y) else F i) (by omega)
    rw [show 1 + 3 * (j + 1) = 1 + 3 * j + 1 + 2 by omega, show 16 + 9 * (j + 1) = 16 + 9 * j + 3 + 6 by omega] at ih
    exact ih
theorem ciX3 (l : Launch) (Ω : Om) (q : Nat) : CiW l yX3_init wsX3_init (rmN 2 40 49 160) Ω q [(q, .inr (3, [.null, .int 0, .int 0, .int 0, .int 0]))] 49 160 (fun w => ∃ a F, w = gSp Ω q a F) := by
  refine ci_intro (cc := cX3_init) (maxL := 2) [some (.ref q), none] (by decide +kernel) rfl rfl rfl (by decide) (fun Γ hL hini hQ => ?_)
  refine n_aload_n dX3_init_0 rfl ?_
  refine n_obj (M := mX3_init) (by decide +kernel) (by decide +kernel) (by decide +kernel) (Nat.le_of_ble_eq_true rfl) (Nat.le_of_ble_eq_true rfl) dX3_init_1 ?_
  refine n_aload_n dX3_init_4 rfl ?_
  refine n_bipush 16 dX3_init_5 (by decide) ?_
  refine n_newB (N := 16) rfl (Nat.le_of_ble_eq_true rfl) (by decide +kernel) (Nat.le_of_ble_eq_true rfl) (Nat.le_of_ble_eq_true rfl) dX3_init_7 (fun a => ?_)
  refine n_putF (ty := .array (.object RX0)) 0 rfl rfl 0 (by decide) jX3_init tyX3 tyX3_ok nmX3 lX3_init_11 rfl rfl hini (by decide +kernel) rfl rfl (Nat.le_of_ble_eq_true rfl) dX3_init_10 ?_
  refine nw_eq (ws' := spW Ω q a (fun _ => (0, 0, 0)) 0) (by
    unfold spW
    simp [bxL]) ?_
  refine n_iconst 0 dX3_init_13 (by decide) ?_
  refine n_istore_n dX3_init_14 (by decide) rfl ?_
  exact lpX3 hL hQ 16 0 _ rfl
/-! the history: four spaces -/
abbrev SpA : Type := Nat × Nat × (Nat → Nat × Nat × Nat)
def spL (Ω : Om) (S : Nat → SpA) : Nat → va_W
  | 0 => []
  | j + 1 => spL Ω S j ++ gSp Ω (S j).1 (S j).2.1 (S j).2.2
theorem spL_c {Ω : Om} {F F' : Nat → SpA} : ∀ {j : Nat}, (∀ i, i < j → F i = F' i) → spL Ω F j = spL Ω F' j
  | 0, _ => rfl
  | j + 1, h => by rw [spL, spL, spL_c (fun i hi => h i (Nat.lt_succ_of_lt hi)), h j (Nat.lt_succ_self j)]
theorem gSp_len (Ω : Om) (h a : Nat) (F : Nat → Nat × Nat × Nat) : (gSp Ω h a F).length = 50 := by
  unfold gSp
  rw [List.length_cons, List.length_cons, bxL_len]
theorem spL_len (Ω : Om) (S : Nat → SpA) : ∀ j, (spL Ω S j).length = 50 * j
  | 0 => rfl
  | j + 1 => by
    rw [spL, List.length_append, spL_len Ω S j, gSp_len]
    omega
def hiW (Ω : Om) (h a : Nat) (S : Nat → SpA) (j : Nat) : va_W := (h, .inr (1, [.ref a, .int 0])) :: (a, .inl (Ω.2.1 2, 4, .inr (.inr (.inr (.inr (fun i => if i < j then some (S i).1 else none)))))) :: spL Ω S j
def gHi (Ω : Om) (h a : Nat) (S : Nat → SpA) : va_W := (h, .inr (1, [.ref a, .int 0])) :: (a, .inl (Ω.2.1 2, 4, .inr (.inr (.inr (.inr (fun i => some (S i).1)))))) :: spL Ω S 4
abbrev mX1_init : MI := (cX1_init, RX1, wsX1_init, 2, rmN 3 80 201 664, none)
theorem jX1_init : ∀ w ∈ wsX10, w ∈ mW mX1_init := by decide +kernel
theorem lX1_init_11 : Cond.fieldLink (mO mX1_init) 11 (TX1 0).1 (TX1 0).2.1 (TX1 0).2.2.1 ∈ mW mX1_init := by decide +kernel
theorem qX1_init_X3 : NwT mX1_init 9 RX3 TX3 5 3 tyX3 [.null, .int 0, .int 0, .int 0, .int 0] := ⟨by decide +kernel, tyX3_ok, by decide +kernel, by decide +kernel, by decide +kernel, rfl, fun j hj => by rcases (show j = 0 ∨ j = 1 ∨ j = 2 ∨ j = 3 ∨ j = 4 by omega) with rfl | rfl | rfl | rfl | rfl <;> rfl⟩
theorem uX1_init_X3 : NwI mX1_init yX3_init wsX3_init (rmN 2 40 49 160) 49 160 := ⟨cX3_init, 2, _, gX1_init_X3_init, rfl, rfl, rfl, by decide +kernel, by decide +kernel, rfl, by decide +kernel, ⟨Nat.le_of_ble_eq_true rfl, Nat.le_of_ble_eq_true rfl⟩⟩
theorem hi_next (Ω : Om) (h a : Nat) (S : Nat → SpA) (j : Nat) (x : SpA) : (hiW Ω h a S j ++ gSp Ω x.1 x.2.1 x.2.2).set 1 (a, .inl (Ω.2.1 2, 4, .inr (.inr (.inr (.inr (va_up (fun i => if i < j then some (S i).1 else none) j (some x.1))))))) = hiW Ω h a (fun i => if i = j then x else S i) (j + 1) := by
  unfold hiW
  show (h, _) :: (a, _) :: (spL Ω S j ++ gSp Ω x.1 x.2.1 x.2.2) = _
  have e1 : spL Ω S j = spL Ω (fun i => if i = j then x else S i) j := spL_c (fun i hi => by
    show S i = if i = j then x else S i
    rw [if_neg (by omega)])
  have e2 : va_up (fun i => if i < j then some (S i).1 else none) j (some x.1) = fun i => if i < j + 1 then some ((fun i => if i = j then x else S i) i).1 else none := by
    funext i
    unfold va_up
    by_cases c : i = j
    · simp [c]
    · by_cases d : i < j
      · simp [c, d, show i < j + 1 by omega]
      · simp [c, d, show ¬ i < j + 1 by omega]
  rw [e1, e2, spL]
  simp
theorem hi_at (Ω : Om) (h a : Nat) (S : Nat → SpA) (j : Nat) (x : SpA) : (hiW Ω h a S j ++ gSp Ω x.1 x.2.1 x.2.2)[2 + 50 * j]? = some (x.1, .inr (3, [.ref x.2.1, .int 0, .int 0, .int 0, .int 0])) := by
  rw [List.getElem?_append_right (by
    unfold hiW
    rw [List.length_cons, List.length_cons, spL_len]
    omega)]
  have : 2 + 50 * j - (hiW Ω h a S j).length = 0 := by
    unfold hiW
    rw [List.length_cons, List.length_cons, spL_len]
    omega
  rw [this]
  rfl
theorem lpX1 {l : Launch} {Γ : GmW} {Ω : Om} {h a : Nat} (hL : gL Γ = l) (hQ : gQ Γ = MQ (gB Γ) (va_Qv (fun w => ∃ a S, w = gHi Ω h a S) (fun w t => va_P Ω.1 vwCl w t.heap ∧ va_D (gA Γ) w) (gA Γ)) (gAr Γ) (gSt Γ) 201 664 (gA Γ)) : ∀ k j S, k + j = 4 → NwW mX1_init Γ Ω (hiW Ω h a S j) (1 + 50 * j) (4 + 165 * j) 14 [some (.ref h), some (.int (nI j))] []
  | 0, j, S, hk => by
    have : j = 4 := by omega
    subst this
    refine n_iload_n dX1_init_14 rfl ?_
    refine n_iconst 4 dX1_init_15 (by decide) ?_
    refine n_icmp_ge 38 dX1_init_16 (by decide) (fun _ => ?_) (fun q => absurd (Int32.le_refl _) q)
    refine nw_conv (ws' := gHi Ω h a S) rfl (fun H hP => ?_) ?_
    · obtain ⟨p1, p2⟩ := wp_cons.mp hP
      obtain ⟨p3, p4⟩ := wp_cons.mp p2
      refine wp_cons.mpr ⟨p1, wp_cons.mpr ⟨rf_cell (fun i hi => ?_) p3, p4⟩⟩
      show (if i < 4 then some (S i).1 else none) = some (S i).1
      rw [if_pos hi]
    · exact n_vret hQ rfl (Nat.le_of_ble_eq_true rfl) (Nat.le_of_ble_eq_true rfl) dX1_init_38 ⟨a, S, rfl⟩
  | k + 1, j, S, hk => by
    refine n_iload_n dX1_init_14 rfl ?_
    refine n_iconst 4 dX1_init_15 (by decide) ?_
    refine n_icmp_ge 38 dX1_init_16 (by decide) (fun q => absurd ((nI_leI (a := 4) (b := j) (by omega) (by omega)).mp q) (by omega)) (fun _ => ?_)
    refine n_aload_n dX1_init_19 rfl ?_
    refine n_get 0 rfl rfl 0 (by decide) jX1_init lX1_init_11 rfl dX1_init_20 ?_
    refine n_iload_n dX1_init_23 rfl ?_
    refine n_newI (st := [.int (nI j), .ref a]) hL (fun q => ciX3 l Ω q) qX1_init_X3 uX1_init_X3 (by decide +kernel) (by
      show 1 + 50 * j + 1 + 49 ≤ 201
      omega) (by
      show 4 + 165 * j + 5 + 160 ≤ 664
      omega) (Nat.le_of_ble_eq_true rfl) dX1_init_24 dX1_init_27 dX1_init_28 (fun q w hw => ?_)
    obtain ⟨x, y, rfl⟩ := hw
    refine n_aast (r := (RX3, TX3, 5)) (t0 := 2) 1 (2 + 50 * j) rfl rfl (hi_at Ω h a S j (q, x, y)) rfl j rfl (by omega) (by omega) dX1_init_31 ?_
    refine nw_eq (hi_next Ω h a S j (q, x, y)) ?_
    refine n_iinc (nI (j + 1)) dX1_init_32 rfl (nI_1 j) (by decide) rfl ?_
    refine n_goto 14 dX1_init_35 (by decide) ?_
    have ih := lpX1 (h := h) (a := a) hL hQ k (j + 1) (fun i => if i = j then (q, x, y) else S i) (by omega)
    rw [show 1 + 50 * (j + 1) = 1 + 50 * j + 1 + 49 by omega, show 4 + 165 * (j + 1) = 4 + 165 * j + 5 + 160 by omega] at ih
    exact ih
theorem ciX1 (l : Launch) (Ω : Om) (q : Nat) : CiW l yX1_init wsX1_init (rmN 3 80 201 664) Ω q [(q, .inr (1, [.null, .int 0]))] 201 664 (fun w => ∃ a S, w = gHi Ω q a S) := by
  refine ci_intro (cc := cX1_init) (maxL := 2) [some (.ref q), none] (by decide +kernel) rfl rfl rfl (by decide) (fun Γ hL hini hQ => ?_)
  refine n_aload_n dX1_init_0 rfl ?_
  refine n_obj (M := mX1_init) (by decide +kernel) (by decide +kernel) (by decide +kernel) (Nat.le_of_ble_eq_true rfl) (Nat.le_of_ble_eq_true rfl) dX1_init_1 ?_
  refine n_aload_n dX1_init_4 rfl ?_
  refine n_iconst 4 dX1_init_5 (by decide) ?_
  refine n_newS (N := 4) rfl (Nat.le_of_ble_eq_true rfl) (by decide +kernel) (Nat.le_of_ble_eq_true rfl) (Nat.le_of_ble_eq_true rfl) dX1_init_6 (fun a => ?_)
  refine n_putF (ty := .array (.object RX3)) 0 rfl rfl 0 (by decide) jX1_init tyX1 tyX1_ok nmX1 lX1_init_11 rfl rfl hini (by decide +kernel) rfl rfl (Nat.le_of_ble_eq_true rfl) dX1_init_9 ?_
  refine nw_eq (ws' := hiW Ω q a (fun _ => (0, 0, fun _ => (0, 0, 0))) 0) (by
    unfold hiW
    simp [spL]) ?_
  refine n_iconst 0 dX1_init_12 (by decide) ?_
  refine n_istore_n dX1_init_13 (by decide) rfl ?_
  exact lpX1 hL hQ 4 0 _ rfl

