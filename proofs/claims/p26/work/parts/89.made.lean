/-! what the constructors leave is the one world -/
def sgN : Sg := fun k i => if k = 364 then nI (3 + i) else 0
theorem sgN_ne {k : Nat} (h : k ≠ 364) : sgN k = fun _ => 0 := by
  funext i
  unfold sgN
  rw [if_neg h]
/-- the cells' addresses by their numbers: spaces with their boxes; all others -/
def adW (SS : Nat → SpA) (T : Nat → Nat) (k : Nat) : Nat :=
  if k < 336 then (if k % 3 = 0 then ((SS (k / 3 / 16)).2.2 (k / 3 % 16)).1 else if k % 3 = 1 then ((SS (k / 3 / 16)).2.2 (k / 3 % 16)).2.1 else ((SS (k / 3 / 16)).2.2 (k / 3 % 16)).2.2)
  else if k < 339 then T k
  else if k < 353 then (if k % 2 = 1 then (SS ((k - 339) / 2)).1 else (SS ((k - 339) / 2)).2.1)
  else T k
def OmM (D : va_G) (ci : Nat → ClassId) (SS : Nat → SpA) (T : Nat → Nat) : Om := (D, ci, adW SS T)
section ADS
variable {D : va_G} {ci : Nat → ClassId} {SS : Nat → SpA} {T : Nat → Nat}
theorem adm_B {s j : Nat} (hs : s < 7) (hj : j < 16) : ad (OmM D ci SS T) (iBo (bx s j)) = ((SS s).2.2 j).1 := by
  show adW SS T (iBo (bx s j)) = _
  unfold adW iBo bx
  rw [if_pos (by omega), if_pos (by omega), show 3 * (16 * s + j) / 3 / 16 = s by omega, show 3 * (16 * s + j) / 3 % 16 = j by omega]
theorem adm_L {s j : Nat} (hs : s < 7) (hj : j < 16) : ad (OmM D ci SS T) (iL (bx s j)) = ((SS s).2.2 j).2.1 := by
  show adW SS T (iL (bx s j)) = _
  unfold adW iL bx
  rw [if_pos (by omega), if_neg (by omega), if_pos (by omega), show (3 * (16 * s + j) + 1) / 3 / 16 = s by omega, show (3 * (16 * s + j) + 1) / 3 % 16 = j by omega]
theorem adm_H {s j : Nat} (hs : s < 7) (hj : j < 16) : ad (OmM D ci SS T) (iH (bx s j)) = ((SS s).2.2 j).2.2 := by
  show adW SS T (iH (bx s j)) = _
  unfold adW iH bx
  rw [if_pos (by omega), if_neg (by omega), if_neg (by omega), show (3 * (16 * s + j) + 2) / 3 / 16 = s by omega, show (3 * (16 * s + j) + 2) / 3 % 16 = j by omega]
theorem adm_S {s : Nat} (hs : s < 7) : ad (OmM D ci SS T) (iS s) = (SS s).1 := by
  show adW SS T (iS s) = _
  unfold adW iS
  rw [if_neg (by omega), if_neg (by omega), if_pos (by omega), if_pos (by omega), show (339 + 2 * s - 339) / 2 = s by omega]
theorem adm_A {s : Nat} (hs : s < 7) : ad (OmM D ci SS T) (iA s) = (SS s).2.1 := by
  show adW SS T (iA s) = _
  unfold adW iA
  rw [if_neg (by omega), if_neg (by omega), if_pos (by omega), if_neg (by omega), show (340 + 2 * s - 339) / 2 = s by omega]
theorem wp_app {cl : List vw_C} {a b : va_W} {H : Heap} (h : va_P D cl (a ++ b) H) : va_P D cl a H ∧ va_P D cl b H := by
  refine ⟨fun k q hq => h k q ?_, fun k q hq => h (a.length + k) q ?_⟩
  · rw [List.getElem?_append_left (List.getElem?_eq_some_iff.mp hq).1]
    exact hq
  · rw [List.getElem?_append_right (by omega), show a.length + k - a.length = k by omega]
    exact hq
theorem bxL_at {Ω : Om} {cl : List vw_C} {F : Nat → Nat × Nat × Nat} {H : Heap} : ∀ {n : Nat}, va_P D cl (bxL Ω F n) H → ∀ i, i < n → va_P D cl (gBx Ω (F i).1 (F i).2.1 (F i).2.2) H
  | 0, _, i, hi => absurd hi (Nat.not_lt_zero i)
  | n + 1, h, i, hi => by
    obtain ⟨h1, h2⟩ := wp_app h
    by_cases e : i = n
    · rw [e]
      exact h2
    · exact bxL_at h1 i (by omega)
theorem spL_at {Ω : Om} {cl : List vw_C} {S : Nat → SpA} {H : Heap} : ∀ {n : Nat}, va_P D cl (spL Ω S n) H → ∀ i, i < n → va_P D cl (gSp Ω (S i).1 (S i).2.1 (S i).2.2) H
  | 0, _, i, hi => absurd hi (Nat.not_lt_zero i)
  | n + 1, h, i, hi => by
    obtain ⟨h1, h2⟩ := wp_app h
    by_cases e : i = n
    · rw [e]
      exact h2
    · exact spL_at h1 i (by omega)
def cOk (Ω : Om) (H : Heap) (k : Nat) : Prop := va_at Ω.1 vwCl (ad Ω k, cel Ω sgN k) H
theorem mk_sp {z : Nat → Nat} {s : Nat} {H : Heap} (hs : s < 7) (h : va_P D vwCl (gSp (D, ci, z) (SS s).1 (SS s).2.1 (SS s).2.2) H) : cOk (OmM D ci SS T) H (iS s) ∧ cOk (OmM D ci SS T) H (iA s) ∧ ∀ j, j < 16 → cOk (OmM D ci SS T) H (iBo (bx s j)) ∧ cOk (OmM D ci SS T) H (iL (bx s j)) ∧ cOk (OmM D ci SS T) H (iH (bx s j)) := by
  obtain ⟨h1, h2⟩ := wp_cons.mp h
  obtain ⟨h3, h4⟩ := wp_cons.mp h2
  unfold cOk
  refine ⟨?_, ?_, fun j hj => ?_⟩
  · rw [cel_sp hs, adm_S hs, adm_A hs, sgN_ne (by unfold iS; omega)]
    exact h1
  · rw [cel_spA hs, adm_A hs]
    refine rf_cell (fun i hi => ?_) h3
    show some ((SS s).2.2 i).1 = some (ad (OmM D ci SS T) (iBo (bx s i)))
    rw [adm_B hs hi]
  · have hb := bx_lt hs hj
    have g := bxL_at h4 j hj
    rw [cel_box hb, cel_low hb, cel_high hb, adm_B hs hj, adm_L hs hj, adm_H hs hj, sgN_ne (k := iBo (bx s j)) (by unfold iBo bx; omega), sgN_ne (k := iL (bx s j)) (by unfold iL bx; omega), sgN_ne (k := iH (bx s j)) (by unfold iH bx; omega)]
    exact ⟨g 0 _ rfl, g 1 _ rfl, g 2 _ rfl⟩
end ADS
/-- the cells' numbers in the order in which they were made -/
def ksB (s : Nat) : Nat → List Nat
  | 0 => []
  | j + 1 => ksB s j ++ [3 * (16 * s + j), 3 * (16 * s + j) + 1, 3 * (16 * s + j) + 2]
def ksS (s : Nat) : List Nat := (339 + 2 * s) :: (340 + 2 * s) :: ksB s 16
def ksA : List Nat := ((368 :: (((((((ksS 0 ++ ksS 1) ++ ksS 2) ++ (363 :: 364 :: ((((([] ++ ksS 3) ++ ksS 4) ++ ksS 5) ++ ksS 6)))) ++ [365, 366, 367]) ++ [353, 354, 355, 356, 357]) ++ [358, 359, 360, 361, 362]) ++ [336, 337, 338])) ++ [369]) ++ [370]
theorem ksA_all : (List.range 371).all (fun k => ksA.contains k) = true := by decide +kernel
theorem ksA_mem {k : Nat} (h : k < 371) : k ∈ ksA := by
  have := List.all_eq_true.mp ksA_all k (List.mem_range.mpr h)
  exact List.contains_iff_mem.mp this
theorem bxL_ad {D : va_G} {ci : Nat → ClassId} {z : Nat → Nat} {SS : Nat → SpA} {T : Nat → Nat} {s : Nat} (hs : s < 7) : ∀ {n : Nat}, n ≤ 16 → (bxL (D, ci, z) (SS s).2.2 n).map (fun q => q.1) = (ksB s n).map (ad (OmM D ci SS T))
  | 0, _ => rfl
  | n + 1, hn => by
    rw [bxL, ksB, List.map_append, List.map_append, bxL_ad hs (by omega)]
    congr 1
    show [((SS s).2.2 n).1, ((SS s).2.2 n).2.1, ((SS s).2.2 n).2.2] = [ad (OmM D ci SS T) (iBo (bx s n)), ad (OmM D ci SS T) (iL (bx s n)), ad (OmM D ci SS T) (iH (bx s n))]
    rw [adm_B hs (by omega), adm_L hs (by omega), adm_H hs (by omega)]
theorem gSp_ad {D : va_G} {ci : Nat → ClassId} {z : Nat → Nat} {SS : Nat → SpA} {T : Nat → Nat} {s : Nat} (hs : s < 7) : (gSp (D, ci, z) (SS s).1 (SS s).2.1 (SS s).2.2).map (fun q => q.1) = (ksS s).map (ad (OmM D ci SS T)) := by
  unfold gSp ksS
  rw [List.map_cons, List.map_cons, List.map_cons, List.map_cons, bxL_ad hs (Nat.le_refl _)]
  show (SS s).1 :: (SS s).2.1 :: _ = ad (OmM D ci SS T) (iS s) :: ad (OmM D ci SS T) (iA s) :: _
  rw [adm_S hs, adm_A hs]
theorem cw_D {A : Nat → Prop} {W : va_W} {Ω : Om} {σ : Sg} (e : W.map (fun q => q.1) = ksA.map (ad Ω)) (h : va_D A W) : va_D A (CW Ω σ) := by
  have key : ∀ (k : Nat) (q : Nat × va_E), (CW Ω σ)[k]? = some q → ∃ (i : Nat) (q' : Nat × va_E), ksA[i]? = some k ∧ W[i]? = some q' ∧ q'.1 = q.1 := fun k q hq => by
    have hk : k < 371 := by
      by_cases c : k < 371
      · exact c
      · simp [CW, c] at hq
    rw [CW_get hk] at hq
    cases hq
    obtain ⟨i, hi⟩ := List.getElem?_of_mem (ksA_mem hk)
    have h1 : (ksA.map (ad Ω))[i]? = some (ad Ω k) := by rw [List.getElem?_map, hi]; rfl
    rw [← e, List.getElem?_map] at h1
    cases h2 : W[i]? with
    | none => rw [h2] at h1; cases h1
    | some q' =>
      rw [h2] at h1
      exact ⟨i, q', hi, h2, Option.some.inj h1⟩
  refine ⟨fun i j p q hp hq e => ?_, fun k q hq => ?_⟩
  · obtain ⟨a, p', h1, h2, h3⟩ := key i p hp
    obtain ⟨b, q', h4, h5, h6⟩ := key j q hq
    have : a = b := h.1 a b p' q' h2 h5 (by rw [h3, h6, e])
    rw [this, h4] at h1
    exact (Option.some.inj h1).symm
  · obtain ⟨a, q', h1, h2, h3⟩ := key k q hq
    rw [← h3]
    exact h.2 a q' h2
theorem cw_P {Ω : Om} {H : Heap} (h : ∀ k, k < 371 → cOk Ω H k) : va_P Ω.1 vwCl (CW Ω sgN) H := fun k q hq => by
  have hk : k < 371 := by
    by_cases c : k < 371
    · exact c
    · simp [CW, c] at hq
  rw [CW_get hk] at hq
  cases hq
  exact h k hk
/-- the seven spaces, and all other cells' addresses, as the constructors left them -/
def ssW (S0 S1 S2 : SpA) (S : Nat → SpA) : Nat → SpA
  | 0 => S0
  | 1 => S1
  | 2 => S2
  | s + 3 => S s
def tW (l1 l2 : List Nat) (k : Nat) : Nat := if k < 339 then l1.getD (k - 336) 0 else l2.getD (k - 353) 0
set_option maxRecDepth 20000 in
theorem made_P {D : va_G} {ci : Nat → ClassId} {z : Nat → Nat} {q h a t t1 t2 p p1 p2 p3 p4 r r1 r2 r3 r4 b b1 b2 c0 c1 : Nat} {S0 S1 S2 : SpA} {S : Nat → SpA} {H : Heap}
    (hP : va_P D vwCl (gMa (D, ci, z) q S0 S1 S2 h a S t t1 t2 p p1 p2 p3 p4 r r1 r2 r3 r4 b b1 b2 ++ [(c0, .inl (ci 0, 60, .inl (fun _ => 0)))] ++ [(c1, .inl (ci 0, 10, .inl (fun _ => 0)))]) H) :
    va_P D vwCl (CW (OmM D ci (ssW S0 S1 S2 S) (tW [b, b1, b2] [p, p1, p2, p3, p4, r, r1, r2, r3, r4, h, a, t, t1, t2, q, c0, c1])) sgN) H := by
  obtain ⟨hP, hR1⟩ := wp_app hP
  obtain ⟨hM, hR0⟩ := wp_app hP
  obtain ⟨hq, h0⟩ := wp_cons.mp hM
  obtain ⟨h0, hb⟩ := wp_app h0
  obtain ⟨h0, hr⟩ := wp_app h0
  obtain ⟨h0, hp⟩ := wp_app h0
  obtain ⟨h0, ht⟩ := wp_app h0
  obtain ⟨h0, hh⟩ := wp_app h0
  obtain ⟨h0, h2⟩ := wp_app h0
  obtain ⟨h0, h1⟩ := wp_app h0
  obtain ⟨hh0, hh⟩ := wp_cons.mp hh
  obtain ⟨hh1, hh⟩ := wp_cons.mp hh
  generalize hT : tW [b, b1, b2] [p, p1, p2, p3, p4, r, r1, r2, r3, r4, h, a, t, t1, t2, q, c0, c1] = T
  have sp : ∀ s, s < 7 → va_P D vwCl (gSp (D, ci, z) (ssW S0 S1 S2 S s).1 (ssW S0 S1 S2 S s).2.1 (ssW S0 S1 S2 S s).2.2) H := fun s hs => by
    rcases (show s = 0 ∨ s = 1 ∨ s = 2 ∨ ∃ j, j < 4 ∧ s = j + 3 by
      by_cases c : s < 3
      · omega
      · exact Or.inr (Or.inr (Or.inr ⟨s - 3, by omega, by omega⟩))) with rfl | rfl | rfl | ⟨j, hj, rfl⟩
    · exact h0
    · exact h1
    · exact h2
    · exact spL_at hh j hj
  refine cw_P (fun k hk => ?_)
  by_cases k1 : k < 336
  · have g := (mk_sp (T := T) (show k / 3 / 16 < 7 by omega) (sp (k / 3 / 16) (by omega))).2.2 (k / 3 % 16) (by omega)
    have e : 16 * (k / 3 / 16) + k / 3 % 16 = k / 3 := by omega
    unfold iBo iL iH bx at g
    rw [e] at g
    rcases (show k = 3 * (k / 3) ∨ k = 3 * (k / 3) + 1 ∨ k = 3 * (k / 3) + 2 by omega) with e | e | e
    · rw [e]; exact g.1
    · rw [e]; exact g.2.1
    · rw [e]; exact g.2.2
  by_cases k2 : 339 ≤ k ∧ k < 353
  · have g := mk_sp (T := T) (show (k - 339) / 2 < 7 by omega) (sp ((k - 339) / 2) (by omega))
    unfold iS iA at g
    rcases (show k = 339 + 2 * ((k - 339) / 2) ∨ k = 340 + 2 * ((k - 339) / 2) by omega) with e | e
    · rw [e]; exact g.1
    · rw [e]; exact g.2.1
  subst hT
  rcases (show k = 336 ∨ k = 337 ∨ k = 338 ∨ k = 353 ∨ k = 354 ∨ k = 355 ∨ k = 356 ∨ k = 357 ∨ k = 358 ∨ k = 359 ∨ k = 360 ∨ k = 361 ∨ k = 362 ∨ 363 ≤ k by omega) with e | e | e | e | e | e | e | e | e | e | e | e | e | k3
  · subst e; exact hb 0 _ rfl
  · subst e; exact hb 1 _ rfl
  · subst e; exact hb 2 _ rfl
  · subst e; exact hp 0 _ rfl
  · subst e; exact hp 1 _ rfl
  · subst e; exact hp 2 _ rfl
  · subst e; exact hp 3 _ rfl
  · subst e; exact hp 4 _ rfl
  · subst e; exact hr 0 _ rfl
  · subst e; exact hr 1 _ rfl
  · subst e; exact hr 2 _ rfl
  · subst e; exact hr 3 _ rfl
  · subst e; exact hr 4 _ rfl
  rcases (show k = 363 ∨ k = 364 ∨ k = 365 ∨ k = 366 ∨ k = 367 ∨ k = 368 ∨ k = 369 ∨ k = 370 by omega) with e | e | e | e | e | e | e | e
  · subst e; exact hh0
  · subst e
    refine rf_cell (n := 4) (fun i hi => ?_) hh1
    show some (S i).1 = some (ad (OmM D ci (ssW S0 S1 S2 S) _) (iS (nI (3 + i)).toNatClampNeg))
    rw [nI_clamp (by omega), adm_S (by omega), Nat.add_comm 3 i]
    rfl
  · subst e; exact ht 0 _ rfl
  · subst e; exact ht 1 _ rfl
  · subst e; exact ht 2 _ rfl
  · subst e; exact hq
  · subst e; exact hR0 0 _ rfl
  · subst e; exact hR1 0 _ rfl
theorem made_D {D : va_G} {ci : Nat → ClassId} {z : Nat → Nat} {A : Nat → Prop} {σ : Sg} {q h a t t1 t2 p p1 p2 p3 p4 r r1 r2 r3 r4 b b1 b2 c0 c1 : Nat} {S0 S1 S2 : SpA} {S : Nat → SpA}
    (hD : va_D A (gMa (D, ci, z) q S0 S1 S2 h a S t t1 t2 p p1 p2 p3 p4 r r1 r2 r3 r4 b b1 b2 ++ [(c0, .inl (ci 0, 60, .inl (fun _ => 0)))] ++ [(c1, .inl (ci 0, 10, .inl (fun _ => 0)))])) :
    va_D A (CW (OmM D ci (ssW S0 S1 S2 S) (tW [b, b1, b2] [p, p1, p2, p3, p4, r, r1, r2, r3, r4, h, a, t, t1, t2, q, c0, c1])) σ) := by
  refine cw_D ?_ hD
  have sp : ∀ s, s < 7 → (gSp (D, ci, z) (ssW S0 S1 S2 S s).1 (ssW S0 S1 S2 S s).2.1 (ssW S0 S1 S2 S s).2.2).map (fun q => q.1) = (ksS s).map (ad (OmM D ci (ssW S0 S1 S2 S) (tW [b, b1, b2] [p, p1, p2, p3, p4, r, r1, r2, r3, r4, h, a, t, t1, t2, q, c0, c1]))) := fun s hs => gSp_ad hs
  unfold gMa ksA gHi
  simp only [spL, List.map_append, List.map_cons]
  have s0 := sp 0 (by omega)
  have s1 := sp 1 (by omega)
  have s2 := sp 2 (by omega)
  have s3 := sp 3 (by omega)
  have s4 := sp 4 (by omega)
  have s5 := sp 5 (by omega)
  have s6 := sp 6 (by omega)
  unfold ssW at s0 s1 s2 s3 s4 s5 s6
  simp only at s0 s1 s2 s3 s4 s5 s6
  rw [s0, s1, s2, s3, s4, s5, s6]
  rfl
