/-! more of the main class: what its calls need -/
def reA (a : Nat) (g : Sg → Prop) : Option Value → Sg → Prop := fun rv σ' => rv = some (.ref a) ∧ g σ'
theorem r_callVA {M : MI} {Γ : GmW} {Ω : Om} {σ : Sg} {pc : Nat} {lv : List (Option Value)} {st : List Value} {l : Launch} {y : MethodName} {ws : List Cond} {rm : Room} {C : String} {index n a : Nat} {g : Sg → Prop} (q0 : Nat) {As rest : List Value} (hL : gL Γ = l) (hC : CtW l y ws rm Ω (.ref (ad Ω q0) :: As) σ (reA a g)) (hco : CoV M index C y ws rm n)
    (hq : q0 < 371) (hrecv : ∃ ci fs q, cel Ω σ q0 = .inr (ci, fs) ∧ vwCl[ci]? = some q ∧ q.1 = C) (hn : As.length = n) (hs : st = As.reverse ++ .ref (ad Ω q0) :: rest) (hc : (rest.map fun v => v.category).sum ≤ 8) (hd : decode (mB M) pc = .ok (.invokevirtual index, 3))
    (kk : ∀ σ1 : Sg, g σ1 → AtW M Γ Ω σ1 (pc + 3) lv (.ref a :: rest)) : AtW M Γ Ω σ pc lv st := r_callV q0 As rest hL hC hco hq hrecv hn hs hc hd (fun rv σ1 h => by obtain ⟨rfl, h⟩ := h; exact kk _ h)
theorem isV_pic {σ σ1 : Sg} {p t : Nat} {v : SpV} (h : isV σ t v) (ht : t < 7) (hq : ∀ q, (q < iP p ∨ iP p + 4 < q) → σ1 q = σ q) : isV σ1 t v := by
  refine isV_keep h (hq _ (by unfold iS iP; omega)) (fun j hj => ?_)
  have hb := bx_lt ht hj
  exact ⟨hq _ (by unfold iBo iP; omega), hq _ (by unfold iL iP; omega), hq _ (by unfold iH iP; omega)⟩
theorem keepC_nc {σ : Sg} {d : Nat} {x y : Int32} : keepC σ (upS (upS σ (iL 112) d x) (iH 112) d y) := by
  intro q hq
  have h1 : ¬ (336 ≤ q ∧ q ≤ 338) := fun e => hq (Or.inr (Or.inr (Or.inl e)))
  rw [up_ne (by unfold iH; omega), up_ne (by unfold iL; omega)]
theorem lay3 {σ : Sg} {v : SpV} (hv : isV σ 1 v) (x y z a b c : Int32) : ∃ τ, upS (upS (upS (upS (upS (upS σ (iL 112) 0 x) (iH 112) 0 (x + a)) (iL 112) 1 y) (iH 112) 1 (y + b)) (iL 112) 2 z) (iH 112) 2 (z + c) = τ ∧ keepC σ τ ∧ isV τ 1 v ∧ ∀ d, d < 3 → τ (iL 112) d = v3 x y z d ∧ τ (iH 112) d = v3 (x + a) (y + b) (z + c) d := by
  refine ⟨_, rfl, keepC_tr keepC_nc (keepC_tr keepC_nc keepC_nc), ?_, fun d hd => ?_⟩
  · have f : ∀ q, q ≠ iL 112 → q ≠ iH 112 → upS (upS (upS (upS (upS (upS σ (iL 112) 0 x) (iH 112) 0 (x + a)) (iL 112) 1 y) (iH 112) 1 (y + b)) (iL 112) 2 z) (iH 112) 2 (z + c) q = σ q := fun q h1 h2 => by
      rw [up_ne h2, up_ne h1, up_ne h2, up_ne h1, up_ne h2, up_ne h1]
    refine isV_keep hv (f _ (by unfold iS iL; omega) (by unfold iS iH; omega)) (fun j hj => ⟨f _ ?_ ?_, f _ ?_ ?_, f _ ?_ ?_⟩)
    · unfold iBo iL bx; omega
    · unfold iBo iH bx; omega
    · unfold iL bx; omega
    · unfold iL iH bx; omega
    · unfold iH iL bx; omega
    · unfold iH bx; omega
  · have hne : iL 112 ≠ iH 112 := by unfold iL iH; omega
    obtain rfl | rfl | rfl : d = 0 ∨ d = 1 ∨ d = 2 := by omega
    all_goals simp [up_get, hne, hne.symm, v3]
theorem v_entcut {σ : Sg} {v : SpV} {x y z a b c : Int32} (h : isV σ 1 v) (hl : ∀ d, d < 3 → σ (iL 112) d = v3 x y z d ∧ σ (iH 112) d = v3 (x + a) (y + b) (z + c) d) : anyb (fun k => !decide (nI k = -1) && ctBx (σ (iL (bx 1 k))) (σ (iH (bx 1 k))) (σ (iL 112)) (σ (iH 112))) (vN v) = entCut v x y z a b c := by
  have hn := h.1
  refine anyb_c (fun j hj => ?_)
  have h1 : ¬ nI j = -1 := fun e => by
    have h2 : (nI j).toInt = (j : Int) := nI_toInt (by omega)
    have h3 : (-1 : Int32).toInt = -1 := by decide
    rw [e, h3] at h2
    omega
  rw [decide_eq_false h1, ctBx_c (v_lo h hj) (v_hi h hj) (fun d hd => (hl d hd).1) (fun d hd => (hl d hd).2)]
  rfl
theorem keepC_ap {σ σ1 : Sg} {o n : Nat} {r : Int32} (hn : n < 16) (h : apS σ 1 o n r σ1) : keepC σ σ1 := by
  obtain ⟨-, -, -, -, -, -, f⟩ := h.2 hn
  intro q hq
  have h1 : ¬ (48 ≤ q ∧ q < 96) := fun e => hq (Or.inl e)
  refine f q (fun e => hq (Or.inr (Or.inl (by rw [e]; rfl)))) ?_ ?_ ?_
  · unfold iBo bx; omega
  · unfold iL bx; omega
  · unfold iH bx; omega
def enI (σ : Sg) (v : SpV) (x y z a b c : Int32) (r : Int32) (σ1 : Sg) : Prop := r = entA v x y z a b c ∧ keepC σ σ1 ∧ (entOk v x y z a b c = true → isV σ1 1 (entV v x y z a b c))
theorem ent_neg {v : SpV} {x y z a b c : Int32} (h0 : ¬ vX v < 0) (h : entA v x y z a b c < 0) : entOk v x y z a b c = false := by
  unfold entA at h
  unfold entOk
  cases e1 : entR x y z a b c <;> cases e2 : entCut v x y z a b c <;> by_cases e3 : vN v = 16 <;> simp_all
  exact absurd h (Int32.not_lt.mpr h0)
theorem ent_pos {v : SpV} {x y z a b c : Int32} (h : ¬ entA v x y z a b c < 0) : entOk v x y z a b c = true ∧ entA v x y z a b c = vX v := by
  unfold entA at h ⊢
  unfold entOk
  cases e1 : entR x y z a b c <;> cases e2 : entCut v x y z a b c <;> by_cases e3 : vN v = 16 <;> simp_all
theorem ent_r1 {v : SpV} {x y z a b c : Int32} (h : inRg x a = false ∨ inRg y b = false ∨ inRg z c = false) : entA v x y z a b c = -2 ∧ entOk v x y z a b c = false := by
  unfold entA entOk entR
  rcases h with h | h | h <;> simp [h]
theorem gr_some {v : SpV} (h : ¬ oI (grV v) = -1) : ∃ k, k < vN v ∧ grV v = some k := by
  cases e : grV v with
  | none => rw [e] at h; exact absurd rfl h
  | some k => exact ⟨k, bestO_lt e, rfl⟩
theorem gr_none {v : SpV} (hn : vN v ≤ 16) (h : oI (grV v) = -1) : grV v = none := oI_none hn rfl h
theorem lgd_c {f g : Nat → Int32} {n : Nat} (h : ∀ k, k ≤ n → f k = g k) : ∀ m, m ≤ n → lgd f m = lgd g m
  | 0, _ => rfl
  | m + 1, hm => by
    have e := lgd_c h m (by omega)
    have hl := lgd_le g m
    rw [lgd, lgd, e, h _ hm, h _ (show lgd g m ≤ n by omega)]
theorem v_lgd {σ : Sg} {s k : Nat} {v : SpV} (h : isV σ s v) (hk : k < vN v) : lgd (szB σ (bx s k)) 2 = brD v k := lgd_c (n := 2) (fun d hd => v_sz h hk (by omega)) 2 (by omega)
theorem brD_lt (v : SpV) (k : Nat) : brD v k < 3 := by
  have := lgd_le (szG (vLo v) (vHi v) k) 2
  unfold brD
  omega
def bkI (σ : Sg) (v : SpV) (r : Int32) (σ2 : Sg) : Prop := r = brA v ∧ keepC σ σ2 ∧ (brO v = none ∨ ∃ w, brO v = some w ∧ isV σ2 1 w)
theorem br_none {v : SpV} (h : grV v = none) : brA v = -5 ∧ brO v = none := by
  unfold brA brO
  rw [h]
  exact ⟨rfl, rfl⟩
theorem br_one {v : SpV} {k : Nat} (h : grV v = some k) (h1 : ¬ 1 < szG (vLo v) (vHi v) k (brD v k)) : brA v = -4 ∧ brO v = none := by
  unfold brA brO
  rw [h]
  simp only [if_neg h1]
  exact ⟨trivial, trivial⟩
theorem br_full {v : SpV} {k : Nat} (h : grV v = some k) (h1 : 1 < szG (vLo v) (vHi v) k (brD v k)) (h2 : vN v = 16) : brA v = -3 ∧ brO v = none := by
  unfold brA brO
  rw [h]
  simp only [if_pos h1, if_pos h2]
  exact ⟨trivial, trivial⟩
theorem br_yes {v : SpV} {k : Nat} (h : grV v = some k) (h1 : 1 < szG (vLo v) (vHi v) k (brD v k)) (h2 : ¬ vN v = 16) : brA v = vX v ∧ brO v = some (brV v k) := by
  unfold brA brO
  rw [h]
  simp only [if_pos h1, if_neg h2]
  exact ⟨trivial, trivial⟩
theorem br_cases (v : SpV) : (brO v = none ∧ (brA v = -5 ∨ brA v = -4 ∨ brA v = -3)) ∨ ∃ k, grV v = some k ∧ k < vN v ∧ ¬ vN v = 16 ∧ brA v = vX v ∧ brO v = some (brV v k) := by
  cases e : grV v with
  | none => exact Or.inl ⟨(br_none e).2, Or.inl (br_none e).1⟩
  | some k =>
    by_cases h1 : 1 < szG (vLo v) (vHi v) k (brD v k)
    · by_cases h2 : vN v = 16
      · exact Or.inl ⟨(br_full e h1 h2).2, Or.inr (Or.inr (br_full e h1 h2).1)⟩
      · exact Or.inr ⟨k, rfl, bestO_lt e, h2, (br_yes e h1 h2).1, (br_yes e h1 h2).2⟩
    · exact Or.inl ⟨(br_one e h1).2, Or.inr (Or.inl (br_one e h1).1)⟩
/-- the boxes that are drawn are boxes -/
theorem drS_ix {n : Nat} {h wt o0 l0 : Nat → Int32} : ∀ {m j : Nat}, (∀ i, i < m → (nxO n h wt (drS n h wt o0 l0 i).1).isNone = false) → j < m → ∃ b, b < n ∧ (drS n h wt o0 l0 m).2.1 j = nI b
  | 0, j, _, hj => by omega
  | m + 1, j, hq, hj => by
    have hm := hq m (Nat.lt_succ_self m)
    cases hb : nxO n h wt (drS n h wt o0 l0 m).1 with
    | none => rw [hb] at hm; cases hm
    | some b =>
      rw [drS, hb]
      simp only [upd]
      by_cases e : j = m
      · rw [if_pos e]
        exact ⟨b, bestO_lt hb, rfl⟩
      · rw [if_neg e]
        exact drS_ix (fun i hi => hq i (Nat.lt_succ_of_lt hi)) (by omega)
theorem OV_ix {v : SpV} {j : Nat} (hj : j < DCv v) : ∃ b, b < vN v ∧ OV v j = nI b := by
  have hle : DCv v ≤ vN v := ffi_le _ _
  have e : OV v j = (DV v (DCv v)).2.1 j := drS_ord (j := DCv v) hle hj
  rw [e]
  exact drS_ix (fun i hi => ffi_no (p := fun j => (nxO (vN v) (HV v) (WVv v) (drS (vN v) (HV v) (WVv v) (fun _ => 0) (fun _ => -5) j).1).isNone) (n := vN v) hi) hj
theorem nI_nm1 {k : Nat} (h : k < 2 ^ 31) : ¬ nI k = -1 := fun e => by
  have h2 : (nI k).toInt = (k : Int) := nI_toInt h
  have h3 : (-1 : Int32).toInt = -1 := by decide
  rw [e, h3] at h2
  omega
theorem dr_some {v : SpV} {x : Int32} {f : Nat → Int32} (hn : vN v ≤ 16) (hf : ∀ j, j < DCv v → f j = OV v j) (h0 : ¬ x < 0) (h : ¬ (if x < 0 ∨ nI (DCv v) ≤ x then (-1 : Int32) else f x.toNatClampNeg) = -1) : ∃ j b, j < DCv v ∧ b < vN v ∧ x = nI j ∧ OV v j = nI b ∧ (if x < 0 ∨ nI (DCv v) ≤ x then (-1 : Int32) else f x.toNatClampNeg) = nI b := by
  have hle : DCv v ≤ vN v := ffi_le _ _
  by_cases c : x < 0 ∨ nI (DCv v) ≤ x
  · rw [if_pos c] at h
    exact absurd rfl h
  · rw [if_neg c]
    obtain ⟨j, hj, rfl⟩ := slot_ix h0 (Int32.not_le.mp (fun q => c (Or.inr q))) (by omega)
    obtain ⟨b, hb, e⟩ := OV_ix hj
    exact ⟨j, b, hj, hb, rfl, e, by rw [nI_clamp (by omega), hf j hj, e]⟩
theorem dr_none {v : SpV} {x : Int32} {f : Nat → Int32} (hn : vN v ≤ 16) (hf : ∀ j, j < DCv v → f j = OV v j) (h0 : ¬ x < 0) (h : (if x < 0 ∨ nI (DCv v) ≤ x then (-1 : Int32) else f x.toNatClampNeg) = -1) : ¬ x < nI (DCv v) := by
  have hle : DCv v ≤ vN v := ffi_le _ _
  intro c
  obtain ⟨j, hj, rfl⟩ := slot_ix h0 c (by omega)
  obtain ⟨b, hb, e⟩ := OV_ix hj
  rw [if_neg (by rintro (q | q); exact h0 q; exact Int32.not_le.mpr c q), nI_clamp (by omega), hf j hj, e] at h
  exact nI_nm1 (by omega) h
theorem fI_some {p : Nat → Bool} {n : Nat} (h : ¬ fI p n = -1) : ∃ k, k < n ∧ fI p n = nI k := by
  unfold fI at h ⊢
  by_cases c : ffi p n < n
  · exact ⟨_, c, by rw [if_pos c]⟩
  · rw [if_neg c] at h
    exact absurd rfl h
theorem waI_v {v : SpV} {k p : Nat} {σ1 : Sg} (h : pcV v p σ1) (hk : k < vN v) : fI (fun j => hasB (σ1 (iP p + 1) k) j && !hasB (σ1 (iP p) 4) j) (vN v) = waI v k := by
  unfold waI
  rw [(h.2.1 k hk).1, h.2.2.1]
theorem sw_out {x : Int32} {m : Nat} (hm : m < 1000) (h : ∀ k, k ≤ m → ¬ x = nI k) : x.toInt < 0 ∨ (m : Int) < x.toInt := by
  rcases pk_ix x (show m + 1 < 2 ^ 31 by omega) with q | q | ⟨j, hj, q⟩
  · refine Or.inl ?_
    have := Int32.lt_iff_toInt_lt.mp q
    simpa using this
  · refine Or.inr ?_
    have h1 := Int32.le_iff_toInt_le.mp q
    rw [nI_toInt (by omega)] at h1
    omega
  · exact absurd q (h j (by omega))
theorem ofA_0 (v : SpV) (k : Nat) : ofA v k 0 = voG (vLo v) (vHi v) k := by
  unfold ofA
  rw [if_pos rfl]
theorem ofA_1 (v : SpV) (k : Nat) : ofA v k 1 = bcI (HV v k) := by
  unfold ofA
  rw [if_neg (by decide), if_pos rfl]
theorem ofA_2 (v : SpV) (k : Nat) : ofA v k 2 = cntI (fun j => hasB (HV v j) k) (vN v) := by
  unfold ofA
  rw [if_neg (by decide), if_neg (by decide), if_pos rfl]
theorem ofA_3 (v : SpV) (k : Nat) : ofA v k 3 = LV v k := by
  unfold ofA
  rw [if_neg (by decide), if_neg (by decide), if_neg (by decide), if_pos rfl]
theorem ofA_4 (v : SpV) (k : Nat) : ofA v k 4 = srO (HV v) (vN v) k := by
  unfold ofA
  rw [if_neg (by decide), if_neg (by decide), if_neg (by decide), if_neg (by decide), if_pos rfl]
theorem ofA_5 (v : SpV) (k : Nat) : ofA v k 5 = supV v k := by
  unfold ofA
  rw [if_neg (by decide), if_neg (by decide), if_neg (by decide), if_neg (by decide), if_neg (by decide), if_pos rfl]
theorem ofA_6 (v : SpV) (k : Nat) : ofA v k 6 = belV v k := by
  unfold ofA
  rw [if_neg (by decide), if_neg (by decide), if_neg (by decide), if_neg (by decide), if_neg (by decide), if_neg (by decide), if_pos rfl]
theorem ofA_7 (v : SpV) (k : Nat) : ofA v k 7 = shaV v k := by
  unfold ofA
  rw [if_neg (by decide), if_neg (by decide), if_neg (by decide), if_neg (by decide), if_neg (by decide), if_neg (by decide), if_neg (by decide), if_pos rfl]
theorem ofA_8 (v : SpV) (k : Nat) : ofA v k 8 = (if vLo v k 2 = 0 then 1 else if 0 < supV v k then 1 else 0) := by
  unfold ofA
  rw [if_neg (by decide), if_neg (by decide), if_neg (by decide), if_neg (by decide), if_neg (by decide), if_neg (by decide), if_neg (by decide), if_neg (by decide), if_pos rfl]
theorem ofA_d {v : SpV} {k : Nat} {w : Int32} (h : ∀ j, j ≤ 8 → ¬ w = nI j) : ofA v k w = -2 := by
  unfold ofA
  rw [if_neg (show ¬ w = 0 from h 0 (by omega)), if_neg (show ¬ w = 1 from h 1 (by omega)), if_neg (show ¬ w = 2 from h 2 (by omega)), if_neg (show ¬ w = 3 from h 3 (by omega)), if_neg (show ¬ w = 4 from h 4 (by omega)), if_neg (show ¬ w = 5 from h 5 (by omega)), if_neg (show ¬ w = 6 from h 6 (by omega)), if_neg (show ¬ w = 7 from h 7 (by omega)), if_neg (show ¬ w = 8 from h 8 (by omega))]
theorem toA_0 (S : StV) : toA S 0 = nI (vN (qC S)) := by
  unfold toA
  rw [if_pos rfl]
theorem toA_1 (S : StV) : toA S 1 = vX (qC S) := by
  unfold toA
  rw [if_neg (by decide), if_pos rfl]
theorem toA_2 (S : StV) : toA S 2 = sumI (fun k => bcI (HV (qC S) k)) (vN (qC S)) := by
  unfold toA
  rw [if_neg (by decide), if_neg (by decide), if_pos rfl]
theorem toA_3 (S : StV) : toA S 3 = nI (DCv (qC S)) := by
  unfold toA
  rw [if_neg (by decide), if_neg (by decide), if_neg (by decide), if_pos rfl]
theorem toA_4 (S : StV) : toA S 4 = cntI (fun k => hasB (CVv (qC S) k) k) (vN (qC S)) := by
  unfold toA
  rw [if_neg (by decide), if_neg (by decide), if_neg (by decide), if_neg (by decide), if_pos rfl]
theorem toA_5 (S : StV) : toA S 5 = srI (HV (qC S)) (vN (qC S)) (vN (qC S)) := by
  unfold toA
  rw [if_neg (by decide), if_neg (by decide), if_neg (by decide), if_neg (by decide), if_neg (by decide), if_pos rfl]
theorem toA_6 (S : StV) : toA S 6 = glI (LV (qC S)) (vN (qC S)) := by
  unfold toA
  rw [if_neg (by decide), if_neg (by decide), if_neg (by decide), if_neg (by decide), if_neg (by decide), if_neg (by decide), if_pos rfl]
theorem toA_7 (S : StV) : toA S 7 = vSp (qC S) := by
  unfold toA
  rw [if_neg (by decide), if_neg (by decide), if_neg (by decide), if_neg (by decide), if_neg (by decide), if_neg (by decide), if_neg (by decide), if_pos rfl]
theorem toA_8 (S : StV) : toA S 8 = sumI (voG (vLo (qC S)) (vHi (qC S))) (vN (qC S)) := by
  unfold toA
  rw [if_neg (by decide), if_neg (by decide), if_neg (by decide), if_neg (by decide), if_neg (by decide), if_neg (by decide), if_neg (by decide), if_neg (by decide), if_pos rfl]
theorem toA_9 (S : StV) : toA S 9 = sumI (shaV (qC S)) (vN (qC S)) := by
  unfold toA
  rw [if_neg (by decide), if_neg (by decide), if_neg (by decide), if_neg (by decide), if_neg (by decide), if_neg (by decide), if_neg (by decide), if_neg (by decide), if_neg (by decide), if_pos rfl]
theorem toA_10 (S : StV) : toA S 10 = vRu (qC S) := by
  unfold toA
  rw [if_neg (by decide), if_neg (by decide), if_neg (by decide), if_neg (by decide), if_neg (by decide), if_neg (by decide), if_neg (by decide), if_neg (by decide), if_neg (by decide), if_neg (by decide), if_pos rfl]
theorem toA_11 (S : StV) : toA S 11 = nI (qN S) := by
  unfold toA
  rw [if_neg (by decide), if_neg (by decide), if_neg (by decide), if_neg (by decide), if_neg (by decide), if_neg (by decide), if_neg (by decide), if_neg (by decide), if_neg (by decide), if_neg (by decide), if_neg (by decide), if_pos rfl]
theorem toA_12 (S : StV) : toA S 12 = nI (qL S) := by
  unfold toA
  rw [if_neg (by decide), if_neg (by decide), if_neg (by decide), if_neg (by decide), if_neg (by decide), if_neg (by decide), if_neg (by decide), if_neg (by decide), if_neg (by decide), if_neg (by decide), if_neg (by decide), if_neg (by decide), if_pos rfl]
theorem toA_d {S : StV} {w : Int32} (h : ∀ j, j ≤ 12 → ¬ w = nI j) : toA S w = -2 := by
  unfold toA
  rw [if_neg (show ¬ w = 0 from h 0 (by omega)), if_neg (show ¬ w = 1 from h 1 (by omega)), if_neg (show ¬ w = 2 from h 2 (by omega)), if_neg (show ¬ w = 3 from h 3 (by omega)), if_neg (show ¬ w = 4 from h 4 (by omega)), if_neg (show ¬ w = 5 from h 5 (by omega)), if_neg (show ¬ w = 6 from h 6 (by omega)), if_neg (show ¬ w = 7 from h 7 (by omega)), if_neg (show ¬ w = 8 from h 8 (by omega)), if_neg (show ¬ w = 9 from h 9 (by omega)), if_neg (show ¬ w = 10 from h 10 (by omega)), if_neg (show ¬ w = 11 from h 11 (by omega)), if_neg (show ¬ w = 12 from h 12 (by omega))]
theorem br_neg {v : SpV} (h : brO v = none) : brA v < 0 := by
  rcases br_cases v with ⟨_, q⟩ | ⟨k, _, _, _, _, q⟩
  · rcases q with q | q | q <;> rw [q] <;> decide
  · rw [h] at q
    cases q
theorem nI_nm5 {k : Nat} (h : k < 2 ^ 31) : ¬ nI k = -5 := fun e => by
  have h2 : (nI k).toInt = (k : Int) := nI_toInt h
  have h3 : (-5 : Int32).toInt = -5 := by decide
  rw [e, h3] at h2
  omega
theorem keepC_qt {σ σ1 : Sg} {n : Nat} (h : qtI σ 1 n σ1) : keepC σ σ1 := fun q hq => h.2.2 q (fun j hj => by
  have h1 : ¬ (48 ≤ q ∧ q < 96) := fun x => hq (Or.inl x)
  refine ⟨?_, ?_, ?_⟩
  · unfold iBo bx; omega
  · unfold iL bx; omega
  · unfold iH bx; omega)
