/-! REFERENCE: history, snapshot, text; try, put -/
theorem oI_nn {p : Nat → Bool} {lt : Nat → Nat → Bool} {k : Nat} {x : Int32} (hx : x = oI (bestO p lt k)) (h : ¬ x < 0) : ∃ j, j < k ∧ bestO p lt k = some j ∧ x = nI j := oI_some hx (fun q => h (by rw [q]; decide))
theorem oI_lt {p : Nat → Bool} {lt : Nat → Nat → Bool} {k : Nat} {x : Int32} (hk : k ≤ 16) (hx : x = oI (bestO p lt k)) (h : x < 0) : bestO p lt k = none := by
  cases e : bestO p lt k with
  | none => rfl
  | some j =>
    have hj := bestO_lt e
    rw [e] at hx
    rw [show x = nI j from hx] at h
    exact absurd h (nI_pos (by omega))
def hsM (σ : Sg) (n : Nat) (hs : Nat → SpV) : Prop := σ 369 3 = nI n ∧ n ≤ 4 ∧ ∀ i, i < n → isZ (fun k => σ 372 (116 * i + k)) (hs i)
def snM (σ : Sg) (p : Option SpV) : Prop := (σ 369 5 = 1 ∧ ∃ v, p = some v ∧ isZ (σ 373) v) ∨ (σ 369 5 = 0 ∧ p = none)
def txM (σ : Sg) (L : Nat) (t : Nat → Int32) : Prop := σ 369 7 = nI L ∧ L ≤ 80 ∧ ∀ i, i < L → σ 374 i = t i
def isMd (σ : Sg) (S : StV) : Prop := isZ (σ 370) (qC S) ∧ hsM σ (qN S) (qH S) ∧ snM σ (qP S) ∧ txM σ (qL S) (qT S)
def keepLw (σ σ1 : Sg) : Prop := ∀ q, q < 369 → σ1 q = σ q
def okMd (σ : Sg) (o : Int32 × StV) (r : Int32) (σ1 : Sg) : Prop := r = o.1 ∧ isMd σ1 o.2 ∧ keepLw σ σ1
theorem okMd_of {σ σ1 : Sg} {o : Int32 × StV} {r : Int32} {S' : StV} (e : o = (r, S')) (h : isMd σ1 S') (hk : keepLw σ σ1) : okMd σ o r σ1 := by
  rw [e]
  exact ⟨rfl, h, hk⟩
theorem isMd_kr {σ σ1 : Sg} {S : StV} (h : isMd σ S) (hk : keepRf σ σ1) : isMd σ1 S := by
  obtain ⟨h1, h2, h3, h4⟩ := h
  refine ⟨keepRf_z h1 hk, ?_, ?_, ?_⟩
  · unfold hsM
    rw [hk.2 3 (by omega) (by omega) (by omega), hk.1 372 (by omega)]
    exact h2
  · unfold snM
    rw [hk.2 5 (by omega) (by omega) (by omega), hk.1 373 (by omega)]
    exact h3
  · unfold txM
    rw [hk.2 7 (by omega) (by omega) (by omega), hk.1 374 (by omega)]
    exact h4
theorem keepLw_kr {σ σ1 : Sg} (h : keepRf σ σ1) : keepLw σ σ1 := fun q hq => h.1 q (by omega)
theorem keepLw_rfl (σ : Sg) : keepLw σ σ := fun _ _ => rfl
theorem keepLw_tr {σ τ υ : Sg} (h1 : keepLw σ τ) (h2 : keepLw τ υ) : keepLw σ υ := fun q hq => (h2 q hq).trans (h1 q hq)
theorem md_z {σ σ1 : Sg} {S : StV} {w : SpV} (h : isMd σ S) (hk : ∀ q, q ≠ 370 → σ1 q = σ q) (hw : isZ (σ1 370) w) : isMd σ1 (w, S.2) := by
  obtain ⟨h1, h2, h3, h4⟩ := h
  refine ⟨hw, ?_, ?_, ?_⟩
  · show hsM σ1 (qN S) (qH S)
    unfold hsM
    rw [hk 369 (by omega), hk 372 (by omega)]
    exact h2
  · show snM σ1 (qP S)
    unfold snM
    rw [hk 369 (by omega), hk 373 (by omega)]
    exact h3
  · show txM σ1 (qL S) (qT S)
    unfold txM
    rw [hk 369 (by omega), hk 374 (by omega)]
    exact h4
/-- the history gets one more -/
def phI (S : StV) (σ σ1 : Sg) : Prop := hsM σ1 (psN S) (psH S) ∧ (∀ q, q ≠ 372 → q ≠ 369 → σ1 q = σ q) ∧ ∀ i, i ≠ 3 → σ1 369 i = σ 369 i
theorem psN_le (S : StV) : psN S ≤ 4 := by unfold psN; split <;> omega
theorem push_md {σ σ1 : Sg} {S : StV} {w : SpV} (h : isMd σ S) (hp : phI S σ σ1) (hw : isZ (σ1 370) w) : isMd σ1 (pushS S w) := by
  obtain ⟨h1, h2, h3, h4⟩ := h
  refine ⟨hw, hp.1, ?_, ?_⟩
  · show snM σ1 (qP S)
    unfold snM
    rw [hp.2.2 5 (by omega), hp.2.1 373 (by omega) (by omega)]
    exact h3
  · show txM σ1 (qL S) (qT S)
    unfold txM
    rw [hp.2.2 7 (by omega), hp.2.1 374 (by omega) (by omega)]
    exact h4
theorem phI_keepL {S : StV} {σ σ1 : Sg} (hp : phI S σ σ1) : keepLw σ σ1 := fun q hq => hp.2.1 q (by omega) (by omega)
theorem phI_z {S : StV} {σ σ1 : Sg} (hp : phI S σ σ1) : σ1 370 = σ 370 := hp.2.1 370 (by omega) (by omega)
/-- before the new state is laid: room -/
def ph1 (S : StV) (σ τ : Sg) (c : Nat) : Prop := c < 4 ∧ c + 1 = psN S ∧ τ 369 3 = nI c ∧ (∀ i, i < c → isZ (fun k => τ 372 (116 * i + k)) (qH S (if qN S < 4 then i else i + 1))) ∧ (∀ q, q ≠ 372 → q ≠ 369 → τ q = σ q) ∧ ∀ i, i ≠ 3 → τ 369 i = σ 369 i
def shO (σ : Sg) (k : Nat) : Sg := setA σ 372 (fun i => if i < k then σ 372 (116 + i) else σ 372 i)
theorem shO_0 (σ : Sg) : shO σ 0 = σ := by
  unfold shO
  rw [show (fun i => if i < 0 then σ 372 (116 + i) else σ 372 i) = σ 372 from funext (fun i => if_neg (Nat.not_lt_zero i))]
  exact setA_self σ 372
theorem shO_get (σ : Sg) (k : Nat) : shO σ k 372 (116 + k) = σ 372 (116 + k) := by
  unfold shO
  rw [setA_at]
  exact if_neg (by omega)
theorem shO_s (σ : Sg) (k : Nat) : upS (shO σ k) 372 k (σ 372 (116 + k)) = shO σ (k + 1) := by
  unfold shO
  rw [up_setA]
  congr 1
  funext i
  simp only [upd]
  by_cases e : i = k
  · subst e
    rw [if_pos rfl, if_pos (by omega)]
  · rw [if_neg e]
    by_cases c : i < k
    · rw [if_pos c, if_pos (by omega)]
    · rw [if_neg c, if_neg (by omega)]
theorem ph1_new {S : StV} {σ : Sg} (h : hsM σ (qN S) (qH S)) (hq : ¬ qN S = 4) : ph1 S σ σ (qN S) := by
  have h4 := h.2.1
  refine ⟨by omega, by unfold psN; rw [if_pos (by omega)], h.1, fun i hi => ?_, fun _ _ _ => rfl, fun _ _ => rfl⟩
  rw [if_pos (by omega)]
  exact h.2.2 i hi
theorem ph1_old {S : StV} {σ : Sg} (h : hsM σ (qN S) (qH S)) (hq : qN S = 4) : ph1 S σ (upS (shO σ 348) 369 3 (nI 3)) 3 := by
  refine ⟨by omega, by unfold psN; rw [if_neg (by omega)], by rw [up_get, if_pos ⟨rfl, rfl⟩], fun i hi => ?_, fun q a b => by rw [up_ne b]; exact setA_ne a, fun i hi => by rw [up_get, if_neg (by omega)]; exact congrFun (setA_ne (by omega)) i⟩
  rw [if_neg (by omega)]
  refine isZ_z (h.2.2 (i + 1) (by omega)) (fun k hk => ?_)
  rw [up_ne (show (372 : Nat) ≠ 369 by omega)]
  unfold shO
  rw [setA_at]
  rw [if_pos (by omega), show 116 + (116 * i + k) = 116 * (i + 1) + k by omega]
def cpO (τ : Sg) (q c k : Nat) : Sg := setA τ 372 (fun i => if 116 * c ≤ i ∧ i < 116 * c + k then τ q (i - 116 * c) else τ 372 i)
theorem cpO_0 (τ : Sg) (q c : Nat) : cpO τ q c 0 = τ := by
  unfold cpO
  rw [show (fun i => if 116 * c ≤ i ∧ i < 116 * c + 0 then τ q (i - 116 * c) else τ 372 i) = τ 372 from funext (fun i => if_neg (by omega))]
  exact setA_self τ 372
theorem cpO_s (τ : Sg) (q c k : Nat) : upS (cpO τ q c k) 372 (116 * c + k) (τ q k) = cpO τ q c (k + 1) := by
  unfold cpO
  rw [up_setA]
  congr 1
  funext i
  simp only [upd]
  by_cases e : i = 116 * c + k
  · subst e
    rw [if_pos rfl, if_pos (by omega), Nat.add_sub_cancel_left]
  · rw [if_neg e]
    by_cases d : 116 * c ≤ i ∧ i < 116 * c + k
    · rw [if_pos d, if_pos (by omega)]
    · rw [if_neg d, if_neg (by omega)]
theorem phI_of {S : StV} {σ τ : Sg} {q c : Nat} (h : ph1 S σ τ c) (hz : isZ (τ q) (qC S)) : phI S σ (upS (cpO τ q c 116) 369 3 (nI (c + 1))) := by
  obtain ⟨h1, h2, h3, h4, h5, h6⟩ := h
  refine ⟨⟨by rw [up_get, if_pos ⟨rfl, rfl⟩, h2], psN_le S, fun i hi => ?_⟩, fun p a b => by rw [up_ne b]; exact (setA_ne a).trans (h5 p a b), fun i hi => by rw [up_get, if_neg (by omega)]; exact (congrFun (setA_ne (by omega)) i).trans (h6 i hi)⟩
  rw [up_ne (show (372 : Nat) ≠ 369 by omega)]
  unfold psH
  by_cases e : i + 1 = psN S
  · rw [if_pos e]
    refine isZ_z hz (fun k hk => ?_)
    unfold cpO
    rw [setA_at]
    rw [if_pos (by omega)]
    congr 1
    omega
  · rw [if_neg e]
    refine isZ_z (h4 i (by omega)) (fun k hk => ?_)
    unfold cpO
    rw [setA_at]
    rw [if_neg (by omega)]
/-- one array's 116 are copied into another -/
def cpyA (σ : Sg) (a b k : Nat) : Sg := setA σ a (fun i => if i < k then σ b i else σ a i)
theorem cpyA_0 (σ : Sg) (a b : Nat) : cpyA σ a b 0 = σ := by
  unfold cpyA
  rw [show (fun i => if i < 0 then σ b i else σ a i) = σ a from funext (fun i => if_neg (Nat.not_lt_zero i))]
  exact setA_self σ a
theorem cpyA_s (σ : Sg) (a b k : Nat) : upS (cpyA σ a b k) a k (σ b k) = cpyA σ a b (k + 1) := by
  unfold cpyA
  rw [up_setA]
  congr 1
  funext i
  simp only [upd]
  by_cases e : i = k
  · subst e
    rw [if_pos rfl, if_pos (by omega)]
  · rw [if_neg e]
    by_cases c : i < k
    · rw [if_pos c, if_pos (by omega)]
    · rw [if_neg c, if_neg (by omega)]
theorem cpyA_ne {σ : Sg} {a b k q : Nat} (h : q ≠ a) : cpyA σ a b k q = σ q := setA_ne h
theorem cpyA_z {σ : Sg} {a b : Nat} {v : SpV} (h : isZ (σ b) v) : isZ (cpyA σ a b 116 a) v := by
  refine isZ_z h (fun i hi => ?_)
  unfold cpyA
  rw [setA_at]
  exact if_pos hi
/-- z from a state of the history -/
def cpH (σ : Sg) (c k : Nat) : Sg := setA σ 370 (fun i => if i < k then σ 372 (116 * c + i) else σ 370 i)
theorem cpH_0 (σ : Sg) (c : Nat) : cpH σ c 0 = σ := by
  unfold cpH
  rw [show (fun i => if i < 0 then σ 372 (116 * c + i) else σ 370 i) = σ 370 from funext (fun i => if_neg (Nat.not_lt_zero i))]
  exact setA_self σ 370
theorem cpH_s (σ : Sg) (c k : Nat) : upS (cpH σ c k) 370 k (σ 372 (116 * c + k)) = cpH σ c (k + 1) := by
  unfold cpH
  rw [up_setA]
  congr 1
  funext i
  simp only [upd]
  by_cases e : i = k
  · subst e
    rw [if_pos rfl, if_pos (by omega)]
  · rw [if_neg e]
    by_cases d : i < k
    · rw [if_pos d, if_pos (by omega)]
    · rw [if_neg d, if_neg (by omega)]
theorem cpH_ne {σ : Sg} {c k q : Nat} (h : q ≠ 370) : cpH σ c k q = σ q := setA_ne h
theorem hix (c k : Nat) : (116 : Int32) * nI c + nI k = nI (116 * c + k) := by
  show nI 116 * nI c + nI k = _
  rw [nI_mulR, nI_add]
theorem undo_md {σ : Sg} {S : StV} (h : isMd σ S) (hq : 0 < qN S) : okMd σ (oUndo S) (nI (qN S - 1)) (cpH (upS σ 369 3 (nI (qN S - 1))) (qN S - 1) 116) := by
  obtain ⟨h1, h2, h3, h4⟩ := h
  have e3 : ∀ q, q ≠ 370 → q ≠ 369 → cpH (upS σ 369 3 (nI (qN S - 1))) (qN S - 1) 116 q = σ q := fun q a b => by rw [cpH_ne a, up_ne b]
  have e9 : ∀ i, i ≠ 3 → cpH (upS σ 369 3 (nI (qN S - 1))) (qN S - 1) 116 369 i = σ 369 i := fun i hi => by rw [cpH_ne (by omega), up_get, if_neg (by omega)]
  refine okMd_of (S' := (qH S (qN S - 1), qN S - 1, qH S, qP S, qL S, qT S)) (by rw [oUndo, if_neg (by omega)]) ⟨?_, ⟨?_, ?_, ?_⟩, ?_, ?_⟩ (fun q hq2 => e3 q (by omega) (by omega))
  · refine isZ_z (h2.2.2 (qN S - 1) (by omega)) (fun i hi => ?_)
    unfold cpH
    rw [setA_at]
    rw [if_pos hi, up_ne (by omega)]
  · rw [cpH_ne (by omega), up_get, if_pos ⟨rfl, rfl⟩]
  · have := h2.2.1
    show qN S - 1 ≤ 4
    omega
  · intro i hi
    rw [e3 372 (by omega) (by omega)]
    exact h2.2.2 i (by have : i < qN S - 1 := hi; omega)
  · show snM _ (qP S)
    unfold snM
    rw [e9 5 (by omega), e3 373 (by omega) (by omega)]
    exact h3
  · show txM _ (qL S) (qT S)
    unfold txM
    rw [e9 7 (by omega), e3 374 (by omega) (by omega)]
    exact h4
theorem keep_md {σ : Sg} {S : StV} (h : isMd σ S) : okMd σ (oKeep S) (nI (vN (qC S))) (upS (cpyA σ 373 370 116) 369 5 1) := by
  obtain ⟨h1, h2, h3, h4⟩ := h
  have e3 : ∀ q, q ≠ 373 → q ≠ 369 → upS (cpyA σ 373 370 116) 369 5 1 q = σ q := fun q a b => by rw [up_ne b, cpyA_ne a]
  have e9 : ∀ i, i ≠ 5 → upS (cpyA σ 373 370 116) 369 5 1 369 i = σ 369 i := fun i hi => by rw [up_get, if_neg (by omega), cpyA_ne (by omega)]
  refine okMd_of (S' := (qC S, qN S, qH S, some (qC S), qL S, qT S)) rfl ⟨?_, ?_, ?_, ?_⟩ (fun q hq2 => e3 q (by omega) (by omega))
  · rw [e3 370 (by omega) (by omega)]
    exact h1
  · show hsM _ (qN S) (qH S)
    unfold hsM
    rw [e9 3 (by omega), e3 372 (by omega) (by omega)]
    exact h2
  · refine Or.inl ⟨by rw [up_get, if_pos ⟨rfl, rfl⟩], qC S, rfl, ?_⟩
    rw [up_ne (by omega)]
    exact cpyA_z h1
  · show txM _ (qL S) (qT S)
    unfold txM
    rw [e9 7 (by omega), e3 374 (by omega) (by omega)]
    exact h4
/-! try a box, put a box -/
def tbA (v : SpV) (x y z a b c : Int32) : Int32 := if !entR x y z a b c then -2 else if entCut v x y z a b c then -4 else if vN v = 16 then -3 else 0
theorem entR_eq (x y z a b c : Int32) : entR x y z a b c = ((inW x 0 31 && inW y 0 31 && inW z 0 31) && (inW a 1 12 && inW b 1 12 && inW c 1 12) && (!decide (32 < x + a) && !decide (32 < y + b) && !decide (32 < z + c))) := by
  simp only [entR, inRg, inW]
  ac_rfl
theorem tb_r {v : SpV} {x y z a b c : Int32} (h : entR x y z a b c = false) : (-2 : Int32) = tbA v x y z a b c := by
  rw [tbA, h]
  rfl
theorem tb_in {x y z a b c : Int32} {f g : Bool} (hf : f = (inW x 0 31 && inW y 0 31 && inW z 0 31)) (hg : g = (inW a 1 12 && inW b 1 12 && inW c 1 12)) (c1 : f = true) (c2 : g = true) (h1 : ¬ 32 < x + a) (h2 : ¬ 32 < y + b) (h3 : ¬ 32 < z + c) : entR x y z a b c = true := by
  rw [entR_eq, ← hf, ← hg, c1, c2, decide_eq_false h1, decide_eq_false h2, decide_eq_false h3]
  rfl
theorem ct_v3 (lo hi : V3) (x y z x' y' z' : Int32) : ctBx lo hi (v3 x y z) (v3 x' y' z') = ((decide (lo 0 < x') && decide (x < hi 0)) && (decide (lo 1 < y') && decide (y < hi 1)) && (decide (lo 2 < z') && decide (z < hi 2))) := rfl
def pbI (v : SpV) (x y z a b c : Int32) (σ σ1 : Sg) : Prop := isZ (σ1 370) (entV v x y z a b c) ∧ ∀ q, q ≠ 370 → σ1 q = σ q
theorem add_subR (x a : Int32) : x + a - x = a := by rw [Int32.add_comm, Int32.add_sub_cancel]
theorem pb_ok {v : SpV} {σ : Sg} (hz : isZ (σ 370) v) (hn : vN v < 16) (x y z a b c : Int32) : pbI v x y z a b c σ (upS (upS (upS (upS (upS (upS (upS (upS (upS σ 370 (4 + 7 * vN v + 0) (vX v)) 370 (4 + 7 * vN v + 1) x) 370 (4 + 7 * vN v + 2) y) 370 (4 + 7 * vN v + 3) z) 370 (4 + 7 * vN v + 4) a) 370 (4 + 7 * vN v + 5) b) 370 (4 + 7 * vN v + 6) c) 370 0 (nI (vN v + 1))) 370 1 (vX v + 1)) := by
  obtain ⟨h0, h1, h2, h3, h4, h5, h6⟩ := hz
  refine ⟨⟨?_, ?_, ?_, ?_, ?_, fun j hj => ?_, fun j hj d hd => ?_⟩, fun q hq => by rw [up_ne hq, up_ne hq, up_ne hq, up_ne hq, up_ne hq, up_ne hq, up_ne hq, up_ne hq, up_ne hq]⟩
  · show vN v + 1 ≤ 16
    omega
  · rw [up_get, if_neg (by omega), up_get, if_pos ⟨rfl, rfl⟩]
    rfl
  · rw [up_get, if_pos ⟨rfl, rfl⟩]
    rfl
  · repeat rw [up_get, if_neg (by omega)]
    exact h3
  · repeat rw [up_get, if_neg (by omega)]
    exact h4
  · have hj2 : j < vN v + 1 := hj
    show _ = vNu (addV v _ _) j
    rw [addV_nu]
    by_cases e : j = vN v
    · subst e
      repeat rw [up_get, if_neg (by omega)]
      rw [up_get, if_pos ⟨rfl, by omega⟩, if_pos rfl]
    · repeat rw [up_get, if_neg (by omega)]
      rw [if_neg e]
      exact h5 j (by omega)
  · have hj2 : j < vN v + 1 := hj
    show _ = vLo (addV v _ _) j d ∧ _ = vHi (addV v _ _) j d - vLo (addV v _ _) j d
    rw [addV_lo, addV_hi]
    by_cases e : j = vN v
    · subst e
      rw [if_pos rfl, if_pos rfl]
      rcases (show d = 0 ∨ d = 1 ∨ d = 2 by omega) with rfl | rfl | rfl
      · refine ⟨?_, ?_⟩
        · repeat rw [up_get, if_neg (by omega)]
          rw [up_get, if_pos ⟨rfl, by omega⟩]
          rfl
        · repeat rw [up_get, if_neg (by omega)]
          rw [up_get, if_pos ⟨rfl, by omega⟩]
          exact (add_subR x a).symm
      · refine ⟨?_, ?_⟩
        · repeat rw [up_get, if_neg (by omega)]
          rw [up_get, if_pos ⟨rfl, by omega⟩]
          rfl
        · repeat rw [up_get, if_neg (by omega)]
          rw [up_get, if_pos ⟨rfl, by omega⟩]
          exact (add_subR y b).symm
      · refine ⟨?_, ?_⟩
        · repeat rw [up_get, if_neg (by omega)]
          rw [up_get, if_pos ⟨rfl, by omega⟩]
          rfl
        · repeat rw [up_get, if_neg (by omega)]
          rw [up_get, if_pos ⟨rfl, by omega⟩]
          exact (add_subR z c).symm
    · rw [if_neg e, if_neg e]
      repeat rw [up_get, if_neg (by omega)]
      exact h6 j (by omega) d hd
