/-! SPEC: the whole as a value, and what each call answers and leaves -/
/-- the boxes now; how many states, which; the snapshot; the text's length, its signs -/
abbrev StV : Type := SpV × Nat × (Nat → SpV) × Option SpV × Nat × (Nat → Int32)
abbrev qC (S : StV) : SpV := S.1
abbrev qN (S : StV) : Nat := S.2.1
abbrev qH (S : StV) : Nat → SpV := S.2.2.1
abbrev qP (S : StV) : Option SpV := S.2.2.2.1
abbrev qL (S : StV) : Nat := S.2.2.2.2.1
abbrev qT (S : StV) : Nat → Int32 := S.2.2.2.2.2
def psN (S : StV) : Nat := if qN S < 4 then qN S + 1 else 4
def psH (S : StV) : Nat → SpV := fun i => if i + 1 = psN S then qC S else qH S (if qN S < 4 then i else i + 1)
def pushS (S : StV) (w : SpV) : StV := (w, psN S, psH S, qP S, qL S, qT S)
def hsyC (σ : Sg) (c : Nat) (hs : Nat → SpV) : Prop := ∃ pm, hOk σ c pm ∧ ∀ i, i < c → isV σ (pm i) (hs i)
def snaC (σ : Sg) (p : Option SpV) : Prop := (σ 368 3 = 1 ∧ ∃ v, p = some v ∧ isV σ 2 v) ∨ (σ 368 3 = 0 ∧ p = none)
def txtC (σ : Sg) (L : Nat) (t : Nat → Int32) : Prop := σ 365 1 = nI L ∧ L ≤ 80 ∧ ∀ i, i < L → σ 366 i = t i
def isC (σ : Sg) (S : StV) : Prop := isV σ 0 (qC S) ∧ hsyC σ (qN S) (qH S) ∧ snaC σ (qP S) ∧ txtC σ (qL S) (qT S)
def keepM (σ σ1 : Sg) : Prop := ∀ q, 369 ≤ q → σ1 q = σ q
def okC (σ : Sg) (o : Int32 × StV) (r : Int32) (σ1 : Sg) : Prop := r = o.1 ∧ isC σ1 o.2 ∧ keepM σ σ1
theorem keepM_kc {σ σ1 : Sg} (h : keepC σ σ1) : keepM σ σ1 := fun q hq => h q (by unfold scr; omega)
theorem keepM_tr {σ τ υ : Sg} (h1 : keepM σ τ) (h2 : keepM τ υ) : keepM σ υ := fun q hq => (h2 q hq).trans (h1 q hq)
theorem isC_kc {σ σ1 : Sg} {S : StV} (h : isC σ S) (hk : keepC σ σ1) : isC σ1 S := by
  obtain ⟨h1, ⟨pm, h2, h3⟩, h4, h5⟩ := h
  have e : ∀ q, 363 ≤ q → σ1 q = σ q := fun q hq => hk q (by unfold scr; omega)
  refine ⟨isV_kc (by omega) (by omega) h1 hk, ⟨pm, hOk_eq h2 (e _ (by omega)) (e _ (by omega)), fun i hi => ?_⟩, ?_, ?_⟩
  · have := h2.2.2.1 i (by have := h2.2.1; omega)
    exact isV_kc this.2.2 (by omega) (h3 i hi) hk
  · unfold snaC
    rw [e 368 (by omega)]
    rcases h4 with ⟨a, v, b, c⟩ | h4
    · exact Or.inl ⟨a, v, b, isV_kc (by omega) (by omega) c hk⟩
    · exact Or.inr h4
  · unfold txtC
    rw [e 365 (by omega), e 366 (by omega)]
    exact h5
theorem okC_kc {σ σ1 : Sg} {S : StV} {r : Int32} (h : isC σ S) (hk : keepC σ σ1) : okC σ (r, S) r σ1 := ⟨rfl, isC_kc h hk, keepM_kc hk⟩
/-- which box -/
def locO (v : SpV) (x : Int32) : Option Nat := if ffi (fun k => decide (vNu v k = x)) (vN v) < vN v then some (ffi (fun k => decide (vNu v k = x)) (vN v)) else none
theorem loc_none {v : SpV} {x : Int32} (hn : vN v ≤ 16) (h : fI (fun k => decide (vNu v k = x)) (vN v) = -1) : locO v x = none := by
  unfold locO
  unfold fI at h
  by_cases c : ffi (fun k => decide (vNu v k = x)) (vN v) < vN v
  · rw [if_pos c] at h
    exact absurd h (fun e => by
      have h2 : (nI (ffi (fun k => decide (vNu v k = x)) (vN v))).toInt = _ := nI_toInt (by omega)
      rw [e] at h2
      have h3 : (-1 : Int32).toInt = -1 := by decide
      rw [h3] at h2
      omega)
  · rw [if_neg c]
theorem loc_some {v : SpV} {x : Int32} (h : ¬ fI (fun k => decide (vNu v k = x)) (vN v) = -1) : ∃ k, k < vN v ∧ locO v x = some k ∧ fI (fun k => decide (vNu v k = x)) (vN v) = nI k := by
  unfold locO
  unfold fI at h ⊢
  by_cases c : ffi (fun k => decide (vNu v k = x)) (vN v) < vN v
  · exact ⟨_, c, by rw [if_pos c], by rw [if_pos c]⟩
  · rw [if_neg c] at h
    exact absurd rfl h
def dirB (d : Int32) : Bool := !decide (d < 0) && decide (d < 3)
theorem dir_ix {d : Int32} (h : dirB d = true) : ∃ e : Nat, e < 3 ∧ d = nI e := by
  unfold dirB at h
  simp only [Bool.and_eq_true, Bool.not_eq_true', decide_eq_false_iff_not, decide_eq_true_eq] at h
  exact slot_ix h.1 h.2 (by omega)
/-! the spaces behind a change -/
def v3 (x y z : Int32) : V3 := fun d => if d = 0 then x else if d = 1 then y else z
def entR (x y z a b c : Int32) : Bool := inRg x a && inRg y b && inRg z c
def entCut (v : SpV) (x y z a b c : Int32) : Bool := anyb (fun k => ctBx (vLo v k) (vHi v k) (v3 x y z) (v3 (x + a) (y + b) (z + c))) (vN v)
def entA (v : SpV) (x y z a b c : Int32) : Int32 := if !entR x y z a b c then -2 else if entCut v x y z a b c then -4 else if vN v = 16 then -3 else vX v
def entOk (v : SpV) (x y z a b c : Int32) : Bool := entR x y z a b c && !entCut v x y z a b c && !decide (vN v = 16)
def addV (v : SpV) (l h : V3) : SpV := (vN v + 1, vX v + 1, vSp v, vRu v, (fun j => if j = vN v then vX v else vNu v j), (fun j => if j = vN v then l else vLo v j), (fun j => if j = vN v then h else vHi v j))
def entV (v : SpV) (x y z a b c : Int32) : SpV := addV v (v3 x y z) (v3 (x + a) (y + b) (z + c))
def rmV (v : SpV) (k : Nat) : SpV := (vN v - 1, vX v, vSp v, vRu v, (fun j => vNu v (mvI k (vN v - 1) j)), (fun j => vLo v (mvI k (vN v - 1) j)), (fun j => vHi v (mvI k (vN v - 1) j)))
def shV (v : SpV) (k d : Nat) (x : Int32) : SpV := (vN v, vX v, vSp v, vRu v, vNu v, (fun j e => if j = k ∧ e = d then vLo v j e + x else vLo v j e), (fun j e => if j = k ∧ e = d then vHi v j e + x else vHi v j e))
def cutV (v : SpV) (k d : Nat) (x : Int32) : SpV := (vN v + 1, vX v + 1, vSp v + 1, vRu v, (fun j => if j = vN v then vX v else vNu v j), (fun j e => if j = vN v then (if e = d then x else vLo v k e) else vLo v j e), (fun j e => if j = vN v then vHi v k e else if j = k ∧ e = d then x else vHi v j e))
def qtV (v : SpV) : SpV := (vN v, vX v, vSp v, vRu v, vNu v, (fun j e => if e = 0 then 32 - vHi v j 1 else if e = 1 then vLo v j 0 else vLo v j e), (fun j e => if e = 0 then 32 - vLo v j 1 else if e = 1 then vHi v j 0 else vHi v j e))
def ruV (v : SpV) (x : Int32) : SpV := (vN v, vX v, vSp v, x, vNu v, vLo v, vHi v)
theorem addV_nu (v : SpV) (l h : V3) (j : Nat) : vNu (addV v l h) j = if j = vN v then vX v else vNu v j := rfl
theorem addV_lo (v : SpV) (l h : V3) (j : Nat) : vLo (addV v l h) j = if j = vN v then l else vLo v j := rfl
theorem addV_hi (v : SpV) (l h : V3) (j : Nat) : vHi (addV v l h) j = if j = vN v then h else vHi v j := rfl
theorem cutV_nu (v : SpV) (k d : Nat) (x : Int32) (j : Nat) : vNu (cutV v k d x) j = if j = vN v then vX v else vNu v j := rfl
theorem cutV_lo (v : SpV) (k d : Nat) (x : Int32) (j e : Nat) : vLo (cutV v k d x) j e = if j = vN v then (if e = d then x else vLo v k e) else vLo v j e := rfl
theorem cutV_hi (v : SpV) (k d : Nat) (x : Int32) (j e : Nat) : vHi (cutV v k d x) j e = if j = vN v then vHi v k e else if j = k ∧ e = d then x else vHi v j e := rfl
theorem shV_lo (v : SpV) (k d : Nat) (x : Int32) (j e : Nat) : vLo (shV v k d x) j e = if j = k ∧ e = d then vLo v j e + x else vLo v j e := rfl
theorem shV_hi (v : SpV) (k d : Nat) (x : Int32) (j e : Nat) : vHi (shV v k d x) j e = if j = k ∧ e = d then vHi v j e + x else vHi v j e := rfl
theorem qtV_lo (v : SpV) (j e : Nat) : vLo (qtV v) j e = if e = 0 then 32 - vHi v j 1 else if e = 1 then vLo v j 0 else vLo v j e := rfl
theorem qtV_hi (v : SpV) (j e : Nat) : vHi (qtV v) j e = if e = 0 then 32 - vLo v j 1 else if e = 1 then vHi v j 0 else vHi v j e := rfl
/-! the calls -/
def oAdd (S : StV) (x y z a b c : Int32) : Int32 × StV := if entOk (qC S) x y z a b c then (vX (qC S), pushS S (entV (qC S) x y z a b c)) else (entA (qC S) x y z a b c, S)
def oRemove (S : StV) (x : Int32) : Int32 × StV := match locO (qC S) x with
  | none => (-1, S)
  | some k => (voG (vLo (qC S)) (vHi (qC S)) k, pushS S (rmV (qC S) k))
def mvCut (v : SpV) (k d : Nat) (x : Int32) : Bool := anyb (fun j => !decide (j = k) && ctBx (vLo (shV v k d x) j) (vHi (shV v k d x) j) (vLo (shV v k d x) k) (vHi (shV v k d x) k)) (vN v)
def oMove (S : StV) (x d by_ : Int32) : Int32 × StV := match locO (qC S) x with
  | none => (-1, S)
  | some k => if !dirB d then (-1, S) else
    let e := d.toNatClampNeg
    if by_ < -(vLo (qC S) k e) then (-2, S) else if 32 - vHi (qC S) k e < by_ then (-2, S) else if mvCut (qC S) k e by_ then (-4, S) else if by_ = 0 then (-5, S) else (vLo (qC S) k e + by_, pushS S (shV (qC S) k e by_))
def oFall (S : StV) (x : Int32) : Int32 × StV := match locO (qC S) x with
  | none => (-1, S)
  | some k => let dep := vLo (qC S) k 2 - grG (vLo (qC S)) (vHi (qC S)) k (vN (qC S))
    if 0 < dep then (dep, pushS S (shV (qC S) k 2 (-dep))) else (-5, S)
def oSplit (S : StV) (x d t : Int32) : Int32 × StV := match locO (qC S) x with
  | none => (-1, S)
  | some k => if !dirB d then (-1, S) else
    let e := d.toNatClampNeg
    if !decide (vLo (qC S) k e < t) then (-2, S) else if !decide (t < vHi (qC S) k e) then (-2, S) else if vN (qC S) = 16 then (-3, S) else (vX (qC S), pushS S (cutV (qC S) k e t))
def brD (v : SpV) (k : Nat) : Nat := lgd (szG (vLo v) (vHi v) k) 2
def brV (v : SpV) (k : Nat) : SpV := cutV v k (brD v k) (vLo v k (brD v k) + szG (vLo v) (vHi v) k (brD v k) / 2)
/-- breaking a ring: the answer; the space then, where there is one -/
def brA (v : SpV) : Int32 := match grV v with
  | none => -5
  | some k => if 1 < szG (vLo v) (vHi v) k (brD v k) then (if vN v = 16 then -3 else vX v) else -4
def brO (v : SpV) : Option SpV := match grV v with
  | none => none
  | some k => if 1 < szG (vLo v) (vHi v) k (brD v k) then (if vN v = 16 then none else some (brV v k)) else none
def oBreak (S : StV) : Int32 × StV := match brO (qC S) with
  | none => (brA (qC S), S)
  | some w => (brA (qC S), pushS S w)
def oTurn (S : StV) : Int32 × StV := if vN (qC S) = 0 then (-5, S) else (sumI (fun k => bcI (HV (qC S) k &&& (HV (qtV (qC S)) k ^^^ -1))) (vN (qC S)), pushS S (qtV (qC S)))
def oSet (S : StV) (s x : Int32) : Int32 × StV := if ¬ s = 0 then (-1, S) else if x < 0 then (-2, S) else if 2 < x then (-2, S) else if x = vRu (qC S) then (-5, S) else (vRu (qC S), pushS S (ruV (qC S) x))
def oType (S : StV) (x : Int32) : Int32 × StV := if qL S < 80 then (nI (qL S + 1), (qC S, qN S, qH S, qP S, qL S + 1, fun i => if i = qL S then x else qT S i)) else (-3, S)
def oClear (S : StV) : Int32 × StV := (nI (qL S), (qC S, qN S, qH S, qP S, 0, qT S))
def oUndo (S : StV) : Int32 × StV := if qN S = 0 then (-5, S) else (nI (qN S - 1), (qH S (qN S - 1), qN S - 1, qH S, qP S, qL S, qT S))
def oKeep (S : StV) : Int32 × StV := (nI (vN (qC S)), (qC S, qN S, qH S, some (qC S), qL S, qT S))
def oRestore (S : StV) : Int32 × StV := match qP S with
  | none => (-5, S)
  | some w => (nI (vN w), pushS S w)
def oBox (S : StV) (r : Int32) : Int32 × StV := (if r < 0 then -2 else if r < nI (vN (qC S)) then vNu (qC S) r.toNatClampNeg else -5, S)
def oEnd (S : StV) (x d h : Int32) : Int32 × StV := (match locO (qC S) x with
  | none => -1
  | some k => if !dirB d then -1 else if h = 0 then vLo (qC S) k d.toNatClampNeg else vHi (qC S) k d.toNatClampNeg, S)
def supV (v : SpV) (k : Nat) : Int32 := cntI (fun j => beB (vLo v j) (vHi v j) (vLo v k) (vHi v k) && decide (vHi v j 2 = vLo v k 2)) (vN v)
def belV (v : SpV) (k : Nat) : Int32 := cntI (fun j => beB (vLo v j) (vHi v j) (vLo v k) (vHi v k)) (vN v)
/-- rows of a box's top, from its low y on -/
def yA (v : SpV) (k : Nat) : Nat := (vLo v k 1).toNatClampNeg
def yM (v : SpV) (k : Nat) : Nat := (vHi v k 1).toNatClampNeg - (vLo v k 1).toNatClampNeg
def shaV (v : SpV) (k : Nat) : Int32 := sumI (fun i => bcI (shG (vLo v) (vHi v) k (vN v) (yA v k + i) &&& rwG (vLo v) (vHi v) k)) (yM v k)
def ofA (v : SpV) (k : Nat) (w : Int32) : Int32 := if w = 0 then voG (vLo v) (vHi v) k else if w = 1 then bcI (HV v k) else if w = 2 then cntI (fun j => hasB (HV v j) k) (vN v) else if w = 3 then LV v k else if w = 4 then srO (HV v) (vN v) k else if w = 5 then supV v k else if w = 6 then belV v k else if w = 7 then shaV v k else if w = 8 then (if vLo v k 2 = 0 then 1 else if 0 < supV v k then 1 else 0) else -2
def oOf (S : StV) (x w : Int32) : Int32 × StV := (match locO (qC S) x with
  | none => -1
  | some k => ofA (qC S) k w, S)
def dhV (v : SpV) (a b : Nat) : Int32 := dhB (vLo v a) (vHi v a) (vLo v b) (vHi v b)
def oPair (S : StV) (x y : Int32) : Int32 × StV := (match locO (qC S) x, locO (qC S) y with
  | some a, some b => if a = b then -2 else if ¬ dhV (qC S) a b = -1 then 1 + dhV (qC S) a b else if ¬ dhV (qC S) b a = -1 then 4 + dhV (qC S) b a else 0
  | _, _ => -1, S)
def oDrawn (S : StV) (r : Int32) : Int32 × StV := (if r < 0 then -2 else if r < nI (DCv (qC S)) then vNu (qC S) (OV (qC S) r.toNatClampNeg).toNatClampNeg else -5, S)
def toA (S : StV) (w : Int32) : Int32 := if w = 0 then nI (vN (qC S)) else if w = 1 then vX (qC S) else if w = 2 then sumI (fun k => bcI (HV (qC S) k)) (vN (qC S)) else if w = 3 then nI (DCv (qC S)) else if w = 4 then cntI (fun k => hasB (CVv (qC S) k) k) (vN (qC S)) else if w = 5 then srI (HV (qC S)) (vN (qC S)) (vN (qC S)) else if w = 6 then glI (LV (qC S)) (vN (qC S)) else if w = 7 then vSp (qC S) else if w = 8 then sumI (voG (vLo (qC S)) (vHi (qC S))) (vN (qC S)) else if w = 9 then sumI (shaV (qC S)) (vN (qC S)) else if w = 10 then vRu (qC S) else if w = 11 then nI (qN S) else if w = 12 then nI (qL S) else -2
def oTotal (S : StV) (w : Int32) : Int32 × StV := (toA S w, S)
def waI (v : SpV) (k : Nat) : Int32 := fI (fun j => hasB (HV v k) j && !hasB (BV v) j) (vN v)
def oWaits (S : StV) (x : Int32) : Int32 × StV := (match locO (qC S) x with
  | none => -1
  | some k => if waI (qC S) k = -1 then -5 else vNu (qC S) (waI (qC S) k).toNatClampNeg, S)
/-- how often a ring is broken, from b on, with room for m more tries -/
def bksA (v : SpV) (b : Nat) : Nat → Int32
  | 0 => -3
  | m + 1 => match brO v with
    | none => if brA v = -5 then nI b else brA v
    | some w => bksA w (b + 1) m
def oBreaks (S : StV) : Int32 × StV := (bksA (qC S) 0 17, S)
def oWithout (S : StV) (x : Int32) : Int32 × StV := (match locO (qC S) x with
  | none => -1
  | some k => nI (DCv (rmV (qC S) k)), S)
