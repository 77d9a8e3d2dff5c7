/-! CORE: one world of 371 cells (the class's 369, the law's two rows of ints: 369 the ends, 370 who hides whom); the judgement AtW; contracts CtW; its rows -/
/-- what the cells hold: by a cell's number and a place in it -/
abbrev Sg : Type := Nat → Nat → Int32
/-- the classes' numbers and slots; the array classes (0 int, 1 Box, 2 Space, 3 char); the addresses by number -/
abbrev Om : Type := va_G × (Nat → ClassId) × (Nat → Nat)
def ad (Ω : Om) (k : Nat) : Nat := Ω.2.2 k
/-- box b: its cell, its low, its high; space s: its cell, its row; picture p -/
def iBo (b : Nat) : Nat := 3 * b
def iL (b : Nat) : Nat := 3 * b + 1
def iH (b : Nat) : Nat := 3 * b + 2
def iS (s : Nat) : Nat := 339 + 2 * s
def iA (s : Nat) : Nat := 340 + 2 * s
def iP (p : Nat) : Nat := 353 + 5 * p
/-- the box at a slot of a space -/
def bx (s i : Nat) : Nat := 16 * s + i
def upS (σ : Sg) (k i : Nat) (v : Int32) : Sg := fun k' => if k' = k then upd (σ k) i v else σ k'
theorem up_get (σ : Sg) (k i : Nat) (v : Int32) (k' i' : Nat) : upS σ k i v k' i' = if k' = k ∧ i' = i then v else σ k' i' := by
  unfold upS upd
  by_cases h : k' = k
  · subst h
    by_cases h2 : i' = i <;> simp [h2]
  · simp [h]
theorem up_at (σ : Sg) (k i : Nat) (v : Int32) : upS σ k i v k = upd (σ k) i v := by simp [upS]
theorem up_ne {σ : Sg} {k i : Nat} {v : Int32} {k' : Nat} (h : k' ≠ k) : upS σ k i v k' = σ k' := by simp [upS, h]
def zArr (Ω : Om) (σ : Sg) (k n : Nat) : va_E := .inl (Ω.2.1 0, n, .inl (σ k))
def zBox (Ω : Om) (σ : Sg) (k : Nat) : va_E := .inr (0, [.int (σ k 0), .ref (ad Ω (k + 1)), .ref (ad Ω (k + 2))])
def zSp (Ω : Om) (σ : Sg) (k : Nat) : va_E := .inr (3, [.ref (ad Ω (k + 1)), .int (σ k 1), .int (σ k 2), .int (σ k 3), .int (σ k 4)])
def zSpA (Ω : Om) (k : Nat) : va_E := .inl (Ω.2.1 1, 16, .inr (.inr (.inr (.inr (fun i => some (ad Ω (iBo (bx ((k - 340) / 2) i))))))))
def zPic (Ω : Om) (σ : Sg) (k : Nat) : va_E := .inr (2, [.int (σ k 0), .ref (ad Ω (k + 1)), .ref (ad Ω (k + 2)), .ref (ad Ω (k + 3)), .int (σ k 4), .int (σ k 5), .ref (ad Ω (k + 4))])
def zHis (Ω : Om) (σ : Sg) (k : Nat) : va_E := .inr (1, [.ref (ad Ω 364), .int (σ k 1)])
def zHisA (Ω : Om) (σ : Sg) (k : Nat) : va_E := .inl (Ω.2.1 2, 4, .inr (.inr (.inr (.inr (fun i => some (ad Ω (iS (σ k i).toNatClampNeg)))))))
def zTxt (Ω : Om) (σ : Sg) (k : Nat) : va_E := .inr (4, [.ref (ad Ω 366), .int (σ k 1), .ref (ad Ω 367), .int (σ k 3)])
def zCh (Ω : Om) (σ : Sg) (k : Nat) : va_E := .inl (Ω.2.1 3, 80, .inl (σ k))
def zMain (Ω : Om) (σ : Sg) (k : Nat) : va_E := .inr (5, [.ref (ad Ω (iS 0)), .ref (ad Ω (iS 1)), .ref (ad Ω (iS 2)), .int (σ k 3), .ref (ad Ω 363), .ref (ad Ω 365), .ref (ad Ω (iP 0)), .ref (ad Ω (iP 1)), .ref (ad Ω (iBo 112))])
def mLen (k : Nat) : Nat := if k = 369 then 60 else 10
def cel (Ω : Om) (σ : Sg) (k : Nat) : va_E :=
  if k < 339 then (if k % 3 = 0 then zBox Ω σ k else zArr Ω σ k 3)
  else if k < 353 then (if k % 2 = 1 then zSp Ω σ k else zSpA Ω k)
  else if k < 363 then (if k = 353 ∨ k = 358 then zPic Ω σ k else zArr Ω σ k 16)
  else if k = 363 then zHis Ω σ k else if k = 364 then zHisA Ω σ k else if k = 365 then zTxt Ω σ k else if k = 366 then zCh Ω σ k else if k = 367 then zArr Ω σ k 41
  else if k = 368 then zMain Ω σ k else zArr Ω σ k (mLen k)
theorem cel_box {Ω : Om} {σ : Sg} {b : Nat} (h : b < 113) : cel Ω σ (iBo b) = .inr (0, [.int (σ (iBo b) 0), .ref (ad Ω (iL b)), .ref (ad Ω (iH b))]) := by
  unfold cel iBo
  rw [if_pos (by omega), if_pos (by omega)]
  rfl
theorem cel_low {Ω : Om} {σ : Sg} {b : Nat} (h : b < 113) : cel Ω σ (iL b) = .inl (Ω.2.1 0, 3, .inl (σ (iL b))) := by
  unfold cel iL
  rw [if_pos (by omega), if_neg (by omega)]
  rfl
theorem cel_high {Ω : Om} {σ : Sg} {b : Nat} (h : b < 113) : cel Ω σ (iH b) = .inl (Ω.2.1 0, 3, .inl (σ (iH b))) := by
  unfold cel iH
  rw [if_pos (by omega), if_neg (by omega)]
  rfl
theorem cel_sp {Ω : Om} {σ : Sg} {s : Nat} (h : s < 7) : cel Ω σ (iS s) = .inr (3, [.ref (ad Ω (iA s)), .int (σ (iS s) 1), .int (σ (iS s) 2), .int (σ (iS s) 3), .int (σ (iS s) 4)]) := by
  unfold cel iS iA
  rw [if_neg (by omega), if_pos (by omega), if_pos (by omega)]
  unfold zSp
  rw [show 339 + 2 * s + 1 = 340 + 2 * s by omega]
theorem cel_spA {Ω : Om} {σ : Sg} {s : Nat} (h : s < 7) : cel Ω σ (iA s) = .inl (Ω.2.1 1, 16, .inr (.inr (.inr (.inr (fun i => some (ad Ω (iBo (bx s i)))))))) := by
  unfold cel iA
  rw [if_neg (by omega), if_pos (by omega), if_neg (by omega)]
  unfold zSpA
  rw [show (340 + 2 * s - 340) / 2 = s by omega]
theorem cel_pic {Ω : Om} {σ : Sg} {p : Nat} (h : p < 2) : cel Ω σ (iP p) = .inr (2, [.int (σ (iP p) 0), .ref (ad Ω (iP p + 1)), .ref (ad Ω (iP p + 2)), .ref (ad Ω (iP p + 3)), .int (σ (iP p) 4), .int (σ (iP p) 5), .ref (ad Ω (iP p + 4))]) := by
  unfold cel iP
  rw [if_neg (by omega), if_neg (by omega), if_pos (by omega), if_pos (by omega)]
  rfl
theorem cel_picA {Ω : Om} {σ : Sg} {p j : Nat} (h : p < 2) (h1 : 0 < j) (h2 : j < 5) : cel Ω σ (iP p + j) = .inl (Ω.2.1 0, 16, .inl (σ (iP p + j))) := by
  unfold cel iP
  rw [if_neg (by omega), if_neg (by omega), if_pos (by omega), if_neg (by omega)]
  rfl
theorem cel_marr {Ω : Om} {σ : Sg} {k : Nat} (h : 368 < k) : cel Ω σ k = .inl (Ω.2.1 0, mLen k, .inl (σ k)) := by
  unfold cel
  rw [if_neg (by omega), if_neg (by omega), if_neg (by omega), if_neg (by omega), if_neg (by omega), if_neg (by omega), if_neg (by omega), if_neg (by omega), if_neg (by omega)]
  rfl
theorem cel_congr {Ω : Om} {σ σ' : Sg} {k : Nat} (h : σ' k = σ k) : cel Ω σ' k = cel Ω σ k := by
  unfold cel zBox zArr zSp zPic zHis zHisA zTxt zCh zMain
  simp only [h]
def CW (Ω : Om) (σ : Sg) : va_W := (List.range 371).map fun k => (ad Ω k, cel Ω σ k)
theorem CW_get {Ω : Om} {σ : Sg} {k : Nat} (h : k < 371) : (CW Ω σ)[k]? = some (ad Ω k, cel Ω σ k) := by
  simp [CW, h]
theorem CW_set {Ω : Om} {σ σ' : Sg} {k : Nat} {e : va_E} (ho : ∀ j, j ≠ k → σ' j = σ j) (he : cel Ω σ' k = e) : (CW Ω σ).set k (ad Ω k, e) = CW Ω σ' := by
  subst he
  refine List.ext_getElem? fun j => ?_
  rw [List.getElem?_set]
  by_cases hj : k = j
  · subst hj
    by_cases hk : k < 371
    · rw [if_pos rfl, if_pos (by simp [CW, hk]), CW_get hk]
    · rw [if_pos rfl, if_neg (by simp [CW, hk])]
      simp [CW, hk]
  · rw [if_neg hj]
    by_cases hk : j < 371
    · rw [CW_get hk, CW_get hk, cel_congr (ho j (fun q => hj q.symm))]
    · simp [CW, hk]
theorem CW_D {A : Nat → Prop} {Ω : Om} {σ σ' : Sg} (h : va_D A (CW Ω σ)) : va_D A (CW Ω σ') := by
  have key : ∀ (k : Nat) (q : Nat × va_E), (CW Ω σ')[k]? = some q → ∃ q', (CW Ω σ)[k]? = some q' ∧ q'.1 = q.1 := by
    intro k q hq
    by_cases hk : k < 371
    · rw [CW_get hk] at hq
      exact ⟨_, CW_get hk, by cases hq; rfl⟩
    · simp [CW, hk] at hq
  refine ⟨fun i j p q hp hq e => ?_, fun k q hq => ?_⟩
  · obtain ⟨p', h1, h2⟩ := key i p hp
    obtain ⟨q', h3, h4⟩ := key j q hq
    exact h.1 i j p' q' h1 h3 (by rw [h2, h4, e])
  · obtain ⟨q', h1, h2⟩ := key k q hq
    rw [← h2]
    exact h.2 k q' h1
abbrev Sz0 : Sg := fun _ _ => 0
def tysO (Ω : Om) : List (ClassId × FieldType) := [(Ω.2.1 0, .int), (Ω.2.1 1, .object RX0), (Ω.2.1 2, .object RX3), (Ω.2.1 3, .char)]
/-! locals as a list by place, with holes -/
def lvZ : Nat → List (Option Value) → List (Nat × Value)
  | _, [] => []
  | i, none :: t => lvZ (i + 1) t
  | i, some v :: t => (i, v) :: lvZ (i + 1) t
def lvG : List (Option Value) → Nat → Option Value
  | [], _ => none
  | a :: _, 0 => a
  | _ :: t, i + 1 => lvG t i
def lvS : List (Option Value) → Nat → Option Value → List (Option Value)
  | [], _, _ => []
  | _ :: t, 0, v => v :: t
  | a :: t, i + 1, v => a :: lvS t i v
theorem lvZ_mem : ∀ (lv : List (Option Value)) (k : Nat) (q : Nat × Value), q ∈ lvZ k lv ↔ ∃ j, lvG lv j = some q.2 ∧ q.1 = k + j
  | [], k, q => by simp [lvZ, lvG]
  | none :: t, k, q => by
    rw [lvZ, lvZ_mem t]
    constructor
    · rintro ⟨j, h1, h2⟩
      exact ⟨j + 1, h1, by omega⟩
    · rintro ⟨j, h1, h2⟩
      cases j with
      | zero => simp [lvG] at h1
      | succ j => exact ⟨j, h1, by omega⟩
  | some v :: t, k, q => by
    rw [lvZ, List.mem_cons, lvZ_mem t]
    constructor
    · rintro (rfl | ⟨j, h1, h2⟩)
      · exact ⟨0, rfl, rfl⟩
      · exact ⟨j + 1, h1, by omega⟩
    · rintro ⟨j, h1, h2⟩
      cases j with
      | zero => exact Or.inl (by obtain ⟨a, b⟩ := q; simp [lvG] at h1; simp at h2; rw [h1, h2])
      | succ j => exact Or.inr ⟨j, h1, by omega⟩
theorem lvG_S : ∀ (lv : List (Option Value)) (i j : Nat) (v : Option Value), lvG (lvS lv i v) j = if j = i ∧ i < lv.length then v else lvG lv j
  | [], i, j, v => by simp [lvS, lvG]
  | a :: t, 0, 0, v => by simp [lvS, lvG]
  | a :: t, 0, j + 1, v => by simp [lvS, lvG]
  | a :: t, i + 1, 0, v => by simp [lvS, lvG]
  | a :: t, i + 1, j + 1, v => by
    rw [lvS, lvG, lvG_S t i j v]
    simp [lvG]
def lvH (ls : Array Slot) (n : Nat) (lv : List (Option Value)) : Prop := lv_has ls n (lvZ 0 lv)
theorem lvH_at {ls : Array Slot} {n i : Nat} {lv : List (Option Value)} {v : Value} (h : lvH ls n lv) (hl : lvG lv i = some v) : ls[i]? = some (.val v) :=
  h.2.2 (i, v) ((lvZ_mem lv 0 (i, v)).mpr ⟨i, hl, by omega⟩)
/-- no long stands just ahead -/
def lvK (lv : List (Option Value)) : Nat → Bool
  | 0 => true
  | i + 1 => match lvG lv i with
    | some v => v.category != 2
    | none => true
theorem lvH_set {ls : Array Slot} {n i : Nat} {lv : List (Option Value)} {v : Value} (h : lv_has ls n ((i, v) :: (lvZ 0 lv).filter (fun q => !(q.1 == i) && !(q.1 + 1 == i && q.2.category == 2)))) (hk : lvK lv i = true) : lvH ls n (lvS lv i (some v)) := by
  refine ⟨h.1, h.2.1, fun q hq => ?_⟩
  obtain ⟨j, h1, h2⟩ := (lvZ_mem _ _ _).mp hq
  rw [lvG_S] at h1
  obtain ⟨a, w⟩ := q
  simp only [Nat.zero_add] at h2
  subst h2
  split at h1
  next hc =>
    obtain ⟨rfl, -⟩ := hc
    rw [← Option.some.inj h1]
    exact h.2.2 (a, v) List.mem_cons_self
  next hc =>
    by_cases hai : a = i
    · subst hai
      have : ¬ a < lv.length := fun q => hc ⟨rfl, q⟩
      have hn : ∀ (l : List (Option Value)) (a : Nat), ¬ a < l.length → lvG l a = none := by
        intro l
        induction l with
        | nil => intro a _; rfl
        | cons b t ih =>
          intro a ha
          cases a with
          | zero => simp at ha
          | succ a => exact ih a (by simpa using ha)
      rw [hn lv a this] at h1
      cases h1
    · refine h.2.2 (a, w) (List.mem_cons_of_mem _ (List.mem_filter.mpr ⟨(lvZ_mem _ _ _).mpr ⟨a, h1, by omega⟩, ?_⟩))
      have e1 : (a == i) = false := by simpa using hai
      simp only [e1, Bool.not_false, Bool.true_and]
      by_cases hb : a + 1 = i
      · subst hb
        simp only [lvK] at hk
        simp only at h1
        rw [h1] at hk
        simpa using hk
      · have e2 : (a + 1 == i) = false := by simpa using hb
        simp [e2]
theorem lvH_set2 {ls : Array Slot} {n i : Nat} {lv : List (Option Value)} {v : Value} (h : lv_has ls n ((i, v) :: (lvZ 0 lv).filter (fun q => !(q.1 == i) && (!(q.1 == i + 1) && !(q.1 + 1 == i && q.2.category == 2))))) (hk : lvK lv i = true) : lvH ls n (lvS (lvS lv i (some v)) (i + 1) none) := by
  refine ⟨h.1, h.2.1, fun q hq => ?_⟩
  obtain ⟨j, h1, h2⟩ := (lvZ_mem _ _ _).mp hq
  rw [lvG_S, lvG_S] at h1
  obtain ⟨a, w⟩ := q
  simp only [Nat.zero_add] at h2
  subst h2
  split at h1
  next hc => cases h1
  next hc0 =>
    have hn : ∀ (l : List (Option Value)) (a : Nat), ¬ a < l.length → lvG l a = none := by
      intro l
      induction l with
      | nil => intro a _; rfl
      | cons b t ih =>
        intro a ha
        cases a with
        | zero => simp at ha
        | succ a => exact ih a (by simpa using ha)
    have hlen : ∀ (l : List (Option Value)) (i : Nat) (v : Option Value), (lvS l i v).length = l.length := by
      intro l
      induction l with
      | nil => intro i v; rfl
      | cons b t ih =>
        intro i v
        cases i with
        | zero => rfl
        | succ i => simp [lvS, ih]
    rw [hlen] at hc0
    split at h1
    next hc =>
      obtain ⟨rfl, -⟩ := hc
      rw [← Option.some.inj h1]
      exact h.2.2 (a, v) List.mem_cons_self
    next hc =>
      have g0 : ∀ b, lvG lv b = some w → b < lv.length := fun b hb => Nat.not_le.mp (fun q => by rw [hn lv b (by omega)] at hb; cases hb)
      have hal := g0 a h1
      have hai : a ≠ i := fun e => hc ⟨e, by omega⟩
      have hai1 : a ≠ i + 1 := fun e => hc0 ⟨e, by omega⟩
      refine h.2.2 (a, w) (List.mem_cons_of_mem _ (List.mem_filter.mpr ⟨(lvZ_mem _ _ _).mpr ⟨a, h1, by omega⟩, ?_⟩))
      have e1 : (a == i) = false := by simpa using hai
      have e3 : (a == i + 1) = false := by simpa using hai1
      simp only [e1, e3, Bool.not_false, Bool.true_and]
      by_cases hb : a + 1 = i
      · subst hb
        simp only [lvK] at hk
        simp only at h1
        rw [h1] at hk
        simpa using hk
      · have e2 : (a + 1 == i) = false := by simpa using hb
        simp [e2]
