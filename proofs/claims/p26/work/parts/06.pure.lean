/-! PURE: what the methods answer, in numbers -/
def bI (b : Bool) : Int32 := if b then 1 else 0
theorem bI_t {b : Bool} (h : ¬ bI b = 0) : b = true := by cases b <;> simp_all [bI]
theorem bI_f {b : Bool} (h : bI b = 0) : b = false := by cases b <;> simp_all [bI]
theorem bI_01 (b : Bool) : bI b = 0 ∨ bI b = 1 := by cases b <;> simp [bI]
/-- the first index with p, below n; n without one -/
def ffi (p : Nat → Bool) : Nat → Nat
  | 0 => 0
  | n + 1 => if ffi p n < n then ffi p n else if p n then n else n + 1
theorem ff_none {p : Nat → Bool} : ∀ {n : Nat}, (∀ j, j < n → p j = false) → ffi p n = n
  | 0, _ => rfl
  | n + 1, h => by
    have h1 := ff_none (n := n) (fun j hj => h j (by omega))
    rw [ffi, if_neg (by omega), h n (by omega)]
    rfl
theorem ff_hit {p : Nat → Bool} {k : Nat} (h0 : ∀ j, j < k → p j = false) (hk : p k = true) : ∀ {n : Nat}, k < n → ffi p n = k
  | 0, h => by omega
  | n + 1, h => by
    rw [ffi]
    by_cases e : k = n
    · subst e
      rw [if_neg (by rw [ff_none h0]; omega), if_pos hk]
    · have h1 := ff_hit h0 hk (n := n) (by omega)
      rw [if_pos (by omega), h1]
/-- the first index with p as an int; -1 without one -/
def fI (p : Nat → Bool) (n : Nat) : Int32 := if ffi p n < n then nI (ffi p n) else -1
theorem fI_hit {p : Nat → Bool} {k n : Nat} (h0 : ∀ j, j < k → p j = false) (hk : p k = true) (hn : k < n) : fI p n = nI k := by
  unfold fI
  rw [ff_hit h0 hk hn, if_pos hn]
theorem fI_none {p : Nat → Bool} {n : Nat} (h : ∀ j, j < n → p j = false) : fI p n = -1 := by
  unfold fI
  rw [ff_none h, if_neg (by omega)]
/-- some index below n with p; how many; a sum; the bits -/
def anyb (p : Nat → Bool) : Nat → Bool
  | 0 => false
  | n + 1 => anyb p n || p n
theorem anyb_t {p : Nat → Bool} {k : Nat} (hk : p k = true) : ∀ {n : Nat}, k < n → anyb p n = true
  | 0, h => by omega
  | n + 1, h => by
    rw [anyb]
    by_cases e : k = n
    · subst e
      simp [hk]
    · simp [anyb_t hk (n := n) (by omega)]
theorem anyb_f {p : Nat → Bool} : ∀ {n : Nat}, (∀ j, j < n → p j = false) → anyb p n = false
  | 0, _ => rfl
  | n + 1, h => by rw [anyb, anyb_f (n := n) (fun j hj => h j (by omega)), h n (by omega)]; rfl
def cntI (p : Nat → Bool) : Nat → Int32
  | 0 => 0
  | n + 1 => if p n then cntI p n + 1 else cntI p n
def sumI (f : Nat → Int32) : Nat → Int32
  | 0 => 0
  | n + 1 => sumI f n + f n
def bitI (k : Nat) : Int32 := (1 : Int32) <<< (nI k &&& 31)
def orI (p : Nat → Bool) (f : Nat → Int32) : Nat → Int32
  | 0 => 0
  | n + 1 => if p n then orI p f n ||| f n else orI p f n
def hasB (x : Int32) (k : Nat) : Bool := !decide ((x >>> (nI k &&& 31)) &&& 1 = 0)
/-- a box's ends: low, high -/
abbrev V3 : Type := Nat → Int32
def mtB (l1 h1 l2 h2 : V3) (d : Nat) : Bool := decide (l1 d < h2 d) && decide (l2 d < h1 d)
def md (l1 h1 l2 h2 : V3) (d e : Nat) : Bool := decide (l1 d - h1 e < h2 d - l2 e) && decide (l2 d - h2 e < h1 d - l1 e)
def ctBx (l1 h1 l2 h2 : V3) : Bool := mtB l1 h1 l2 h2 0 && mtB l1 h1 l2 h2 1 && mtB l1 h1 l2 h2 2
def ovB (l1 h1 l2 h2 : V3) : Bool := md l1 h1 l2 h2 0 1 && md l1 h1 l2 h2 0 2 && md l1 h1 l2 h2 1 2
def dhB (l1 h1 l2 h2 : V3) : Int32 := if ovB l1 h1 l2 h2 then fI (fun d => !decide (l1 d < h2 d)) 3 else -1
def beB (l1 h1 l2 h2 : V3) : Bool := mtB l1 h1 l2 h2 0 && mtB l1 h1 l2 h2 1 && !decide (l2 2 < h1 2)
def cvB (l1 h1 : V3) (y : Int32) : Bool := !decide (y < l1 1) && decide (y < h1 1)
/-- a range of add -/
def inRg (from_ size : Int32) : Bool := !decide (from_ < 0) && !decide (31 < from_) && !decide (size < 1) && !decide (12 < size) && !decide (32 < from_ + size)
/-- the longest of the directions 0 .. k -/
def lgd (f : Nat → Int32) : Nat → Nat
  | 0 => 0
  | k + 1 => if f (lgd f k) < f (k + 1) then k + 1 else lgd f k
theorem lgd_le (f : Nat → Int32) : ∀ k, lgd f k ≤ k
  | 0 => Nat.le_refl _
  | k + 1 => by
    rw [lgd]
    have := lgd_le f k
    split <;> omega
/-! the boxes of the world -/
def szB (σ : Sg) (b d : Nat) : Int32 := σ (iH b) d - σ (iL b) d
def voB (σ : Sg) (b : Nat) : Int32 := szB σ b 0 * szB σ b 1 * szB σ b 2
def rwB (σ : Sg) (b : Nat) : Int32 := ((1 : Int32) <<< (szB σ b 0 &&& 31) - 1) <<< (σ (iL b) 0 &&& 31)
/-- box b is as box o was; nothing else of the world changed -/
def bxC (σ' : Sg) (b : Nat) (σ : Sg) (o : Nat) : Prop := σ' (iBo b) 0 = σ (iBo o) 0 ∧ (∀ d, d < 3 → σ' (iL b) d = σ (iL o) d ∧ σ' (iH b) d = σ (iH o) d)
def frB (b : Nat) (σ σ' : Sg) : Prop := ∀ k, k ≠ iBo b → k ≠ iL b → k ≠ iH b → σ' k = σ k
theorem nBL (b c : Nat) : iBo b ≠ iL c := by unfold iBo iL; omega
theorem nBH (b c : Nat) : iBo b ≠ iH c := by unfold iBo iH; omega
theorem nLB (b c : Nat) : iL b ≠ iBo c := by unfold iBo iL; omega
theorem nLH (b c : Nat) : iL b ≠ iH c := by unfold iL iH; omega
theorem nHB (b c : Nat) : iH b ≠ iBo c := by unfold iBo iH; omega
theorem nHL (b c : Nat) : iH b ≠ iL c := by unfold iL iH; omega
theorem bx_lt {s k : Nat} (hs : s < 7) (hk : k < 16) : bx s k < 113 := by unfold bx; omega
def us (x y : Int32) : Int32 := (x.toUInt32 >>> (y.toUInt32 &&& Int32.toUInt32 31)).toInt32
/-- Integer.bitCount, as it is computed -/
def bcI (x : Int32) : Int32 :=
  let v1 := x - (us x 1 &&& 1431655765)
  let v2 := (v1 &&& 858993459) + (us v1 2 &&& 858993459)
  let v3 := (v2 + us v2 4) &&& 252645135
  let v4 := v3 + us v3 8
  let v5 := v4 + us v4 16
  v5 &&& 63
theorem fill_step (σ : Sg) (q k : Nat) (x : Int32) : upS (setA σ q (fun i => if i < k then x else σ q i)) q k x = setA σ q (fun i => if i < k + 1 then x else σ q i) := by
  funext a i
  by_cases ha : a = q
  · subst ha
    simp only [up_get, setA, if_true, true_and]
    by_cases hi : i = k
    · subst hi
      simp
    · by_cases h2 : i < k
      · simp [hi, h2, show i < k + 1 by omega]
      · simp [hi, h2, show ¬ i < k + 1 by omega]
  · simp [up_get, setA, ha]
def wtS (σ : Sg) (s k : Nat) : Int32 := if σ (iS s) 4 = 1 then σ (iL (bx s k)) 0 + σ (iL (bx s k)) 1 + σ (iL (bx s k)) 2 else if σ (iS s) 4 = 2 then voB σ (bx s k) else 0
def grS (σ : Sg) (s u : Nat) : Nat → Int32
  | 0 => 0
  | k + 1 => if beB (σ (iL (bx s k))) (σ (iH (bx s k))) (σ (iL (bx s u))) (σ (iH (bx s u))) then (if grS σ s u k < σ (iH (bx s k)) 2 then σ (iH (bx s k)) 2 else grS σ s u k) else grS σ s u k
theorem nSB (s b : Nat) (hb : b < 113) : iS s ≠ iBo b := by unfold iS iBo; omega
theorem nSL (s b : Nat) (hb : b < 113) : iS s ≠ iL b := by unfold iS iL; omega
theorem nSH (s b : Nat) (hb : b < 113) : iS s ≠ iH b := by unfold iS iH; omega
/-- a cell is none of a space's boxes' -/
def outB (s q : Nat) : Prop := ∀ j, j < 16 → q ≠ iBo (bx s j) ∧ q ≠ iL (bx s j) ∧ q ≠ iH (bx s j)
theorem outB_S (s t : Nat) (hs : s < 7) : outB s (iS t) := fun j hj => ⟨nSB _ _ (bx_lt hs hj), nSL _ _ (bx_lt hs hj), nSH _ _ (bx_lt hs hj)⟩
theorem outB_bx {s t j : Nat} (h : s ≠ t) (hj : j < 16) : outB s (iBo (bx t j)) ∧ outB s (iL (bx t j)) ∧ outB s (iH (bx t j)) := by
  refine ⟨fun i hi => ?_, fun i hi => ?_, fun i hi => ?_⟩ <;> unfold iBo iL iH bx <;> omega
theorem bx_ne {s i j : Nat} (h : i ≠ j) : iBo (bx s i) ≠ iBo (bx s j) ∧ iL (bx s i) ≠ iL (bx s j) ∧ iH (bx s i) ≠ iH (bx s j) := by
  unfold iBo iL iH bx; omega
/-- the space s is as the space t was (n boxes); nothing else of the world changed -/
def spC (σ1 : Sg) (s : Nat) (σ : Sg) (t n : Nat) : Prop := (∀ i, 1 ≤ i → i < 5 → σ1 (iS s) i = σ (iS t) i) ∧ ∀ j, j < n → bxC σ1 (bx s j) σ (bx t j)
def frS (s : Nat) (σ σ1 : Sg) : Prop := ∀ q, q ≠ iS s → outB s q → σ1 q = σ q
theorem bxC_in {σ τ : Sg} {b o : Nat} (h0 : τ (iBo o) = σ (iBo o)) (h1 : τ (iL o) = σ (iL o)) (h2 : τ (iH o) = σ (iH o)) {σ1 : Sg} (h : bxC σ1 b τ o) : bxC σ1 b σ o := by
  refine ⟨h.1.trans (by rw [h0]), fun d hd => ⟨(h.2 d hd).1.trans (by rw [h1]), (h.2 d hd).2.trans (by rw [h2])⟩⟩
theorem bxC_keep {σ τ σ1 : Sg} {b o : Nat} (h : bxC τ b σ o) (h0 : σ1 (iBo b) = τ (iBo b)) (h1 : σ1 (iL b) = τ (iL b)) (h2 : σ1 (iH b) = τ (iH b)) : bxC σ1 b σ o := by
  refine ⟨by rw [h0]; exact h.1, fun d hd => ⟨by rw [h1]; exact (h.2 d hd).1, by rw [h2]; exact (h.2 d hd).2⟩⟩
theorem frB_out {s k : Nat} {τ σ1 : Sg} (hk : k < 16) (g2 : frB (bx s k) τ σ1) {q : Nat} (h : outB s q) : σ1 q = τ q := g2 q (h k hk).1 (h k hk).2.1 (h k hk).2.2
theorem frB_oth {s k j : Nat} {τ σ1 : Sg} (g2 : frB (bx s k) τ σ1) (h : j ≠ k) : σ1 (iBo (bx s j)) = τ (iBo (bx s j)) ∧ σ1 (iL (bx s j)) = τ (iL (bx s j)) ∧ σ1 (iH (bx s j)) = τ (iH (bx s j)) :=
  ⟨g2 _ (bx_ne h).1 (nBL _ _) (nBH _ _), g2 _ (nLB _ _) (bx_ne h).2.1 (nLH _ _), g2 _ (nHB _ _) (nHL _ _) (bx_ne h).2.2⟩
theorem spC_step {s t k : Nat} {σ τ σ1 : Sg} (hs : s < 7) (h7 : t < 7) (hst : s ≠ t) (hk : k < 16) (h : spC τ s σ t k) (h3 : frS s σ τ) (g1 : bxC σ1 (bx s k) τ (bx t k)) (g2 : frB (bx s k) τ σ1) : spC σ1 s σ t (k + 1) ∧ frS s σ σ1 := by
  have ht : ∀ q, outB s q → q ≠ iS s → τ q = σ q := fun q a b => h3 q b a
  have hB := outB_bx (s := s) hst hk
  refine ⟨⟨fun i a b => ?_, fun j hj => ?_⟩, fun q a b => ?_⟩
  · rw [frB_out hk g2 (outB_S s s hs)]
    exact h.1 i a b
  · rcases Nat.lt_or_ge j k with q | q
    · obtain ⟨e1, e2, e3⟩ := frB_oth g2 (show j ≠ k by omega)
      exact bxC_keep (h.2 j q) e1 e2 e3
    · have : j = k := by omega
      subst this
      exact bxC_in (ht _ hB.1 (fun e => nSB s _ (bx_lt h7 hk) e.symm)) (ht _ hB.2.1 (fun e => nSL s _ (bx_lt h7 hk) e.symm)) (ht _ hB.2.2 (fun e => nSH s _ (bx_lt h7 hk) e.symm)) g1
  · rw [frB_out hk g2 b]
    exact h3 q a b
def shPd (σ : Sg) (s u y : Nat) : Nat → Bool := fun j => beB (σ (iL (bx s u))) (σ (iH (bx s u))) (σ (iL (bx s j))) (σ (iH (bx s j))) && cvB (σ (iL (bx s j))) (σ (iH (bx s j))) (nI y)
def shR (σ : Sg) (s u n y : Nat) : Int32 := orI (shPd σ s u y) (fun j => rwB σ (bx s j)) n
theorem copy_head (σ : Sg) {s t : Nat} (h : s ≠ t) : spC (upS (upS (upS (upS σ (iS s) 1 (σ (iS t) 1)) (iS s) 2 (upS σ (iS s) 1 (σ (iS t) 1) (iS t) 2)) (iS s) 3 (upS (upS σ (iS s) 1 (σ (iS t) 1)) (iS s) 2 (upS σ (iS s) 1 (σ (iS t) 1) (iS t) 2) (iS t) 3)) (iS s) 4 (upS (upS (upS σ (iS s) 1 (σ (iS t) 1)) (iS s) 2 (upS σ (iS s) 1 (σ (iS t) 1) (iS t) 2)) (iS s) 3 (upS (upS σ (iS s) 1 (σ (iS t) 1)) (iS s) 2 (upS σ (iS s) 1 (σ (iS t) 1) (iS t) 2) (iS t) 3) (iS t) 4)) s σ t 0 ∧ frS s σ (upS (upS (upS (upS σ (iS s) 1 (σ (iS t) 1)) (iS s) 2 (upS σ (iS s) 1 (σ (iS t) 1) (iS t) 2)) (iS s) 3 (upS (upS σ (iS s) 1 (σ (iS t) 1)) (iS s) 2 (upS σ (iS s) 1 (σ (iS t) 1) (iS t) 2) (iS t) 3)) (iS s) 4 (upS (upS (upS σ (iS s) 1 (σ (iS t) 1)) (iS s) 2 (upS σ (iS s) 1 (σ (iS t) 1) (iS t) 2)) (iS s) 3 (upS (upS σ (iS s) 1 (σ (iS t) 1)) (iS s) 2 (upS σ (iS s) 1 (σ (iS t) 1) (iS t) 2) (iS t) 3) (iS t) 4)) := by
  have hne : iS t ≠ iS s := by unfold iS; omega
  refine ⟨⟨fun i h1 h2 => ?_, fun j hj => absurd hj (by omega)⟩, fun q h1 h2 => ?_⟩
  · obtain rfl | rfl | rfl | rfl : i = 1 ∨ i = 2 ∨ i = 3 ∨ i = 4 := by omega
    all_goals simp [up_get, hne]
  · funext i
    simp [up_get, h1]
def apN (σ : Sg) (s o n : Nat) (x : Int32) (σ1 : Sg) : Prop := x = σ (iS s) 2 ∧ σ1 (iS s) 1 = nI (n + 1) ∧ σ1 (iS s) 2 = σ (iS s) 2 + 1 ∧ (∀ i, i ≠ 1 → i ≠ 2 → σ1 (iS s) i = σ (iS s) i) ∧ σ1 (iBo (bx s n)) 0 = σ (iS s) 2 ∧ (∀ d, d < 3 → σ1 (iL (bx s n)) d = σ (iL o) d ∧ σ1 (iH (bx s n)) d = σ (iH o) d) ∧ ∀ q, q ≠ iS s → q ≠ iBo (bx s n) → q ≠ iL (bx s n) → q ≠ iH (bx s n) → σ1 q = σ q
def apS (σ : Sg) (s o n : Nat) (x : Int32) (σ1 : Sg) : Prop := (n = 16 → x = -3 ∧ σ1 = σ) ∧ (n < 16 → apN σ s o n x σ1)
theorem apS_ok {σ σ1 : Sg} {s o n : Nat} (hs : s < 7) (hn : n < 16) (hc : σ (iS s) 1 = nI n) (h1 : bxC σ1 (bx s n) σ o) (h2 : frB (bx s n) σ σ1) : apS σ s o n ((upS (upS (upS σ1 (iBo (bx s n)) 0 (σ1 (iS s) 2)) (iS s) 1 (upS σ1 (iBo (bx s n)) 0 (σ1 (iS s) 2) (iS s) 1 + 1)) (iS s) 2 (upS (upS σ1 (iBo (bx s n)) 0 (σ1 (iS s) 2)) (iS s) 1 (upS σ1 (iBo (bx s n)) 0 (σ1 (iS s) 2) (iS s) 1 + 1) (iS s) 2 + 1)) (iBo (bx s n)) 0) (upS (upS (upS σ1 (iBo (bx s n)) 0 (σ1 (iS s) 2)) (iS s) 1 (upS σ1 (iBo (bx s n)) 0 (σ1 (iS s) 2) (iS s) 1 + 1)) (iS s) 2 (upS (upS σ1 (iBo (bx s n)) 0 (σ1 (iS s) 2)) (iS s) 1 (upS σ1 (iBo (bx s n)) 0 (σ1 (iS s) 2) (iS s) 1 + 1) (iS s) 2 + 1)) := by
  have hb := bx_lt hs hn
  have eS : σ1 (iS s) = σ (iS s) := h2 _ (nSB _ _ hb) (nSL _ _ hb) (nSH _ _ hb)
  have d1 := nSB s (bx s n) hb
  have d2 := nSL s (bx s n) hb
  have d3 := nSH s (bx s n) hb
  refine ⟨fun h => absurd h (by omega), fun _ => ⟨?_, ?_, ?_, fun i a b => ?_, ?_, fun d hd => ?_, fun q a b c d => ?_⟩⟩
  · simp [up_get, eS, d1.symm]
  · simp [up_get, eS, d1, hc, nI_1]
  · simp [up_get, eS, d1]
  · simp [up_get, eS, a, b, d1]
  · simp [up_get, eS, d1.symm]
  · have := h1.2 d hd
    simp [up_get, this.1, this.2, d2.symm, d3.symm, nLB, nHB]
  · funext i
    simp [up_get, a, b, h2 q b c d]
def mvI (g k j : Nat) : Nat := if g ≤ j ∧ j < k then j + 1 else j
theorem bxC_rfl (σ : Sg) (b : Nat) : bxC σ b σ b := ⟨rfl, fun _ _ => ⟨rfl, rfl⟩⟩
theorem bxC_trans {σ τ υ : Sg} {a b c : Nat} (h1 : bxC υ a τ b) (h2 : bxC τ b σ c) : bxC υ a σ c :=
  ⟨h1.1.trans h2.1, fun d hd => ⟨(h1.2 d hd).1.trans (h2.2 d hd).1, (h1.2 d hd).2.trans (h2.2 d hd).2⟩⟩
def tkI (σ : Sg) (s g k : Nat) (τ : Sg) : Prop := (∀ j, j < 16 → bxC τ (bx s j) σ (bx s (mvI g k j))) ∧ ∀ q, outB s q → τ q = σ q
theorem tkI_0 (σ : Sg) (s g : Nat) : tkI σ s g g σ := by
  refine ⟨fun j _ => ?_, fun _ _ => rfl⟩
  have : mvI g g j = j := by unfold mvI; rw [if_neg (by omega)]
  rw [this]
  exact bxC_rfl σ _
theorem tkI_step {σ τ σ1 : Sg} {s g k : Nat} (hk : k + 1 < 16) (hgk : g ≤ k) (h : tkI σ s g k τ) (g1 : bxC σ1 (bx s k) τ (bx s (k + 1))) (g2 : frB (bx s k) τ σ1) : tkI σ s g (k + 1) σ1 := by
  refine ⟨fun j hj => ?_, fun q hq => (frB_out (by omega) g2 hq).trans (h.2 q hq)⟩
  by_cases e : j = k
  · subst e
    have h1 := h.1 (j + 1) hk
    have e1 : mvI g j (j + 1) = j + 1 := by unfold mvI; rw [if_neg (by omega)]
    have e2 : mvI g (j + 1) j = j + 1 := by unfold mvI; rw [if_pos (by omega)]
    rw [e1] at h1
    rw [e2]
    exact bxC_trans g1 h1
  · have e1 : mvI g (k + 1) j = mvI g k j := by
      unfold mvI
      by_cases c : g ≤ j ∧ j < k
      · rw [if_pos c, if_pos (by omega)]
      · rw [if_neg c, if_neg (by omega)]
    rw [e1]
    obtain ⟨x1, x2, x3⟩ := frB_oth g2 e
    exact bxC_keep (h.1 j hj) x1 x2 x3
def tkS (σ : Sg) (s g n : Nat) (σ1 : Sg) : Prop := σ1 (iS s) 1 = nI (n - 1) ∧ (∀ i, i ≠ 1 → σ1 (iS s) i = σ (iS s) i) ∧ (∀ j, j < 16 → bxC σ1 (bx s j) σ (bx s (mvI g (n - 1) j))) ∧ frS s σ σ1
theorem tkS_ok {σ τ : Sg} {s g n : Nat} (hs : s < 7) (hn : 1 ≤ n) (hc : σ (iS s) 1 = nI n) (h : tkI σ s g (n - 1) τ) : tkS σ s g n (upS τ (iS s) 1 (τ (iS s) 1 - 1)) := by
  have eS : τ (iS s) = σ (iS s) := h.2 _ (outB_S s s hs)
  refine ⟨?_, fun i hi => ?_, fun j hj => ?_, fun q a b => ?_⟩
  · obtain ⟨m, rfl⟩ : ∃ m, n = m + 1 := ⟨n - 1, by omega⟩
    rw [up_get, if_pos ⟨rfl, rfl⟩, eS, hc, nI_pred]
    rfl
  · rw [up_get, if_neg (by simp [hi]), eS]
  · have hb := bx_lt hs hj
    exact bxC_keep (h.1 j hj) (up_ne (nSB _ _ hb).symm) (up_ne (nSL _ _ hb).symm) (up_ne (nSH _ _ hb).symm)
  · rw [up_ne a]
    exact h.2 q b
def cuS (σ : Sg) (s k d : Nat) (x : Int32) (n : Nat) (r : Int32) (σ2 : Sg) : Prop := (n = 16 → r = -3 ∧ σ2 = σ) ∧ (n < 16 → r = σ (iS s) 2 ∧ σ2 (iS s) 1 = nI (n + 1) ∧ σ2 (iS s) 2 = σ (iS s) 2 + 1 ∧ σ2 (iS s) 3 = σ (iS s) 3 + 1 ∧ σ2 (iS s) 4 = σ (iS s) 4 ∧ (∀ j, j < n → σ2 (iBo (bx s j)) 0 = σ (iBo (bx s j)) 0 ∧ ∀ e, e < 3 → σ2 (iL (bx s j)) e = σ (iL (bx s j)) e ∧ σ2 (iH (bx s j)) e = if j = k ∧ e = d then x else σ (iH (bx s j)) e) ∧ σ2 (iBo (bx s n)) 0 = σ (iS s) 2 ∧ (∀ e, e < 3 → σ2 (iL (bx s n)) e = (if e = d then x else σ (iL (bx s k)) e) ∧ σ2 (iH (bx s n)) e = σ (iH (bx s k)) e) ∧ frS s σ σ2)
theorem cuS_ok {σ σ1 : Sg} {s k d n : Nat} {x : Int32} (hs : s < 7) (hn : n < 16) (hk : k < n) (hd : d < 3) (hc : σ (iS s) 1 = nI n) (h : apN σ s (bx s k) n (σ (iS s) 2) σ1) : cuS σ s k d x n (σ (iS s) 2) (upS (upS (upS σ1 (iL (bx s n)) d x) (iH (bx s k)) d x) (iS s) 3 (upS (upS σ1 (iL (bx s n)) d x) (iH (bx s k)) d x (iS s) 3 + 1)) := by
  obtain ⟨-, g1, g2, g3, g4, g5, g6⟩ := h
  have n1 : ∀ b, b < 113 → iS s ≠ iL b := fun b hb => nSL s b hb
  have n2 : ∀ b, b < 113 → iS s ≠ iH b := fun b hb => nSH s b hb
  have n0 : ∀ b, b < 113 → iS s ≠ iBo b := fun b hb => nSB s b hb
  have bn := bx_lt hs (show n < 16 by omega)
  have bk := bx_lt hs (show k < 16 by omega)
  refine ⟨fun q => absurd q (by omega), fun _ => ⟨rfl, ?_, ?_, ?_, ?_, fun j hj => ⟨?_, fun e he => ⟨?_, ?_⟩⟩, ?_, fun e he => ⟨?_, ?_⟩, fun q a b => ?_⟩⟩
  · simp [up_get, n1 _ bn, n2 _ bk, g1]
  · simp [up_get, n1 _ bn, n2 _ bk, g2]
  · simp [up_get, n1 _ bn, n2 _ bk, g3]
  · simp [up_get, n1 _ bn, n2 _ bk, g3]
  · have bj := bx_lt hs (show j < 16 by omega)
    simp [up_get, (n0 _ bj).symm, nBL, nBH]
    rw [g6 _ (n0 _ bj).symm (bx_ne (by omega)).1 (nBL _ _) (nBH _ _)]
  · have bj := bx_lt hs (show j < 16 by omega)
    simp [up_get, (n1 _ bj).symm, (bx_ne (s := s) (show j ≠ n by omega)).2.1, nLH]
    rw [g6 _ (n1 _ bj).symm (nLB _ _) (bx_ne (by omega)).2.1 (nLH _ _)]
  · have bj := bx_lt hs (show j < 16 by omega)
    have hg := g6 (iH (bx s j)) (n2 _ bj).symm (nHB _ _) (nHL _ _) (bx_ne (by omega)).2.2
    by_cases e1 : j = k
    · subst e1
      by_cases e2 : e = d
      · simp [up_get, (n2 _ bj).symm, e2]
      · simp [up_get, (n2 _ bj).symm, e2, nHL, hg]
    · simp [up_get, (n2 _ bj).symm, e1, (bx_ne (s := s) e1).2.2, nHL, hg]
  · simp [up_get, (n0 _ bn).symm, nBL, nBH, g4]
  · have := g5 e he
    by_cases e2 : e = d
    · simp [up_get, (n1 _ bn).symm, e2, nLH]
    · simp [up_get, (n1 _ bn).symm, e2, nLH, this.1]
  · have := g5 e he
    simp [up_get, (n2 _ bn).symm, (bx_ne (s := s) (show n ≠ k by omega)).2.2, nHL, this.2]
  · have h1 := b n (by omega)
    have h2 := b k (by omega)
    rw [up_ne a, up_ne h2.2.2, up_ne h1.2.1]
    exact g6 q a h1.1 h1.2.1 h1.2.2
def qtB (σ τ : Sg) (b : Nat) : Prop := τ (iBo b) = σ (iBo b) ∧ τ (iL b) 0 = 32 - σ (iH b) 1 ∧ τ (iH b) 0 = 32 - σ (iL b) 1 ∧ τ (iL b) 1 = σ (iL b) 0 ∧ τ (iH b) 1 = σ (iH b) 0 ∧ τ (iL b) 2 = σ (iL b) 2 ∧ τ (iH b) 2 = σ (iH b) 2
def qtI (σ : Sg) (s k : Nat) (τ : Sg) : Prop := (∀ j, j < k → qtB σ τ (bx s j)) ∧ (∀ j, k ≤ j → j < 16 → τ (iBo (bx s j)) = σ (iBo (bx s j)) ∧ τ (iL (bx s j)) = σ (iL (bx s j)) ∧ τ (iH (bx s j)) = σ (iH (bx s j))) ∧ ∀ q, outB s q → τ q = σ q
theorem qtI_0 (σ : Sg) (s : Nat) : qtI σ s 0 σ := ⟨fun j hj => absurd hj (by omega), fun _ _ _ => ⟨rfl, rfl, rfl⟩, fun _ _ => rfl⟩
theorem qtI_step {σ τ : Sg} {s k : Nat} (hk : k < 16) (h : qtI σ s k τ) : qtI σ s (k + 1) (upS (upS (upS (upS τ (iL (bx s k)) 0 (32 - τ (iH (bx s k)) 1)) (iH (bx s k)) 0 (32 - upS τ (iL (bx s k)) 0 (32 - τ (iH (bx s k)) 1) (iL (bx s k)) 1)) (iL (bx s k)) 1 (τ (iL (bx s k)) 0)) (iH (bx s k)) 1 (τ (iH (bx s k)) 0)) := by
  obtain ⟨e0, e1, e2⟩ := h.2.1 k (Nat.le_refl _) hk
  refine ⟨fun j hj => ?_, fun j a b => ?_, fun q hq => ?_⟩
  · by_cases e : j = k
    · subst e
      refine ⟨?_, ?_, ?_, ?_, ?_, ?_, ?_⟩
      · funext i
        simp [up_get, nBL, nBH, e0]
      all_goals simp [up_get, nLH, nHL, e1, e2]
    · have := h.1 j (by omega)
      have n1 := (bx_ne (s := s) e)
      have f0 : ∀ υ : Sg, ∀ i v, upS υ (iL (bx s k)) i v (iL (bx s j)) = υ (iL (bx s j)) := fun υ i v => up_ne n1.2.1
      have f1 : ∀ υ : Sg, ∀ i v, upS υ (iH (bx s k)) i v (iH (bx s j)) = υ (iH (bx s j)) := fun υ i v => up_ne n1.2.2
      have f2 : ∀ υ : Sg, ∀ i v, upS υ (iH (bx s k)) i v (iL (bx s j)) = υ (iL (bx s j)) := fun υ i v => up_ne (nLH _ _)
      have f3 : ∀ υ : Sg, ∀ i v, upS υ (iL (bx s k)) i v (iH (bx s j)) = υ (iH (bx s j)) := fun υ i v => up_ne (nHL _ _)
      have f4 : ∀ υ : Sg, ∀ i v, upS υ (iL (bx s k)) i v (iBo (bx s j)) = υ (iBo (bx s j)) := fun υ i v => up_ne (nBL _ _)
      have f5 : ∀ υ : Sg, ∀ i v, upS υ (iH (bx s k)) i v (iBo (bx s j)) = υ (iBo (bx s j)) := fun υ i v => up_ne (nBH _ _)
      unfold qtB
      simp only [f0, f1, f2, f3, f4, f5]
      exact this
  · have := h.2.1 j (by omega) b
    have n1 := (bx_ne (s := s) (show j ≠ k by omega))
    rw [up_ne (nBH _ _), up_ne (nBL _ _), up_ne (nBH _ _), up_ne (nBL _ _), up_ne (nLH _ _), up_ne n1.2.1, up_ne (nLH _ _), up_ne n1.2.1, up_ne n1.2.2, up_ne (nHL _ _), up_ne n1.2.2, up_ne (nHL _ _)]
    exact this
  · have := hq k hk
    rw [up_ne this.2.2, up_ne this.2.1, up_ne this.2.2, up_ne this.2.1]
    exact h.2.2 q hq
/-! pictures: sets of boxes as the bits of an int -/
def oI : Option Nat → Int32
  | none => -1
  | some k => nI k
def hdS (σ : Sg) (s a b : Nat) : Bool := !decide (b = a) && !decide (dhB (σ (iL (bx s a))) (σ (iH (bx s a))) (σ (iL (bx s b))) (σ (iH (bx s b))) = -1)
def hmS (σ : Sg) (s n a : Nat) : Int32 := orI (hdS σ s a) bitI n
def wsR (c : Nat → Int32) (w : Nat) : Nat → (Nat → Int32)
  | 0 => c
  | k + 1 => if hasB (wsR c w k k) w then upd (wsR c w k) k (wsR c w k k ||| wsR c w k w) else wsR c w k
def wsO (c : Nat → Int32) (n : Nat) : Nat → (Nat → Int32)
  | 0 => c
  | w + 1 => wsR (wsO c n w) w n
theorem up_setA (σ : Sg) (q k : Nat) (F : Nat → Int32) (v : Int32) : upS (setA σ q F) q k v = setA σ q (upd F k v) := by
  funext a i
  by_cases h : a = q
  · subst h
    simp [upS, setA]
  · simp [upS, setA, h]
theorem setA_at (σ : Sg) (q : Nat) (F : Nat → Int32) : setA σ q F q = F := by simp [setA]
theorem setA_ne {σ : Sg} {q : Nat} {F : Nat → Int32} {a : Nat} (h : a ≠ q) : setA σ q F a = σ a := by simp [setA, h]
theorem setA_self (σ : Sg) (q : Nat) : setA σ q (σ q) = σ := by
  funext a
  by_cases h : a = q <;> simp [setA, h]
theorem setA_setA (σ : Sg) (q : Nat) (F G : Nat → Int32) : setA (setA σ q F) q G = setA σ q G := by
  funext a
  by_cases h : a = q <;> simp [setA, h]
theorem up_as (σ : Sg) (q k : Nat) (v : Int32) : upS σ q k v = setA σ q (upd (σ q) k v) := rfl
/-- who can be drawn, and the best of them among the first ones -/
def canD (h : Nat → Int32) (db : Int32) (k : Nat) : Bool := !hasB db k && decide (h k &&& (db ^^^ -1) = 0)
def bestO (p : Nat → Bool) (lt : Nat → Nat → Bool) : Nat → Option Nat
  | 0 => none
  | k + 1 => if p k && (match bestO p lt k with | none => true | some b => lt k b) then some k else bestO p lt k
theorem bestO_lt {p : Nat → Bool} {lt : Nat → Nat → Bool} : ∀ {k j : Nat}, bestO p lt k = some j → j < k
  | 0, j, h => by simp [bestO] at h
  | k + 1, j, h => by
    rw [bestO] at h
    by_cases c : (p k && (match bestO p lt k with | none => true | some b => lt k b)) = true
    · rw [if_pos c] at h
      cases h
      omega
    · rw [if_neg c] at h
      have := bestO_lt h
      omega
theorem oI_some {p : Nat → Bool} {lt : Nat → Nat → Bool} {k : Nat} {x : Int32} (hx : x = oI (bestO p lt k)) (h : ¬ x = -1) : ∃ j, j < k ∧ bestO p lt k = some j ∧ x = nI j := by
  cases e : bestO p lt k with
  | none => rw [e] at hx; exact absurd hx h
  | some j => rw [e] at hx; exact ⟨j, bestO_lt e, rfl, hx⟩
theorem oI_none {p : Nat → Bool} {lt : Nat → Nat → Bool} {k : Nat} {x : Int32} (hk : k ≤ 16) (hx : x = oI (bestO p lt k)) (h : x = -1) : bestO p lt k = none := by
  cases e : bestO p lt k with
  | none => rfl
  | some j =>
    rw [e, h] at hx
    have h1 : j < 16 := by have := bestO_lt e; omega
    have h2 : (nI j).toInt = (j : Int) := nI_toInt (by omega)
    have h3 : (-1 : Int32).toInt = -1 := by decide
    have h4 : (-1 : Int32) = nI j := hx
    rw [← h4, h3] at h2
    omega
theorem bestO_yes {p : Nat → Bool} {lt : Nat → Nat → Bool} {k : Nat} (h1 : p k = true) (h2 : bestO p lt k = none ∨ ∃ j, bestO p lt k = some j ∧ lt k j = true) : bestO p lt (k + 1) = some k := by
  rw [bestO]
  rcases h2 with e | ⟨j, e, h⟩ <;> simp [h1, e, *]
theorem bestO_no1 {p : Nat → Bool} {lt : Nat → Nat → Bool} {k : Nat} (h1 : p k = false) : bestO p lt (k + 1) = bestO p lt k := by
  rw [bestO]
  simp [h1]
theorem bestO_no2 {p : Nat → Bool} {lt : Nat → Nat → Bool} {k j : Nat} (e : bestO p lt k = some j) (h : lt k j = false) : bestO p lt (k + 1) = bestO p lt k := by
  rw [bestO]
  simp [e, h]
def nxO (n : Nat) (h wt : Nat → Int32) (db : Int32) : Option Nat := bestO (canD h db) (fun k b => decide (wt k < wt b)) n
def layA (lay : Nat → Int32) (x : Int32) : Nat → Int32
  | 0 => 0
  | k + 1 => if hasB x k then (if layA lay x k < lay k + 1 then lay k + 1 else layA lay x k) else layA lay x k
/-- the drawing after some boxes: those drawn, the order, the layers -/
def drS (n : Nat) (h wt : Nat → Int32) (o0 l0 : Nat → Int32) : Nat → Int32 × (Nat → Int32) × (Nat → Int32)
  | 0 => (0, o0, l0)
  | j + 1 => match nxO n h wt (drS n h wt o0 l0 j).1 with
    | none => drS n h wt o0 l0 j
    | some b => ((drS n h wt o0 l0 j).1 ||| bitI b, upd (drS n h wt o0 l0 j).2.1 j (nI b), upd (drS n h wt o0 l0 j).2.2 b (layA (drS n h wt o0 l0 j).2.2 (h b) n))
def drC (n : Nat) (h wt : Nat → Int32) (o0 l0 : Nat → Int32) : Nat := ffi (fun j => (nxO n h wt (drS n h wt o0 l0 j).1).isNone) n
def glI (lay : Nat → Int32) : Nat → Int32
  | 0 => -5
  | k + 1 => if glI lay k < lay k then lay k else glI lay k
def rchI (h : Nat → Int32) (n k : Nat) : Nat → Int32
  | 0 => h k
  | j + 1 => rchI h n k j ||| orI (hasB (rchI h n k j)) h n
def srO (h : Nat → Int32) (n k : Nat) : Int32 := if ffi (fun j => hasB (rchI h n k j) k) n < n then nI (ffi (fun j => hasB (rchI h n k j) k) n + 1) else -5
def srI (h : Nat → Int32) (n : Nat) : Nat → Int32
  | 0 => -5
  | k + 1 => if srO h n k = -5 then srI h n k else if srI h n k = -5 then srO h n k else if srO h n k < srI h n k then srO h n k else srI h n k
def grO (σ : Sg) (s : Nat) (c : Nat → Int32) (n : Nat) : Option Nat := bestO (fun k => hasB (c k) k) (fun k b => decide (voB σ (bx s b) < voB σ (bx s k))) n
theorem slot_ix {x : Int32} {m : Nat} (h0 : ¬ x < 0) (h1 : x < nI m) (hm : m < 2 ^ 31) : ∃ j : Nat, j < m ∧ x = nI j := by
  rcases pk_ix x hm with h | h | h
  · exact absurd h h0
  · exact absurd h1 (Int32.not_lt.mpr h)
  · exact h
theorem nx_some {n : Nat} {h wt : Nat → Int32} {db : Int32} (hq : ¬ oI (nxO n h wt db) = -1) : ∃ b, b < n ∧ nxO n h wt db = some b := by
  cases e : nxO n h wt db with
  | none => rw [e] at hq; exact absurd rfl hq
  | some b => exact ⟨b, bestO_lt e, rfl⟩
theorem nx_none {n : Nat} {h wt : Nat → Int32} {db : Int32} (hn : n ≤ 16) (hq : oI (nxO n h wt db) = -1) : nxO n h wt db = none := oI_none hn rfl hq
theorem chain_no {σ τ : Sg} {q w k : Nat} {c : Nat → Int32} (h : τ = setA σ q (wsR c w k)) (hb : hasB (τ q k) w = false) : τ = setA σ q (wsR c w (k + 1)) := by
  rw [h, setA_at] at hb
  rw [wsR, if_neg (by simp [hb])]
  exact h
theorem chain_yes {σ τ : Sg} {q w k : Nat} {c : Nat → Int32} (h : τ = setA σ q (wsR c w k)) (hb : hasB (τ q k) w = true) : upS τ q k (τ q k ||| τ q w) = setA σ q (wsR c w (k + 1)) := by
  rw [h, setA_at] at hb
  rw [wsR, if_pos hb, h, setA_at, up_setA]
/-- nothing but some cells of a picture changed -/
def wt_same {σ τ : Sg} {s : Nat} (hs : iS s < 353) (h : ∀ q, q < 353 → τ q = σ q) (hb : ∀ k, k < 16 → iH (bx s k) < 353) : ∀ k, k < 16 → wtS τ s k = wtS σ s k := by
  intro k hk
  have h1 := hb k hk
  have h2 : iL (bx s k) < 353 := by unfold iL; unfold iH at h1; omega
  unfold wtS voB szB
  rw [h _ hs, h _ h2, h _ h1]
theorem wt_eq {σ τ : Sg} {s : Nat} (hs : s < 7) (h : ∀ q, q < 353 → τ q = σ q) {k : Nat} (hk : k < 16) : wtS τ s k = wtS σ s k :=
  wt_same (by unfold iS; omega) h (fun k hk => by unfold iH bx; omega) k hk
theorem bestO_congr {p p' : Nat → Bool} {lt lt' : Nat → Nat → Bool} : ∀ {n : Nat}, (∀ k, k < n → p k = p' k) → (∀ k b, k < n → b < n → lt k b = lt' k b) → bestO p lt n = bestO p' lt' n
  | 0, _, _ => rfl
  | n + 1, h1, h2 => by
    have e := bestO_congr (n := n) (fun k hk => h1 k (by omega)) (fun k b hk hb => h2 k b (by omega) (by omega))
    rw [bestO, bestO, e, h1 n (by omega)]
    cases e2 : bestO p' lt' n with
    | none => rfl
    | some b => simp only [h2 n b (by omega) (by have := bestO_lt e2; omega)]
theorem nxO_congr {n : Nat} {h h' wt wt' : Nat → Int32} {db : Int32} (h1 : ∀ k, k < n → h k = h' k) (h2 : ∀ k, k < n → wt k = wt' k) : nxO n h wt db = nxO n h' wt' db :=
  bestO_congr (fun k hk => by unfold canD; rw [h1 k hk]) (fun k b hk hb => by rw [h2 k hk, h2 b hb])
/-- the drawing's cells of a picture -/
def dwC (n : Nat) (h wt o0 l0 : Nat → Int32) (p : Nat) (σ τ : Sg) (j : Nat) : Prop :=
  τ (iP p) 0 = nI n ∧ τ (iP p) 4 = (drS n h wt o0 l0 j).1 ∧ τ (iP p) 5 = nI j ∧ τ (iP p + 3) = (drS n h wt o0 l0 j).2.1 ∧ τ (iP p + 4) = (drS n h wt o0 l0 j).2.2 ∧ (∀ q, q ≠ iP p → q ≠ iP p + 3 → q ≠ iP p + 4 → τ q = σ q) ∧ ∀ i, i < j → (fun j => (nxO n h wt (drS n h wt o0 l0 j).1).isNone) i = false
theorem dw_step {n : Nat} {h wt o0 l0 : Nat → Int32} {p b j : Nat} {σ τ : Sg} (hh : h = τ (iP p + 1)) (hd : dwC n h wt o0 l0 p σ τ j) (hb : nxO n h wt (τ (iP p) 4) = some b) :
    dwC n h wt o0 l0 p σ (upS (upS (upS (upS τ (iP p + 3) j (nI b)) (iP p + 4) b (layA (upS τ (iP p + 3) j (nI b) (iP p + 4)) (upS τ (iP p + 3) j (nI b) (iP p + 1) b) n)) (iP p) 4 (upS (upS τ (iP p + 3) j (nI b)) (iP p + 4) b (layA (upS τ (iP p + 3) j (nI b) (iP p + 4)) (upS τ (iP p + 3) j (nI b) (iP p + 1) b) n) (iP p) 4 ||| bitI b)) (iP p) 5 (upS (upS (upS τ (iP p + 3) j (nI b)) (iP p + 4) b (layA (upS τ (iP p + 3) j (nI b) (iP p + 4)) (upS τ (iP p + 3) j (nI b) (iP p + 1) b) n)) (iP p) 4 (upS (upS τ (iP p + 3) j (nI b)) (iP p + 4) b (layA (upS τ (iP p + 3) j (nI b) (iP p + 4)) (upS τ (iP p + 3) j (nI b) (iP p + 1) b) n) (iP p) 4 ||| bitI b) (iP p) 5 + 1)) (j + 1) := by
  obtain ⟨d0, d1, d2, d3, d4, d5, d6⟩ := hd
  have a3 : iP p ≠ iP p + 3 := by omega
  have a4 : iP p ≠ iP p + 4 := by omega
  have hb2 : nxO n h wt (drS n h wt o0 l0 j).1 = some b := by rw [← d1]; exact hb
  have eS : drS n h wt o0 l0 (j + 1) = ((drS n h wt o0 l0 j).1 ||| bitI b, upd (drS n h wt o0 l0 j).2.1 j (nI b), upd (drS n h wt o0 l0 j).2.2 b (layA (drS n h wt o0 l0 j).2.2 (h b) n)) := by
    rw [drS, hb2]
  refine ⟨?_, ?_, ?_, ?_, ?_, fun q b1 b2 b3 => ?_, lt_s d6 (by simp [hb2])⟩
  · simp [up_get, d0]
  · rw [eS]
    simp [up_get, d1]
  · simp [up_get, d2, nI_1]
  · rw [eS]
    simp only
    rw [up_ne a3.symm, up_ne a3.symm, up_ne (by omega), up_at, d3]
  · rw [eS]
    simp only
    rw [up_ne a4.symm, up_ne a4.symm, up_at, up_ne (by omega), d4, up_ne (by omega), ← hh]
  · rw [up_ne b1, up_ne b1, up_ne b3, up_ne b2]
    exact d5 q b1 b2 b3
theorem drS_stuck {n : Nat} {h wt o0 l0 : Nat → Int32} {j : Nat} (hj : nxO n h wt (drS n h wt o0 l0 j).1 = none) : ∀ i, drS n h wt o0 l0 (j + i) = drS n h wt o0 l0 j
  | 0 => rfl
  | i + 1 => by
    have e := drS_stuck hj i
    show drS n h wt o0 l0 ((j + i) + 1) = _
    rw [drS, e, hj]
def dwI (σ : Sg) (s p n : Nat) (h wt o0 l0 : Nat → Int32) (σ1 : Sg) : Prop :=
  σ1 (iP p) 0 = nI n ∧ σ1 (iP p) 4 = (drS n h wt o0 l0 n).1 ∧ σ1 (iP p) 5 = nI (drC n h wt o0 l0) ∧ σ1 (iP p + 3) = (drS n h wt o0 l0 n).2.1 ∧ σ1 (iP p + 4) = (drS n h wt o0 l0 n).2.2 ∧ ∀ q, q ≠ iP p → q ≠ iP p + 3 → q ≠ iP p + 4 → σ1 q = σ q
theorem dw_end {n : Nat} {h wt o0 l0 : Nat → Int32} {p s : Nat} {σ τ : Sg} (hd : dwC n h wt o0 l0 p σ τ n) : dwI σ s p n h wt o0 l0 τ := by
  obtain ⟨d0, d1, d2, d3, d4, d5, d6⟩ := hd
  refine ⟨d0, d1, ?_, d3, d4, d5⟩
  rw [drC, ff_none d6]
  exact d2
theorem dw_stop {n : Nat} {h wt o0 l0 : Nat → Int32} {p s j : Nat} {σ τ : Sg} (hj : j < n) (hd : dwC n h wt o0 l0 p σ τ j) (hb : nxO n h wt (τ (iP p) 4) = none) : dwI σ s p n h wt o0 l0 τ := by
  obtain ⟨d0, d1, d2, d3, d4, d5, d6⟩ := hd
  have hb2 : nxO n h wt (drS n h wt o0 l0 j).1 = none := by rw [← d1]; exact hb
  have e := drS_stuck (o0 := o0) (l0 := l0) hb2 (n - j)
  rw [show j + (n - j) = n by omega] at e
  refine ⟨d0, by rw [e]; exact d1, ?_, by rw [e]; exact d3, by rw [e]; exact d4, d5⟩
  rw [drC, ff_hit d6 (by simp [hb2]) hj]
  exact d2
theorem dw_head {n : Nat} {h wt : Nat → Int32} {p : Nat} {σ : Sg} (hpc : σ (iP p) 0 = nI n) : dwC n h wt (σ (iP p + 3)) (fun i => if i < 16 then -5 else σ (iP p + 4) i) p σ (upS (upS (setA σ (iP p + 4) (fun i => if i < 16 then -5 else σ (iP p + 4) i)) (iP p) 4 0) (iP p) 5 0) 0 := by
  have a4 : iP p ≠ iP p + 4 := by omega
  refine ⟨?_, ?_, ?_, ?_, ?_, fun q b1 b2 b3 => ?_, fun i hi => absurd hi (by omega)⟩
  · simp [up_get, setA_ne a4, hpc]
  · simp [up_get, drS]
  · simp [up_get]
    rfl
  · rw [up_ne (by omega), up_ne (by omega), setA_ne (by omega)]
    rfl
  · rw [up_ne (by omega), up_ne (by omega), setA_at]
    rfl
  · rw [up_ne b1, up_ne b1, setA_ne b3]
theorem iL_53 {s j : Nat} (hs : s < 7) (hj : j < 16) : iL (bx s j) < 353 := by unfold iL bx; omega
theorem iH_53 {s j : Nat} (hs : s < 7) (hj : j < 16) : iH (bx s j) < 353 := by unfold iH bx; omega
theorem hd_eq {σ τ : Sg} {s : Nat} (hs : s < 7) (h : ∀ q, q < 353 → τ q = σ q) {a j : Nat} (ha : a < 16) (hj : j < 16) : hdS τ s a j = hdS σ s a j := by
  have e1 := h _ (iL_53 hs ha)
  have e2 := h _ (iH_53 hs ha)
  have e3 := h _ (iL_53 hs hj)
  have e4 := h _ (iH_53 hs hj)
  unfold hdS
  rw [e1, e2, e3, e4]
theorem orI_c {p q : Nat → Bool} {f g : Nat → Int32} : ∀ {n : Nat}, (∀ k, k < n → p k = q k) → (∀ k, k < n → f k = g k) → orI p f n = orI q g n
  | 0, _, _ => rfl
  | n + 1, h, h2 => by
    have e := orI_c (n := n) (fun k hk => h k (Nat.lt_succ_of_lt hk)) (fun k hk => h2 k (Nat.lt_succ_of_lt hk))
    show (if p n then orI p f n ||| f n else orI p f n) = (if q n then orI q g n ||| g n else orI q g n)
    rw [e, h n (Nat.lt_succ_self n), h2 n (Nat.lt_succ_self n)]
theorem hm_eq {σ τ : Sg} {s n : Nat} (hs : s < 7) (hn : n ≤ 16) (h : ∀ q, q < 353 → τ q = σ q) {a : Nat} (ha : a < 16) : hmS τ s n a = hmS σ s n a :=
  orI_c (fun j hj => hd_eq hs h ha (Nat.lt_of_lt_of_le hj hn)) (fun _ _ => rfl)
theorem wsR_congr {c c' : Nat → Int32} {n w : Nat} (hw : w < n) (h : ∀ k, k < n → c k = c' k) : ∀ m, m ≤ n → ∀ k, k < n → wsR c w m k = wsR c' w m k
  | 0, _, k, hk => h k hk
  | m + 1, hm, k, hk => by
    have e := wsR_congr hw h m (by omega)
    rw [wsR, wsR, e m (by omega)]
    by_cases q : hasB (wsR c' w m m) w = true
    · rw [if_pos q, if_pos q, e w hw]
      unfold upd
      by_cases q2 : k = m
      · simp [q2]
      · simp [q2, e k hk]
    · rw [if_neg q, if_neg q, e k hk]
theorem wsO_congr {c c' : Nat → Int32} {n : Nat} (h : ∀ k, k < n → c k = c' k) : ∀ w, w ≤ n → ∀ k, k < n → wsO c n w k = wsO c' n w k
  | 0, _, k, hk => h k hk
  | w + 1, hw, k, hk => wsR_congr (by omega) (fun k hk => wsO_congr h w (by omega) k hk) n (Nat.le_refl _) k hk
/-- what a picture holds once it has looked at a space of n boxes -/
def pcI (σ : Sg) (s p n : Nat) (σ1 : Sg) : Prop := ∃ (h o0 l0 : Nat → Int32), (∀ k, k < n → h k = hmS σ s n k) ∧ (∀ i, i < 16 → l0 i = -5) ∧ σ1 (iP p) 0 = nI n ∧ σ1 (iP p + 1) = h ∧ (∀ k, k < n → σ1 (iP p + 2) k = wsO h n n k) ∧ σ1 (iP p) 4 = (drS n h (wtS σ s) o0 l0 n).1 ∧ σ1 (iP p) 5 = nI (drC n h (wtS σ s) o0 l0) ∧ σ1 (iP p + 3) = (drS n h (wtS σ s) o0 l0 n).2.1 ∧ σ1 (iP p + 4) = (drS n h (wtS σ s) o0 l0 n).2.2 ∧ ∀ q, (q < iP p ∨ iP p + 4 < q) → σ1 q = σ q
def lkJ (σ : Sg) (s p n k : Nat) (τ : Sg) : Prop := τ (iP p) 0 = nI n ∧ (∀ j, j < k → τ (iP p + 1) j = hmS σ s n j) ∧ ∀ q, q ≠ iP p → q ≠ iP p + 1 → τ q = σ q
theorem lkJ_step {σ τ : Sg} {s p n k : Nat} (h : lkJ σ s p n k τ) : lkJ σ s p n (k + 1) (upS τ (iP p + 1) k (hmS σ s n k)) := by
  refine ⟨by rw [up_ne (by omega)]; exact h.1, fun j hj => ?_, fun q a b => by rw [up_ne b]; exact h.2.2 q a b⟩
  rw [up_get]
  by_cases e : j = k
  · subst e
    simp
  · simp [e]
    exact h.2.1 j (by omega)
theorem drS_wt {n : Nat} {h wt wt' o0 l0 : Nat → Int32} (e : ∀ k, k < n → wt k = wt' k) : ∀ j, drS n h wt o0 l0 j = drS n h wt' o0 l0 j
  | 0 => rfl
  | j + 1 => by
    rw [drS, drS, drS_wt e j, nxO_congr (fun _ _ => rfl) e]
theorem drC_wt {n : Nat} {h wt wt' o0 l0 : Nat → Int32} (e : ∀ k, k < n → wt k = wt' k) : drC n h wt o0 l0 = drC n h wt' o0 l0 := by
  unfold drC
  congr 1
  funext j
  rw [drS_wt e j, nxO_congr (fun _ _ => rfl) e]
theorem look_ok {σ τ σ1 σ2 : Sg} {s p n : Nat} (hs : s < 7) (hn : n ≤ 16) (hτ : lkJ σ s p n n τ) (h1 : σ1 = setA τ (iP p + 2) (wsO (va_cpy (τ (iP p + 1)) (τ (iP p + 2)) 0 0 16) n n))
    (h2 : dwI σ1 s p n (σ1 (iP p + 1)) (wtS σ1 s) (σ1 (iP p + 3)) (fun i => if i < 16 then -5 else σ1 (iP p + 4) i) σ2) : pcI σ s p n σ2 := by
  obtain ⟨t0, t1, t2⟩ := hτ
  obtain ⟨d0, d1, d2, d3, d4, d5⟩ := h2
  have f1 : ∀ q, q ≠ iP p → q ≠ iP p + 1 → q ≠ iP p + 2 → σ1 q = σ q := fun q a b c => by rw [h1, setA_ne c]; exact t2 q a b
  have ew : ∀ k, k < n → wtS σ1 s k = wtS σ s k := fun k hk => wt_eq hs (fun q hq => f1 q (by unfold iP; omega) (by unfold iP; omega) (by unfold iP; omega)) (by omega)
  have e1 : σ1 (iP p + 1) = τ (iP p + 1) := by rw [h1, setA_ne (by omega)]
  refine ⟨σ1 (iP p + 1), σ1 (iP p + 3), (fun i => if i < 16 then -5 else σ1 (iP p + 4) i), fun k hk => ?_, fun i hi => ?_, d0, ?_, fun k hk => ?_, ?_, ?_, ?_, ?_, fun q hq => ?_⟩
  · rw [e1]
    exact t1 k hk
  · simp [hi]
  · exact d5 _ (by omega) (by omega) (by omega)
  · rw [d5 _ (by omega) (by omega) (by omega), h1, setA_at, ← h1, e1]
    exact wsO_congr (fun k hk => by simp [va_cpy, show k < 16 by omega]) n (Nat.le_refl _) k hk
  · rw [d1, drS_wt ew]
  · rw [d2, drC_wt ew]
  · rw [d3, drS_wt ew]
  · rw [d4, drS_wt ew]
  · rw [d5 q (by omega) (by omega) (by omega)]
    exact f1 q (by omega) (by omega) (by omega)
