/-! VIEW: what a space is, as a value; the same answers in its words -/
/-- boxes, numbers so far, splits, the rule; each box's number, lows and highs -/
abbrev SpV : Type := Nat × Int32 × Int32 × Int32 × (Nat → Int32) × (Nat → Nat → Int32) × (Nat → Nat → Int32)
abbrev vN (v : SpV) : Nat := v.1
abbrev vX (v : SpV) : Int32 := v.2.1
abbrev vSp (v : SpV) : Int32 := v.2.2.1
abbrev vRu (v : SpV) : Int32 := v.2.2.2.1
abbrev vNu (v : SpV) : Nat → Int32 := v.2.2.2.2.1
abbrev vLo (v : SpV) : Nat → Nat → Int32 := v.2.2.2.2.2.1
abbrev vHi (v : SpV) : Nat → Nat → Int32 := v.2.2.2.2.2.2
def isV (σ : Sg) (s : Nat) (v : SpV) : Prop := vN v ≤ 16 ∧ σ (iS s) 1 = nI (vN v) ∧ σ (iS s) 2 = vX v ∧ σ (iS s) 3 = vSp v ∧ σ (iS s) 4 = vRu v ∧ ∀ j, j < vN v → σ (iBo (bx s j)) 0 = vNu v j ∧ ∀ d, d < 3 → σ (iL (bx s j)) d = vLo v j d ∧ σ (iH (bx s j)) d = vHi v j d
theorem isV_sp {σ σ1 : Sg} {s t : Nat} {v : SpV} (h : isV σ t v) (h1 : spC σ1 s σ t (vN v)) : isV σ1 s v := by
  obtain ⟨a, b, c, d, e, f⟩ := h
  refine ⟨a, (h1.1 1 (by omega) (by omega)).trans b, (h1.1 2 (by omega) (by omega)).trans c, (h1.1 3 (by omega) (by omega)).trans d, (h1.1 4 (by omega) (by omega)).trans e, fun j hj => ?_⟩
  have g := h1.2 j hj
  exact ⟨g.1.trans (f j hj).1, fun d hd => ⟨(g.2 d hd).1.trans ((f j hj).2 d hd).1, (g.2 d hd).2.trans ((f j hj).2 d hd).2⟩⟩
/-- a space that nothing touched -/
theorem isV_keep {σ σ1 : Sg} {s : Nat} {v : SpV} (h : isV σ s v) (h1 : σ1 (iS s) = σ (iS s)) (h2 : ∀ j, j < 16 → σ1 (iBo (bx s j)) = σ (iBo (bx s j)) ∧ σ1 (iL (bx s j)) = σ (iL (bx s j)) ∧ σ1 (iH (bx s j)) = σ (iH (bx s j))) : isV σ1 s v := by
  obtain ⟨a, b, c, d, e, f⟩ := h
  refine ⟨a, by rw [h1]; exact b, by rw [h1]; exact c, by rw [h1]; exact d, by rw [h1]; exact e, fun j hj => ?_⟩
  obtain ⟨g0, g1, g2⟩ := h2 j (by omega)
  rw [g0, g1, g2]
  exact f j hj
theorem isV_fr {σ σ1 : Sg} {s t : Nat} {v : SpV} (h : isV σ t v) (hst : s ≠ t) (hs : s < 7) (ht : t < 7) (h1 : frS s σ σ1) : isV σ1 t v := by
  refine isV_keep h (h1 _ (by unfold iS; omega) (outB_S s t hs)) (fun j hj => ?_)
  · have hB := outB_bx (s := s) hst hj
    exact ⟨h1 _ (by unfold iBo iS bx; omega) hB.1, h1 _ (by unfold iL iS bx; omega) hB.2.1, h1 _ (by unfold iH iS bx; omega) hB.2.2⟩
theorem isV_bx {σ σ1 : Sg} {s : Nat} {v : SpV} (h : isV σ s v) (hq : ∀ q, q < 336 → σ1 q = σ q) (h1 : σ1 (iS s) = σ (iS s)) (hs : s < 7) : isV σ1 s v :=
  isV_keep h h1 (fun j hj => ⟨hq _ (by unfold iBo bx; omega), hq _ (by unfold iL bx; omega), hq _ (by unfold iH bx; omega)⟩)
/-! the same functions, of any lows and highs; they look at the first n boxes and at three directions alone -/
def eqL (n : Nat) (f g : Nat → Nat → Int32) : Prop := ∀ j, j < n → ∀ d, d < 3 → f j d = g j d
theorem mtB_c {l1 h1 l2 h2 l1' h1' l2' h2' : V3} {d : Nat} (hd : d < 3) (a : ∀ d, d < 3 → l1 d = l1' d) (b : ∀ d, d < 3 → h1 d = h1' d) (c : ∀ d, d < 3 → l2 d = l2' d) (e : ∀ d, d < 3 → h2 d = h2' d) : mtB l1 h1 l2 h2 d = mtB l1' h1' l2' h2' d := by
  unfold mtB
  rw [a d hd, b d hd, c d hd, e d hd]
theorem ctBx_c {l1 h1 l2 h2 l1' h1' l2' h2' : V3} (a : ∀ d, d < 3 → l1 d = l1' d) (b : ∀ d, d < 3 → h1 d = h1' d) (c : ∀ d, d < 3 → l2 d = l2' d) (e : ∀ d, d < 3 → h2 d = h2' d) : ctBx l1 h1 l2 h2 = ctBx l1' h1' l2' h2' := by
  unfold ctBx
  rw [mtB_c (by omega) a b c e, mtB_c (d := 1) (by omega) a b c e, mtB_c (d := 2) (by omega) a b c e]
theorem md_c {l1 h1 l2 h2 l1' h1' l2' h2' : V3} {d f : Nat} (hd : d < 3) (hf : f < 3) (a : ∀ d, d < 3 → l1 d = l1' d) (b : ∀ d, d < 3 → h1 d = h1' d) (c : ∀ d, d < 3 → l2 d = l2' d) (e : ∀ d, d < 3 → h2 d = h2' d) : md l1 h1 l2 h2 d f = md l1' h1' l2' h2' d f := by
  unfold md
  rw [a d hd, b d hd, c d hd, e d hd, a f hf, b f hf, c f hf, e f hf]
theorem ovB_c {l1 h1 l2 h2 l1' h1' l2' h2' : V3} (a : ∀ d, d < 3 → l1 d = l1' d) (b : ∀ d, d < 3 → h1 d = h1' d) (c : ∀ d, d < 3 → l2 d = l2' d) (e : ∀ d, d < 3 → h2 d = h2' d) : ovB l1 h1 l2 h2 = ovB l1' h1' l2' h2' := by
  unfold ovB
  rw [md_c (d := 0) (f := 1) (by omega) (by omega) a b c e, md_c (d := 0) (f := 2) (by omega) (by omega) a b c e, md_c (d := 1) (f := 2) (by omega) (by omega) a b c e]
theorem ffi_c {p q : Nat → Bool} : ∀ {n : Nat}, (∀ k, k < n → p k = q k) → ffi p n = ffi q n
  | 0, _ => rfl
  | n + 1, h => by rw [ffi, ffi, ffi_c (fun k hk => h k (by omega)), h n (by omega)]
theorem fI_c {p q : Nat → Bool} {n : Nat} (h : ∀ k, k < n → p k = q k) : fI p n = fI q n := by
  unfold fI
  rw [ffi_c h]
theorem anyb_c {p q : Nat → Bool} : ∀ {n : Nat}, (∀ k, k < n → p k = q k) → anyb p n = anyb q n
  | 0, _ => rfl
  | n + 1, h => by rw [anyb, anyb, anyb_c (fun k hk => h k (by omega)), h n (by omega)]
theorem cntI_c {p q : Nat → Bool} : ∀ {n : Nat}, (∀ k, k < n → p k = q k) → cntI p n = cntI q n
  | 0, _ => rfl
  | n + 1, h => by rw [cntI, cntI, cntI_c (fun k hk => h k (by omega)), h n (by omega)]
theorem sumI_c {p q : Nat → Int32} : ∀ {n : Nat}, (∀ k, k < n → p k = q k) → sumI p n = sumI q n
  | 0, _ => rfl
  | n + 1, h => by rw [sumI, sumI, sumI_c (fun k hk => h k (by omega)), h n (by omega)]
theorem dhB_c {l1 h1 l2 h2 l1' h1' l2' h2' : V3} (a : ∀ d, d < 3 → l1 d = l1' d) (b : ∀ d, d < 3 → h1 d = h1' d) (c : ∀ d, d < 3 → l2 d = l2' d) (e : ∀ d, d < 3 → h2 d = h2' d) : dhB l1 h1 l2 h2 = dhB l1' h1' l2' h2' := by
  unfold dhB
  rw [ovB_c a b c e, fI_c (fun k hk => by rw [a k hk, e k hk])]
theorem beB_c {l1 h1 l2 h2 l1' h1' l2' h2' : V3} (a : ∀ d, d < 3 → l1 d = l1' d) (b : ∀ d, d < 3 → h1 d = h1' d) (c : ∀ d, d < 3 → l2 d = l2' d) (e : ∀ d, d < 3 → h2 d = h2' d) : beB l1 h1 l2 h2 = beB l1' h1' l2' h2' := by
  unfold beB
  rw [mtB_c (d := 0) (by omega) a b c e, mtB_c (d := 1) (by omega) a b c e, b 2 (by omega), c 2 (by omega)]
theorem cvB_c {l1 h1 l1' h1' : V3} {y : Int32} (a : ∀ d, d < 3 → l1 d = l1' d) (b : ∀ d, d < 3 → h1 d = h1' d) : cvB l1 h1 y = cvB l1' h1' y := by
  unfold cvB
  rw [a 1 (by omega), b 1 (by omega)]
def hdG (lo hi : Nat → Nat → Int32) (a b : Nat) : Bool := !decide (b = a) && !decide (dhB (lo a) (hi a) (lo b) (hi b) = -1)
def hmG (lo hi : Nat → Nat → Int32) (n a : Nat) : Int32 := orI (hdG lo hi a) bitI n
def szG (lo hi : Nat → Nat → Int32) (k d : Nat) : Int32 := hi k d - lo k d
def voG (lo hi : Nat → Nat → Int32) (k : Nat) : Int32 := szG lo hi k 0 * szG lo hi k 1 * szG lo hi k 2
def wtG (ru : Int32) (lo hi : Nat → Nat → Int32) (k : Nat) : Int32 := if ru = 1 then lo k 0 + lo k 1 + lo k 2 else if ru = 2 then voG lo hi k else 0
def rwG (lo hi : Nat → Nat → Int32) (k : Nat) : Int32 := ((1 : Int32) <<< (szG lo hi k 0 &&& 31) - 1) <<< (lo k 0 &&& 31)
def grG (lo hi : Nat → Nat → Int32) (u : Nat) : Nat → Int32
  | 0 => 0
  | k + 1 => if beB (lo k) (hi k) (lo u) (hi u) then (if grG lo hi u k < hi k 2 then hi k 2 else grG lo hi u k) else grG lo hi u k
def shG (lo hi : Nat → Nat → Int32) (u n y : Nat) : Int32 := orI (fun j => beB (lo u) (hi u) (lo j) (hi j) && cvB (lo j) (hi j) (nI y)) (rwG lo hi) n
section VIEWS
variable {σ : Sg} {s : Nat} {v : SpV}
theorem v_lo (h : isV σ s v) {j : Nat} (hj : j < vN v) : ∀ d, d < 3 → σ (iL (bx s j)) d = vLo v j d := fun d hd => ((h.2.2.2.2.2 j hj).2 d hd).1
theorem v_hi (h : isV σ s v) {j : Nat} (hj : j < vN v) : ∀ d, d < 3 → σ (iH (bx s j)) d = vHi v j d := fun d hd => ((h.2.2.2.2.2 j hj).2 d hd).2
theorem v_slot (h : isV σ s v) (x : Int32) : fI (fun k => decide (σ (iBo (bx s k)) 0 = x)) (vN v) = fI (fun k => decide (vNu v k = x)) (vN v) := fI_c (fun k hk => by rw [(h.2.2.2.2.2 k hk).1])
theorem v_sz (h : isV σ s v) {j d : Nat} (hj : j < vN v) (hd : d < 3) : szB σ (bx s j) d = szG (vLo v) (vHi v) j d := by
  unfold szB szG
  rw [v_lo h hj d hd, v_hi h hj d hd]
theorem v_vo (h : isV σ s v) {j : Nat} (hj : j < vN v) : voB σ (bx s j) = voG (vLo v) (vHi v) j := by
  unfold voB voG
  rw [v_sz h hj (by omega), v_sz h hj (by omega), v_sz h hj (by omega)]
theorem v_rw (h : isV σ s v) {j : Nat} (hj : j < vN v) : rwB σ (bx s j) = rwG (vLo v) (vHi v) j := by
  unfold rwB rwG
  rw [v_sz h hj (by omega), v_lo h hj 0 (by omega)]
theorem v_wt (h : isV σ s v) {j : Nat} (hj : j < vN v) : wtS σ s j = wtG (vRu v) (vLo v) (vHi v) j := by
  unfold wtS wtG
  rw [v_vo h hj, v_lo h hj 0 (by omega), v_lo h hj 1 (by omega), v_lo h hj 2 (by omega), h.2.2.2.2.1]
theorem v_vol (h : isV σ s v) : sumI (fun k => voB σ (bx s k)) (vN v) = sumI (voG (vLo v) (vHi v)) (vN v) := sumI_c (fun k hk => v_vo h hk)
theorem v_be (h : isV σ s v) {a b : Nat} (ha : a < vN v) (hb : b < vN v) : beB (σ (iL (bx s a))) (σ (iH (bx s a))) (σ (iL (bx s b))) (σ (iH (bx s b))) = beB (vLo v a) (vHi v a) (vLo v b) (vHi v b) := beB_c (v_lo h ha) (v_hi h ha) (v_lo h hb) (v_hi h hb)
theorem v_gr (h : isV σ s v) {u : Nat} (hu : u < vN v) : ∀ m, m ≤ vN v → grS σ s u m = grG (vLo v) (vHi v) u m
  | 0, _ => rfl
  | m + 1, hm => by rw [grS, grG, v_gr h hu m (by omega), v_be h (by omega) hu, v_hi h (show m < vN v by omega) 2 (by omega)]
theorem v_bel (h : isV σ s v) {u : Nat} (hu : u < vN v) : cntI (fun k => beB (σ (iL (bx s k))) (σ (iH (bx s k))) (σ (iL (bx s u))) (σ (iH (bx s u)))) (vN v) = cntI (fun k => beB (vLo v k) (vHi v k) (vLo v u) (vHi v u)) (vN v) := cntI_c (fun k hk => v_be h hk hu)
theorem v_sup (h : isV σ s v) {u : Nat} (hu : u < vN v) : cntI (fun k => beB (σ (iL (bx s k))) (σ (iH (bx s k))) (σ (iL (bx s u))) (σ (iH (bx s u))) && decide (σ (iH (bx s k)) 2 = σ (iL (bx s u)) 2)) (vN v) = cntI (fun k => beB (vLo v k) (vHi v k) (vLo v u) (vHi v u) && decide (vHi v k 2 = vLo v u 2)) (vN v) := cntI_c (fun k hk => by rw [v_be h hk hu, v_hi h hk 2 (by omega), v_lo h hu 2 (by omega)])
theorem v_shR (h : isV σ s v) {u y : Nat} (hu : u < vN v) : shR σ s u (vN v) y = shG (vLo v) (vHi v) u (vN v) y := orI_c (fun k hk => by unfold shPd; rw [v_be h hu hk, cvB_c (v_lo h hk) (v_hi h hk)]) (fun k hk => v_rw h hk)
theorem v_hd (h : isV σ s v) {a b : Nat} (ha : a < vN v) (hb : b < vN v) : hdS σ s a b = hdG (vLo v) (vHi v) a b := by
  unfold hdS hdG
  rw [dhB_c (v_lo h ha) (v_hi h ha) (v_lo h hb) (v_hi h hb)]
theorem v_hm (h : isV σ s v) {a : Nat} (ha : a < vN v) : hmS σ s (vN v) a = hmG (vLo v) (vHi v) (vN v) a := orI_c (fun k hk => v_hd h ha hk) (fun _ _ => rfl)
end VIEWS
