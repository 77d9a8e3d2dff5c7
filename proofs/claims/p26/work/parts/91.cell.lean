/-! THE LAW: its script, and the method that reads it -/
/-- the script lies in the start's heap, outside of what may change -/
def ScX (Γ : GmW) (b L : Nat) (xs : Nat → Int32) : Prop := va_X b L xs (gSt Γ) (gSt Γ).heap ∧ b < (gSt Γ).heap.size ∧ ¬ gA Γ b ∧ L ≤ 260
def WpreX (Ω : Om) (σ : Sg) (b L : Nat) (xs : Nat → Int32) (sz : Nat) (U : State) : Prop := Wpre Ω σ sz U ∧ va_X b L xs U U.heap ∧ b < sz ∧ ¬ aW Ω sz b
def CtX (l : Launch) (y : MethodName) (ws : List Cond) (rm : Room) (Ω : Om) (av : List Value) (σ : Sg) (b L : Nat) (xs : Nat → Int32) (post : Option Value → Sg → Prop) : Prop := ∀ sz, Met l y ws rm (va_Pc av (WpreX Ω σ b L xs sz)) (Qd Ω post (aW Ω sz)) 0 0 (aW Ω sz)
theorem cx_intro {l : Launch} {y : MethodName} {ws ws' : List Cond} {rm : Room} {Ω : Om} {av : List Value} {σ : Sg} {b L : Nat} {xs : Nat → Int32} {post : Option Value → Sg → Prop} {cc : ByteArray} {maxL : Nat} {rt : Option FieldType} (lv0 : List (Option Value))
    (hy : plainName y.cls = true) (hw : ws = .code y cc maxL rt :: ws') (hlv : lvZ 0 lv0 = lv_args 0 av) (hlen : (lg_sl av).length ≤ maxL) (hL : L ≤ 260)
    (body : ∀ Γ : GmW, gL Γ = l → RetOk Γ Ω post → ScX Γ b L xs → AtW (cc, y.cls, ws, maxL, rm, rt) Γ Ω σ 0 lv0 []) : CtX l y ws rm Ω av σ b L xs post := by
  intro sz
  refine Met.ofW (cc := cc) (maxL := maxL) (ret := rt) hy hw ?_
  intro p e s m args below meth c s₁ B hml hv
  obtain ⟨rfl, ⟨hsz, hP, hK, hD⟩, hX, hbl, hbA⟩ := hv
  subst hsz
  rw [lg_entry_eq]
  have hl := lv_entry av hlen
  have h := body (p, l, e, s, m, av.toArray, below, meth, c, MQ below (Qd Ω post (aW Ω s.heap.size)) av.toArray s 0 0 (aW Ω s.heap.size), (0, 0), aW Ω s.heap.size) rfl rfl ⟨hX, hbl, hbA, hL⟩
  refine h ⟨B.exec, B.bytes, hml, findClass_of_methodNamed B.named, atoms_spec B.pre, hK, hD.self, fun q hq => Or.inr hq, B.returns, B.notSynchronized, Nat.zero_le _, Nat.zero_le _⟩ s.heap [] _ hP va_S.rf ?_
  show lv_has _ _ (lvZ 0 lv0)
  rw [hlv]
  exact hl
theorem blindX {av : List Value} {Ω : Om} {σ : Sg} {b L sz : Nat} {xs : Nat → Int32} : FrameBlind (va_Pc av (WpreX Ω σ b L xs sz)) := by
  intro a U g mk q
  obtain ⟨h0, ⟨h1, h2, h3, h4⟩, h5, h6⟩ := q
  exact ⟨h0, ⟨h1, h2, va_K.moved (u := U) (U := U.calling g mk a) (Vm.Alike.refl U.vm) h3, h4⟩, va_X.moved (u := U) (U := U.calling g mk a) (Vm.Alike.refl U.vm) h5, h6⟩
section XROWS
variable {M : MI} {Γ : GmW} {Ω : Om} {σ : Sg} {pc : Nat} {lv : List (Option Value)} {st : List Value} {b L : Nat} {xs : Nat → Int32}
theorem r_sld (hs : ScX Γ b L xs) {i : Int32} (j : Nat) (hi : i = nI j) (hj : j < L) (hd : decode (mB M) pc = .ok (.iaload, 1))
    (kk : AtW M Γ Ω σ (pc + 1) lv (.int (xs j) :: st)) : AtW M Γ Ω σ pc lv (.int i :: .ref b :: st) := by
  intro G H locs ls hP hS hl
  subst hi
  have hL := hs.2.2.2
  refine va_sld G.1 G.2.1 hs.1 hs.2.1 hs.2.2.1 hS (vp_in_nI hj (by omega)) hd ?_
  rw [nI_clamp (by omega)]
  exact kk G H locs ls hP hS hl
theorem r_slen (hs : ScX Γ b L xs) (hd : decode (mB M) pc = .ok (.arraylength, 1))
    (kk : AtW M Γ Ω σ (pc + 1) lv (.int (nI L) :: st)) : AtW M Γ Ω σ pc lv (.ref b :: st) :=
  fun G H locs ls hP hS hl => va_slen G.1 G.2.1 hs.1 hs.2.1 hs.2.2.1 hS hd (kk G H locs ls hP hS hl)
theorem r_callSK {l : Launch} {y : MethodName} {ws : List Cond} {rm : Room} {index n : Nat} {g : Int32 → Sg → Prop} {As rest : List Value} (hL : gL Γ = l) (hC : ScX Γ b L xs ∧ CtX l y ws rm Ω As σ b L xs (reJ g)) (hco : CoS M index y ws rm n)
    (hn : As.length = n) (hs : st = As.reverse ++ rest) (hc : (rest.map fun v => v.category).sum ≤ 8) (hd : decode (mB M) pc = .ok (.invokestatic index, 3))
    (kk : ∀ (x : Int32) (σ1 : Sg), g x σ1 → AtW M Γ Ω σ1 (pc + 3) lv (.int x :: rest)) : AtW M Γ Ω σ pc lv st := by
  intro G H locs ls hP hS hl
  subst hL
  obtain ⟨hsc, hC⟩ := hC
  obtain ⟨cc, maxL, rt, ws', g1, g2, g3, g4, g5, g6⟩ := hco
  subst hs
  have hbH : b < H.size := Nat.lt_of_lt_of_le hsc.2.1 hS.1
  have hX : va_X b L xs (gSt Γ) H := hsc.1.kept (hS.2.1 b hsc.2.1 hsc.2.2.1)
  have hbA : ¬ aW Ω H.size b := fun q => hsc.2.2.1 (aW_sub G hS b q)
  have hrun := va_runS (rest := rest) (As := As) (p := gP Γ) (l := gL Γ) (e := gE Γ) (R := mR M) (s := gSt Γ) (m := gM Γ) (args := gAr Γ) (below := gB Γ) (meth := gMe Γ) (c := gC Γ) (H := H) (locs := locs) (cells := (gN Γ).1) (slots := (gN Γ).2) (nL := mN M) (n := n) (bytes := cc) (maxL := maxL) (ret := rt) (g := F0 (gM Γ) pc ls (As.reverse ++ rest)) ⟨G.1, G.2.1, G.2.2.1, G.2.2.2.1, G.2.2.2.2.1⟩ (hC H.size) (va_cwS n G.2.2.2.2.1 g1 g2 g5 g6 g3 g4)
    ⟨blindX, fun U hU hW => ⟨rfl, ⟨by rw [hU], by rw [hU]; exact hP, va_K.moved hW.alike G.2.2.2.2.2.1, G.2.2.2.2.2.2.1.weaken (fun _ _ _ _ => trivial)⟩, by rw [hU]; exact va_X.moved hW.alike hX, hbH, hbA⟩⟩ rfl hn hl.1 rfl (lv_room hc) hd ⟨G.2.2.2.2.2.2.2.2.2.2.1, G.2.2.2.2.2.2.2.2.2.2.2⟩
  refine va_callC hrun hS (fun q _ h => aW_sub G hS q h) (aW_sub G hS) (fun rv σ' H1 locs1 h1 h2 h3 => ?_)
  obtain ⟨x, rfl, h⟩ := h1
  exact kk x σ' h G H1 locs1 ls h2 h3 hl
end XROWS
theorem ctL_cell (l : Launch) (Ω : Om) (σ : Sg) (b L : Nat) (xs : Nat → Int32) (hL : L ≤ 260) (k : Nat) (hk : k < 100) : CtX l yL_cell wsL_cell (rmD 0) Ω [.ref b, .int (nI k)] σ b L xs (reJ (fun _ σ1 => σ1 = σ)) := by
  refine cx_intro [some (.ref b), some (.int (nI k))] (by decide) rfl rfl (Nat.le_of_ble_eq_true rfl) hL (fun Γ hG hQ hs => ?_)
  show AtW mL_cell Γ Ω σ 0 [some (.ref b), some (.int (nI k))] []
  refine r_iload_n dL_cell_0 rfl ?_
  refine r_aload_n dL_cell_1 rfl ?_
  refine r_slen hs dL_cell_2 ?_
  refine r_icmp_ge 12 dL_cell_3 (by decide) (fun _ => ?_) (fun c => ?_)
  · refine r_ldc 1000000007 dL_cell_12 (by decide +kernel) ?_
    refine r_iload_n dL_cell_14 rfl ?_
    refine r_iconst 1 dL_cell_15 (by decide) ?_
    refine r_iadd dL_cell_16 ?_
    refine r_imul dL_cell_17 ?_
    exact r_iret hQ rfl dL_cell_18 (reJ_of rfl)
  · have hkL : k < L := (nI_ltI (a := k) (b := L) (by omega) (by omega)).mp (Int32.not_le.mp c)
    refine r_aload_n dL_cell_6 rfl ?_
    refine r_iload_n dL_cell_7 rfl ?_
    refine r_sld hs k rfl hkL dL_cell_8 ?_
    refine r_goto 18 dL_cell_9 (by decide) ?_
    exact r_iret hQ rfl dL_cell_18 (reJ_of rfl)
