/-! CONSTRUCTORS: a judgement over a list of cells that grows -/
/-- what the tables say: classes, array classes, links to private constructors, arrays of objects -/
def KnT (Ω : Om) (U : State) : Prop := va_K Ω.1 vwCl (tysO Ω) U ∧ va_Nw (.methodLinkNest RX3 17 yX0_init RX5) U ∧ va_Nw (.methodLinkNest RX5 31 yX4_init RX5) U ∧ va_Nw (.methodLinkNest RX5 38 yX2_init RX5) U ∧ va_Nw (.methodLinkNest RX5 48 yX0_init RX5) U ∧ va_AO RX0 U ∧ va_AO RX3 U
theorem kt_warm {Ω : Om} {s U : State} (hW : s.WarmedH U.vm) (h : KnT Ω s) : KnT Ω U :=
  ⟨va_K.moved hW.alike h.1, va_Nw.warmM hW h.2.1, va_Nw.warmM hW h.2.2.1, va_Nw.warmM hW h.2.2.2.1, va_Nw.warmM hW h.2.2.2.2.1, va_AO.moved hW.alike h.2.2.2.2.2.1, va_AO.moved hW.alike h.2.2.2.2.2.2⟩
theorem kt_same {Ω : Om} {u U : State} (e : u.vm = U.vm) (h : KnT Ω u) : KnT Ω U := by
  have ha : u.vm.Alike U.vm := by rw [e]; exact Vm.Alike.refl _
  exact ⟨va_K.moved ha h.1, va_Nw.same rfl e h.2.1, va_Nw.same rfl e h.2.2.1, va_Nw.same rfl e h.2.2.2.1, va_Nw.same rfl e h.2.2.2.2.1, va_AO.moved ha h.2.2.2.2.2.1, va_AO.moved ha h.2.2.2.2.2.2⟩
def GdN (M : MI) (Γ : GmW) (Ω : Om) : Prop :=
  (gP Γ).tables.exec = Jvm.exec ∧ (gC Γ).code = mB M ∧ (gC Γ).maxLocals = mN M ∧ (gSt Γ).vm.findClass (mO M) = some (gM Γ).cls ∧ (∀ w ∈ mW M, w.before (gAr Γ) (gSt Γ) = true) ∧ KnT Ω (gSt Γ) ∧ (∀ q, (gSt Γ).heap.size ≤ q → gA Γ q) ∧ (gMe Γ).sig.returnType = mT M ∧ (gMe Γ).locks = false
def NwW (M : MI) (Γ : GmW) (Ω : Om) (ws : va_W) (c n : Nat) (pc : Nat) (lv : List (Option Value)) (st : List Value) : Prop :=
  GdN M Γ Ω → ∀ (H : Heap) (locs : List Loc) (ls : Array Slot), va_P Ω.1 vwCl ws H → va_D (gA Γ) ws → va_S (gA Γ) (gSt Γ).heap H locs → lvH ls (mN M) lv → W (gP Γ) (gL Γ) (gE Γ) (mR M) (gSt Γ) (gM Γ) (gAr Γ) (gB Γ) (gMe Γ) (gC Γ) H locs c n (gQ Γ) (F0 (gM Γ) pc ls st)
theorem kn_ci {Ω : Om} {cA : ClassId} {s : State} (h : va_K Ω.1 vwCl (tysO Ω ++ [(cA, .int)]) s) : cA = Ω.2.1 0 := by
  have h1 : s.vm.findClass ("[" ++ FieldType.int.toString) = some cA := (h.2 4 (cA, .int) rfl).2
  have h2 : s.vm.findClass ("[" ++ FieldType.int.toString) = some (Ω.2.1 0) := (h.2 0 (Ω.2.1 0, .int) rfl).2
  exact Option.some.inj (h1.symm.trans h2)
theorem kn_cc {Ω : Om} {cA : ClassId} {s : State} (h : va_K Ω.1 vwCl (tysO Ω ++ [(cA, .char)]) s) : cA = Ω.2.1 3 := by
  have h1 : s.vm.findClass ("[" ++ FieldType.char.toString) = some cA := (h.2 4 (cA, .char) rfl).2
  have h2 : s.vm.findClass ("[" ++ FieldType.char.toString) = some (Ω.2.1 3) := (h.2 3 (Ω.2.1 3, .char) rfl).2
  exact Option.some.inj (h1.symm.trans h2)
theorem kn_cB {Ω : Om} {cA : ClassId} {s : State} (h : va_K Ω.1 vwCl (tysO Ω ++ [(cA, .object RX0)]) s) : cA = Ω.2.1 1 := by
  obtain ⟨_, _, _, _, _, h1⟩ := (h.2 4 (cA, .object RX0) rfl).2
  obtain ⟨_, _, _, _, _, h2⟩ := (h.2 1 (Ω.2.1 1, .object RX0) rfl).2
  exact Option.some.inj (h1.symm.trans h2)
theorem kn_cS {Ω : Om} {cA : ClassId} {s : State} (h : va_K Ω.1 vwCl (tysO Ω ++ [(cA, .object RX3)]) s) : cA = Ω.2.1 2 := by
  obtain ⟨_, _, _, _, _, h1⟩ := (h.2 4 (cA, .object RX3) rfl).2
  obtain ⟨_, _, _, _, _, h2⟩ := (h.2 2 (Ω.2.1 2, .object RX3) rfl).2
  exact Option.some.inj (h1.symm.trans h2)
section NROWS
variable {M : MI} {Γ : GmW} {Ω : Om} {ws : va_W} {c n pc : Nat} {lv : List (Option Value)} {st : List Value}
theorem n_iconst {i : Int} (v : Int32) (hd : decode (mB M) pc = .ok (.iconst i, 1)) (hv : Int32.ofInt i = v)
    (k : NwW M Γ Ω ws c n (pc + 1) lv (.int v :: st)) : NwW M Γ Ω ws c n pc lv st :=
  fun G H locs ls hP hD hS hl => lv_iconst G.1 G.2.1 hd hv (k G H locs ls hP hD hS hl)
theorem n_bipush {i : Int} (v : Int32) (hd : decode (mB M) pc = .ok (.bipush i, 2)) (hv : (Int8.ofInt i).toInt32 = v)
    (k : NwW M Γ Ω ws c n (pc + 2) lv (.int v :: st)) : NwW M Γ Ω ws c n pc lv st :=
  fun G H locs ls hP hD hS hl => lv_bipush G.1 G.2.1 hd hv (k G H locs ls hP hD hS hl)
theorem n_sipush {i : Int} (v : Int32) (hd : decode (mB M) pc = .ok (.sipush i, 3)) (hv : (Int16.ofInt i).toInt32 = v)
    (k : NwW M Γ Ω ws c n (pc + 3) lv (.int v :: st)) : NwW M Γ Ω ws c n pc lv st :=
  fun G H locs ls hP hD hS hl => lv_sipush G.1 G.2.1 hd hv (k G H locs ls hP hD hS hl)
theorem n_iload_n {i : Fin 4} {x : Int32} (hd : decode (mB M) pc = .ok (.iload_n i, 1)) (hi : lvG lv (i : Nat) = some (.int x))
    (k : NwW M Γ Ω ws c n (pc + 1) lv (.int x :: st)) : NwW M Γ Ω ws c n pc lv st :=
  fun G H locs ls hP hD hS hl => lv_iload_n G.1 G.2.1 hd rfl (lvH_at hl hi) (k G H locs ls hP hD hS hl)
theorem n_aload_n {i : Fin 4} {x : Nat} (hd : decode (mB M) pc = .ok (.aload_n i, 1)) (hi : lvG lv (i : Nat) = some (.ref x))
    (k : NwW M Γ Ω ws c n (pc + 1) lv (.ref x :: st)) : NwW M Γ Ω ws c n pc lv st :=
  fun G H locs ls hP hD hS hl => lv_aload_n G.1 G.2.1 hd rfl (lvH_at hl hi) (k G H locs ls hP hD hS hl)
theorem n_istore_n {i : Fin 4} {x : Int32} (hd : decode (mB M) pc = .ok (.istore_n i, 1)) (hn : (i : Nat) < mN M) (hk : lvK lv (i : Nat) = true)
    (k : NwW M Γ Ω ws c n (pc + 1) (lvS lv (i : Nat) (some (.int x))) st) : NwW M Γ Ω ws c n pc lv (.int x :: st) :=
  fun G H locs ls hP hD hS hl => lv_istore_n G.1 G.2.1 hd rfl hl hn rfl (fun ls' hl' => k G H locs ls' hP hD hS (lvH_set hl' hk))
theorem n_astore_n {i : Fin 4} {x : Nat} (hd : decode (mB M) pc = .ok (.astore_n i, 1)) (hn : (i : Nat) < mN M) (hk : lvK lv (i : Nat) = true)
    (k : NwW M Γ Ω ws c n (pc + 1) (lvS lv (i : Nat) (some (.ref x))) st) : NwW M Γ Ω ws c n pc lv (.ref x :: st) :=
  fun G H locs ls hP hD hS hl => lv_astore_n G.1 G.2.1 hd rfl hl hn rfl (fun ls' hl' => k G H locs ls' hP hD hS (lvH_set hl' hk))
theorem n_iinc {i : Nat} {m : Int} {x : Int32} (v : Int32) (hd : decode (mB M) pc = .ok (.iinc i m, 3)) (hi : lvG lv i = some (.int x)) (hv : x + Int32.ofInt m = v) (hn : i < mN M) (hk : lvK lv i = true)
    (k : NwW M Γ Ω ws c n (pc + 3) (lvS lv i (some (.int v))) st) : NwW M Γ Ω ws c n pc lv st := by
  intro G H locs ls hP hD hS hl
  have hm : (i, Value.int x) ∈ lvZ 0 lv := (lvZ_mem lv 0 (i, .int x)).mpr ⟨i, hi, by omega⟩
  obtain ⟨j, hj⟩ := List.getElem?_of_mem hm
  exact lv_iinc G.1 G.2.1 hd hl hj hv hn rfl (fun ls' hl' => k G H locs ls' hP hD hS (lvH_set hl' hk))
theorem n_goto {off : Int} (tgt : Nat) (hd : decode (mB M) pc = .ok (.goto off, 3)) (ht : (pc : Int) + off = (tgt : Int)) (k : NwW M Γ Ω ws c n tgt lv st) : NwW M Γ Ω ws c n pc lv st :=
  fun G H locs ls hP hD hS hl => lv_goto G.1 G.2.1 hd ht (k G H locs ls hP hD hS hl)
theorem n_icmp_ge {x y : Int32} {off : Int} (tgt : Nat) (hd : decode (mB M) pc = .ok (.if_icmp .ge off, 3)) (ht : (pc : Int) + off = (tgt : Int))
    (kt : y ≤ x → NwW M Γ Ω ws c n tgt lv st) (kf : ¬ y ≤ x → NwW M Γ Ω ws c n (pc + 3) lv st) : NwW M Γ Ω ws c n pc lv (.int y :: .int x :: st) :=
  fun G H locs ls hP hD hS hl => lv_icmp_ge G.1 G.2.1 hd ht (fun q => kt q G H locs ls hP hD hS hl) (fun q => kf q G H locs ls hP hD hS hl)
theorem n_obj {index a : Nat} (h1 : Cond.methodLink (mO M) index objectInit ∈ mW M) (h2 : Cond.instanceMethod objectInit ∈ mW M) (h3 : Cond.code objectInit ⟨#[0xb1]⟩ 1 none ∈ mW M) (h4 : 1 ≤ (mR M).frames) (h5 : 12 ≤ (mR M).locals) (hd : decode (mB M) pc = .ok (.invokespecial index, 3))
    (k : NwW M Γ Ω ws c n (pc + 3) lv []) : NwW M Γ Ω ws c n pc lv [.ref a] :=
  fun G H locs ls hP hD hS hl => W.objInit G.1 G.2.1 G.2.2.2.1 (G.2.2.2.2.1 _ h1) (G.2.2.2.2.1 _ h2) (G.2.2.2.2.1 _ h3) rfl (by rw [G.2.2.1]; exact hl.1) rfl hd h4 h5 (W.eq (g2 := F0 (gM Γ) (pc + 3) ls []) rfl (k G H locs ls hP hD hS hl))
theorem n_newi {N : Nat} {z : Int32} (hz : z = nI N) (hN : N < 500) (h1 : Cond.arrayClass .int ∈ mW M) (hc : c + 1 ≤ (mR M).cells) (hn : n + N ≤ (mR M).slots) (hd : decode (mB M) pc = .ok (.newarray .int, 2))
    (k : ∀ q : Nat, NwW M Γ Ω (ws ++ [(q, .inl (Ω.2.1 0, N, .inl (fun _ => 0)))]) (c + 1) (n + N) (pc + 2) lv (.ref q :: st)) : NwW M Γ Ω ws c n pc lv (.int z :: st) := by
  intro G H locs ls hP hD hS hl
  subst hz
  refine va_newa (atype := .int) (ty := .int) (a0 := (N, .inl (fun _ => 0))) G.1 G.2.1 (G.2.2.2.2.1 _ h1) rfl G.2.2.2.2.2.1.1 hP hD hS G.2.2.2.2.2.2.1 (fun _ => rfl) (nI_pos (by omega)) (nI_clamp (by omega)) (by
    show N * 4 ≤ 536870912
    omega) hc hn hd ?_
  intro q cA H1 hK1 hP1 hD1 hS1
  have := kn_ci hK1
  subst this
  exact k q G H1 locs ls hP1 hD1 hS1 hl
theorem n_newc {N : Nat} {z : Int32} (hz : z = nI N) (hN : N < 500) (h1 : Cond.arrayClass .char ∈ mW M) (hc : c + 1 ≤ (mR M).cells) (hn : n + N ≤ (mR M).slots) (hd : decode (mB M) pc = .ok (.newarray .char, 2))
    (k : ∀ q : Nat, NwW M Γ Ω (ws ++ [(q, .inl (Ω.2.1 3, N, .inl (fun _ => 0)))]) (c + 1) (n + N) (pc + 2) lv (.ref q :: st)) : NwW M Γ Ω ws c n pc lv (.int z :: st) := by
  intro G H locs ls hP hD hS hl
  subst hz
  refine va_newa (atype := .char) (ty := .char) (a0 := (N, .inl (fun _ => 0))) G.1 G.2.1 (G.2.2.2.2.1 _ h1) rfl G.2.2.2.2.2.1.1 hP hD hS G.2.2.2.2.2.2.1 (fun _ => rfl) (nI_pos (by omega)) (nI_clamp (by omega)) (by
    show N * 2 ≤ 536870912
    omega) hc hn hd ?_
  intro q cA H1 hK1 hP1 hD1 hS1
  have := kn_cc hK1
  subst this
  exact k q G H1 locs ls hP1 hD1 hS1 hl
theorem n_newB {N index : Nat} {z : Int32} (hz : z = nI N) (hN : N < 500) (h1 : Cond.classLink (mO M) index RX0 ∈ mW M) (hc : c + 1 ≤ (mR M).cells) (hn : n + N ≤ (mR M).slots) (hd : decode (mB M) pc = .ok (.anewarray index, 3))
    (k : ∀ q : Nat, NwW M Γ Ω (ws ++ [(q, .inl (Ω.2.1 1, N, .inr (.inr (.inr (.inr (fun _ => none))))))]) (c + 1) (n + N) (pc + 3) lv (.ref q :: st)) : NwW M Γ Ω ws c n pc lv (.int z :: st) := by
  intro G H locs ls hP hD hS hl
  subst hz
  refine va_newq G.1 G.2.1 G.2.2.2.1 (G.2.2.2.2.1 _ h1) G.2.2.2.2.2.1.2.2.2.2.2.1 G.2.2.2.2.2.1.1 hP hD hS G.2.2.2.2.2.2.1 (nI_pos (by omega)) (nI_clamp (by omega)) (by omega) hc hn hd ?_
  intro q cA H1 hK1 hP1 hD1 hS1
  have := kn_cB hK1
  subst this
  exact k q G H1 locs ls hP1 hD1 hS1 hl
theorem n_newS {N index : Nat} {z : Int32} (hz : z = nI N) (hN : N < 500) (h1 : Cond.classLink (mO M) index RX3 ∈ mW M) (hc : c + 1 ≤ (mR M).cells) (hn : n + N ≤ (mR M).slots) (hd : decode (mB M) pc = .ok (.anewarray index, 3))
    (k : ∀ q : Nat, NwW M Γ Ω (ws ++ [(q, .inl (Ω.2.1 2, N, .inr (.inr (.inr (.inr (fun _ => none))))))]) (c + 1) (n + N) (pc + 3) lv (.ref q :: st)) : NwW M Γ Ω ws c n pc lv (.int z :: st) := by
  intro G H locs ls hP hD hS hl
  subst hz
  refine va_newq G.1 G.2.1 G.2.2.2.1 (G.2.2.2.2.1 _ h1) G.2.2.2.2.2.1.2.2.2.2.2.2 G.2.2.2.2.2.1.1 hP hD hS G.2.2.2.2.2.2.1 (nI_pos (by omega)) (nI_clamp (by omega)) (by omega) hc hn hd ?_
  intro q cA H1 hK1 hP1 hD1 hS1
  have := kn_cS hK1
  subst this
  exact k q G H1 locs ls hP1 hD1 hS1 hl
theorem n_putF {C : String} {T : u_T} {N ci index a : Nat} (q0 : Nat) {fs : List Value} (he : ws[q0]? = some (a, .inr (ci, fs))) (hc : vwCl[ci]? = some (C, T, N)) (k : Nat) (hk : k < N) (hin : ∀ w ∈ u_ws C T N, w ∈ mW M) (ty0 : Nat → FieldType) (hty : ∀ k, k < N → parseFieldDescriptor (T k).2.2.1 = some (ty0 k)) (hnm : ∀ a, a < N → ∀ b, b < N → a ≠ b → (T a).2.1 ≠ (T b).2.1) (hlink : Cond.fieldLink (mO M) index (T k).1 (T k).2.1 (T k).2.2.1 ∈ mW M) (hfin : (T k).2.2.2 = true) (hdecl : (T k).1 = mO M) (hini : (gMe Γ).name = "<init>") {ty : FieldType} {v : Value} (hpd : parseFieldDescriptor (T k).2.2.1 = some ty) (hn : narrow ty v = v) (hfit : fits ty v = true) (hl0 : k < fs.length) (hd : decode (mB M) pc = .ok (.putfield index, 3))
    (kk : NwW M Γ Ω (ws.set q0 (a, .inr (ci, fs.set k v))) c n (pc + 3) lv st) : NwW M Γ Ω ws c n pc lv (v :: .ref a :: st) :=
  fun G H locs ls hP hD hS hl => va_putF G.1 G.2.1 G.2.2.2.2.1 hin ty0 hty hnm G.2.2.2.1 G.2.2.2.2.2.1.1 hP hD hS q0 he hc k hk (G.2.2.2.2.1 _ hlink) (fun _ h9 => h9) hfin hini hdecl hpd hn hfit hl0 hd
    (fun H1 locs1 hP1 hD1 hS1 => kk G H1 locs1 ls hP1 hD1 hS1 hl)
theorem n_put {C : String} {T : u_T} {N ci index a : Nat} (q0 : Nat) {fs : List Value} (he : ws[q0]? = some (a, .inr (ci, fs))) (hc : vwCl[ci]? = some (C, T, N)) (k : Nat) (hk : k < N) (hin : ∀ w ∈ u_ws C T N, w ∈ mW M) (ty0 : Nat → FieldType) (hty : ∀ k, k < N → parseFieldDescriptor (T k).2.2.1 = some (ty0 k)) (hnm : ∀ a, a < N → ∀ b, b < N → a ≠ b → (T a).2.1 ≠ (T b).2.1) (hlink : Cond.fieldLink (mO M) index (T k).1 (T k).2.1 (T k).2.2.1 ∈ mW M) (hfin : (T k).2.2.2 = false) {ty : FieldType} {v : Value} (hpd : parseFieldDescriptor (T k).2.2.1 = some ty) (hn : narrow ty v = v) (hfit : fits ty v = true) (hl0 : k < fs.length) (hd : decode (mB M) pc = .ok (.putfield index, 3))
    (kk : NwW M Γ Ω (ws.set q0 (a, .inr (ci, fs.set k v))) c n (pc + 3) lv st) : NwW M Γ Ω ws c n pc lv (v :: .ref a :: st) :=
  fun G H locs ls hP hD hS hl => va_put G.1 G.2.1 G.2.2.2.2.1 hin ty0 hty hnm G.2.2.2.1 G.2.2.2.2.2.1.1 hP hD hS q0 he hc k hk (G.2.2.2.2.1 _ hlink) (fun _ h9 => h9) hfin hpd hn hfit hl0 hd
    (fun H1 locs1 hP1 hD1 hS1 => kk G H1 locs1 ls hP1 hD1 hS1 hl)
theorem n_get {C : String} {T : u_T} {N ci index a : Nat} (q0 : Nat) {fs : List Value} (he : ws[q0]? = some (a, .inr (ci, fs))) (hc : vwCl[ci]? = some (C, T, N)) (k : Nat) (hk : k < N) (hin : ∀ w ∈ u_ws C T N, w ∈ mW M) (hlink : Cond.fieldLink (mO M) index (T k).1 (T k).2.1 (T k).2.2.1 ∈ mW M) {v : Value} (hv : fs[k]? = some v) (hd : decode (mB M) pc = .ok (.getfield index, 3))
    (kk : NwW M Γ Ω ws c n (pc + 3) lv (v :: st)) : NwW M Γ Ω ws c n pc lv (.ref a :: st) :=
  fun G H locs ls hP hD hS hl => va_get G.1 G.2.1 G.2.2.2.2.1 hin G.2.2.2.1 G.2.2.2.2.2.1.1 hP q0 he hc k hk (G.2.2.2.2.1 _ hlink) (fun _ h9 => h9) hv hd (kk G H locs ls hP hD hS hl)
/-- a reference goes into a row of them -/
theorem n_aast {a v N ci t0 : Nat} {cA : ClassId} {r : vw_C} {vs : List Value} {f : Nat → Option Nat} (q0 qk : Nat) (ha : ws[q0]? = some (a, .inl (cA, N, .inr (.inr (.inr (.inr f)))))) (ht : (tysO Ω)[t0]? = some (cA, .object r.1)) (hv : ws[qk]? = some (v, .inr (ci, vs))) (hc : vwCl[ci]? = some r) {i : Int32} (j : Nat) (hi : i = nI j) (hj : j < N) (hN : N < 500) (hd : decode (mB M) pc = .ok (.aastore, 1))
    (kk : NwW M Γ Ω (ws.set q0 (a, .inl (cA, N, .inr (.inr (.inr (.inr (va_up f j (some v)))))))) c n (pc + 1) lv st) : NwW M Γ Ω ws c n pc lv (.ref v :: .int i :: .ref a :: st) := by
  intro G H locs ls hP hD hS hl
  subst hi
  refine va_astq G.1 G.2.1 G.2.2.2.2.2.1.1 hP hD hS q0 t0 qk ci ha ht hv hc (vp_in_nI hj (by omega)) hd ?_
  rw [nI_clamp (by omega)]
  exact fun H1 locs1 hP1 hD1 hS1 => kk G H1 locs1 ls hP1 hD1 hS1 hl
theorem n_vret {post : va_W → Prop} {mc ms : Nat} (hQ : gQ Γ = MQ (gB Γ) (va_Qv post (fun w t => va_P Ω.1 vwCl w t.heap ∧ va_D (gA Γ) w) (gA Γ)) (gAr Γ) (gSt Γ) mc ms (gA Γ)) (hT : mT M = none) (hc : c ≤ mc) (hn : n ≤ ms) (hd : decode (mB M) pc = .ok (.return_, 1)) (hp : post ws) : NwW M Γ Ω ws c n pc lv [] := by
  intro G H locs ls hP hD hS hl
  rw [hQ]
  refine W.widen hc hn ?_
  exact W.vret G.1 G.2.1 (by rw [← hT]; exact G.2.2.2.2.2.2.2.1) (fun t ht _ => ⟨⟨ws, rfl, hp, by rw [ht]; exact hP, hD⟩, hS.F ht⟩) hS.2.2 hd G.2.2.2.2.2.2.2.2
end NROWS
/-! contracts of constructors -/
def Ipre (Ω : Om) (w0 : va_W) (sz : Nat) (U : State) : Prop := U.heap.size = sz ∧ va_P Ω.1 vwCl w0 U.heap ∧ KnT Ω U ∧ va_D (fun _ => True) w0
/-- from the cells w0 (the object itself, as it was made) it comes to cells w with 'post w' -/
def CiW (l : Launch) (y : MethodName) (ws : List Cond) (rm : Room) (Ω : Om) (h0 : Nat) (w0 : va_W) (mc ms : Nat) (post : va_W → Prop) : Prop := ∀ sz, Met l y ws rm (va_Pc [.ref h0] (Ipre Ω w0 sz)) (va_Qv post (fun w t => va_P Ω.1 vwCl w t.heap ∧ va_D (va_A w0 sz) w) (va_A w0 sz)) mc ms (va_A w0 sz)
theorem ci_intro {l : Launch} {y : MethodName} {ws ws' : List Cond} {rm : Room} {Ω : Om} {h0 : Nat} {w0 : va_W} {mc ms : Nat} {post : va_W → Prop} {cc : ByteArray} {maxL : Nat} (lv0 : List (Option Value))
    (hy : plainName y.cls = true) (hy2 : y.name = "<init>") (hw : ws = .code y cc maxL none :: ws') (hlv : lvZ 0 lv0 = lv_args 0 [.ref h0]) (hlen : 1 ≤ maxL)
    (body : ∀ Γ : GmW, gL Γ = l → (gMe Γ).name = "<init>" → gQ Γ = MQ (gB Γ) (va_Qv post (fun w t => va_P Ω.1 vwCl w t.heap ∧ va_D (gA Γ) w) (gA Γ)) (gAr Γ) (gSt Γ) mc ms (gA Γ) → NwW (cc, y.cls, ws, maxL, rm, none) Γ Ω w0 0 0 0 lv0 []) : CiW l y ws rm Ω h0 w0 mc ms post := by
  intro sz
  refine Met.ofW (cc := cc) (maxL := maxL) (ret := none) hy hw ?_
  intro p e s m args below meth c s₁ B hml hv
  obtain ⟨rfl, hsz, hP, hK, hD⟩ := hv
  subst hsz
  rw [lg_entry_eq]
  have hl := lv_entry [.ref h0] (n := maxL) hlen
  have h := body (p, l, e, s, m, [Value.ref h0].toArray, below, meth, c, MQ below (va_Qv post (fun w t => va_P Ω.1 vwCl w t.heap ∧ va_D (va_A w0 s.heap.size) w) (va_A w0 s.heap.size)) [Value.ref h0].toArray s mc ms (va_A w0 s.heap.size), (0, 0), va_A w0 s.heap.size) rfl (by
    rw [← hy2]
    exact (name_of_methodNamed B.named B.method).1) rfl
  refine h ⟨B.exec, B.bytes, hml, findClass_of_methodNamed B.named, atoms_spec B.pre, hK, fun q hq => Or.inr hq, B.returns, B.notSynchronized⟩ s.heap [] _ hP hD.self va_S.rf ?_
  show lv_has _ _ (lvZ 0 lv0)
  rw [hlv]
  exact hl
theorem va_nd_range : ∀ k, va_nd (List.range k) = true := by
  have key : ∀ (l : List Nat), l.Nodup → va_nd l = true := fun l => by
    induction l with
    | nil => intro _; rfl
    | cons a l ih =>
      intro h
      rw [List.nodup_cons] at h
      simp only [va_nd, Bool.and_eq_true, decide_eq_true_eq]
      exact ⟨h.1, ih h.2⟩
  exact fun k => key _ List.nodup_range
theorem ws_old (ws : va_W) (x : Nat × va_E) : (List.range ws.length).map (fun i => (ws ++ [x])[i]?) = ws.map some := by
  refine List.ext_getElem? fun j => ?_
  rw [List.getElem?_map, List.getElem?_map]
  by_cases h : j < ws.length
  · rw [List.getElem?_range h]
    show some ((ws ++ [x])[j]?) = _
    rw [List.getElem?_append_left h, List.getElem?_eq_getElem h]
    rfl
  · rw [List.getElem?_eq_none (by simpa using h), List.getElem?_eq_none (by simpa using h)]
    rfl
theorem ws_new (ws : va_W) (x : Nat × va_E) : ([ws.length] : List Nat).map (fun i => (ws ++ [x])[i]?) = [x].map some := by
  simp
theorem blindI {Ω : Om} {w0 : va_W} {sz h0 : Nat} : FrameBlind (va_Pc [.ref h0] (Ipre Ω w0 sz)) := by
  intro a U g mk q
  obtain ⟨h0, h1, h2, h3, h4⟩ := q
  exact ⟨h0, h1, h2, kt_same (u := U) (U := U.calling g mk a) rfl h3, h4⟩
section NCALLS
variable {M : MI} {Γ : GmW} {Ω : Om} {ws : va_W} {c n pc : Nat} {lv : List (Option Value)} {st : List Value}
/-- behind a constructor's run: the old cells, and what the constructor left -/
theorem n_behind {q : Nat} {e0 : va_E} {mc ms : Nat} {post : va_W → Prop} {H : Heap} {locs : List Loc} {ls : Array Slot} {st0 : List Value} {pc1 c1 n1 : Nat} {a : Array Value} (G : GdN M Γ Ω) (hP : va_P Ω.1 vwCl (ws ++ [(q, e0)]) H) (hD : va_D (gA Γ) (ws ++ [(q, e0)])) (hS : va_S (gA Γ) (gSt Γ).heap H locs) (hl : lvH ls (mN M) lv)
    (hr : va_Run (gP Γ) (gL Γ) (gE Γ) (mR M) (gSt Γ) (gM Γ) (gAr Γ) (gB Γ) (gMe Γ) (gC Γ) H locs c1 n1 mc ms (F0 (gM Γ) pc1 ls st0) (.ref q :: st) (va_Qv post (fun w t => va_P Ω.1 vwCl w t.heap ∧ va_D (va_A [(q, e0)] H.size) w) (va_A [(q, e0)] H.size) a) (va_A [(q, e0)] H.size))
    (kk : ∀ w, post w → NwW M Γ Ω (ws ++ w) (c1 + mc) (n1 + ms) (pc1 + 3) lv (.ref q :: st)) : W (gP Γ) (gL Γ) (gE Γ) (mR M) (gSt Γ) (gM Γ) (gAr Γ) (gB Γ) (gMe Γ) (gC Γ) H locs c1 n1 (gQ Γ) (F0 (gM Γ) pc1 ls st0) := by
  have hF := va_free (wc := [(q, e0)]) hD hS G.2.2.2.2.2.2.1 [ws.length] (ws_new ws (q, e0))
  refine va_callv hr hS (fun q _ h => hF q h) hF (fun u t H1 locs1 ht hvm hw hB hz1 hk1 hS1 => ?_)
  obtain ⟨hP1, hD1⟩ := hB
  rw [ht] at hP1
  obtain ⟨hP2, hD2⟩ := va_join (wr := ws) (w1 := u) hP hD [ws.length] (List.range ws.length) (ws_new ws (q, e0)) (ws_old ws (q, e0)) (va_nd_range _) (fun i hi hi2 => by
    rw [List.mem_range] at hi
    rw [List.mem_singleton] at hi2
    omega) hk1 hF hP1 hD1
  exact kk u hw G H1 locs1 ls hP2 hD2 hS1 hl
/-- what 'new', 'dup' and a constructor's call need of the tables and the room -/
def NwT (M : MI) (ix : Nat) (C : String) (T : u_T) (N ci : Nat) (ty : Nat → FieldType) (fs : List Value) : Prop :=
  (∀ w ∈ u_ws C T N, w ∈ mW M) ∧ (∀ k, k < N → parseFieldDescriptor (T k).2.2.1 = some (ty k)) ∧ Cond.classLink (mO M) ix C ∈ mW M ∧ Cond.instantiable C N ∈ mW M ∧ Cond.initialized C ∈ mW M ∧ vwCl[ci]? = some (C, T, N) ∧ ∀ j, j < N → defaultValue (ty j) = vp_V fs j
def NwI (M : MI) (y : MethodName) (ws' : List Cond) (rm : Room) (mc ms : Nat) : Prop :=
  ∃ cc maxL wt, GoodIn (mW M) ws' ∧ ws' = .code y cc maxL none :: wt ∧ rm.cells = mc ∧ rm.slots = ms ∧ Cond.initialized y.cls ∈ mW M ∧ Cond.instanceMethod y ∈ mW M ∧ y.name = "<init>" ∧ (y.cls ≠ "java/lang/invoke/MethodHandle" ∧ y.cls ≠ "java/lang/invoke/VarHandle" ∧ (parseMethodDescriptor y.desc).map (fun d => d.parameters.length) = some 0) ∧ (rm.frames + 1 ≤ (mR M).frames ∧ 8 + (maxL + 11) + rm.locals ≤ (mR M).locals)
theorem n_newI {l : Launch} {y : MethodName} {ws' : List Cond} {rm : Room} {C : String} {T : u_T} {N ci mc ms ix iy : Nat} {ty : Nat → FieldType} {fs : List Value} {post : Nat → va_W → Prop} (hL : gL Γ = l) (hC : ∀ q, CiW l y ws' rm Ω q [(q, .inr (ci, fs))] mc ms (post q)) (hT : NwT M ix C T N ci ty fs) (hI : NwI M y ws' rm mc ms) (hlink : Cond.methodLink (mO M) iy y ∈ mW M)
    (hc : c + 1 + mc ≤ (mR M).cells) (hn : n + N + ms ≤ (mR M).slots) (hs : (st.map fun v => v.category).sum ≤ 7) (hd0 : decode (mB M) pc = .ok (.new ix, 3)) (hd1 : decode (mB M) (pc + 3) = .ok (.dup, 1)) (hd2 : decode (mB M) (pc + 3 + 1) = .ok (.invokespecial iy, 3))
    (kk : ∀ q w, post q w → NwW M Γ Ω (ws ++ w) (c + 1 + mc) (n + N + ms) (pc + 3 + 1 + 3) lv (.ref q :: st)) : NwW M Γ Ω ws c n pc lv st := by
  intro G H locs ls hP hD hS hl
  subst hL
  obtain ⟨t1, t2, t3, t4, t5, t6, t7⟩ := hT
  obtain ⟨cc, maxL, wt, i1, i2, i3, i4, i5, i6, i7, i8, i9⟩ := hI
  have hts := G.2.2.2.2.1
  refine va_new (ci := ci) (fs := fs) (C := C) (T := T) (N := N) G.1 G.2.1 hts t1 ty t2 G.2.2.2.1 (hts _ t3) (hts _ t4) (hts _ t5) G.2.2.2.2.2.1.1 hP hD hS G.2.2.2.2.2.2.1 t6 t7 (by omega) (by omega) hd0 (fun q H1 hP1 hD1 hS1 => ?_)
  refine lv_dup G.1 G.2.1 hd1 rfl ?_
  refine n_behind G hP1 hD1 hS1 hl (va_runI (As := []) (rest := .ref q :: st) ⟨G.1, G.2.1, G.2.2.1, G.2.2.2.1, hts⟩ (hC q H1.size) (cwI 0 hts i1 i2 i3 i4 (hts _ i5) (hts _ hlink) (hts _ i6) i7 i8 i9) ⟨blindI, fun U hU hW => ⟨rfl, by rw [hU], by
    rw [hU]
    exact hP1.sub [ws.length] (by simp), kt_warm hW G.2.2.2.2.2.1, (hD1.sub [ws.length] (by simp [va_nd]) (by simp)).weaken (fun _ _ _ _ => trivial)⟩⟩ rfl rfl hl.1 rfl (lv_room (by
    rw [List.map_cons, List.sum_cons]
    show 1 + (st.map fun v => v.category).sum ≤ 8
    omega)) hd2 ⟨hc, hn⟩) (kk q)
theorem n_newN {l : Launch} {y : MethodName} {ws' : List Cond} {rm : Room} {C : String} {T : u_T} {N ci mc ms ix iy : Nat} {ty : Nat → FieldType} {fs : List Value} {post : Nat → va_W → Prop} (hL : gL Γ = l) (hC : ∀ q, CiW l y ws' rm Ω q [(q, .inr (ci, fs))] mc ms (post q)) (hT : NwT M ix C T N ci ty fs) (hI : NwI M y ws' rm mc ms) (hlink : ∀ U, KnT Ω U → va_Nw (.methodLinkNest (mO M) iy y RX5) U)
    (hc : c + 1 + mc ≤ (mR M).cells) (hn : n + N + ms ≤ (mR M).slots) (hs : (st.map fun v => v.category).sum ≤ 7) (hd0 : decode (mB M) pc = .ok (.new ix, 3)) (hd1 : decode (mB M) (pc + 3) = .ok (.dup, 1)) (hd2 : decode (mB M) (pc + 3 + 1) = .ok (.invokespecial iy, 3))
    (kk : ∀ q w, post q w → NwW M Γ Ω (ws ++ w) (c + 1 + mc) (n + N + ms) (pc + 3 + 1 + 3) lv (.ref q :: st)) : NwW M Γ Ω ws c n pc lv st := by
  intro G H locs ls hP hD hS hl
  subst hL
  obtain ⟨t1, t2, t3, t4, t5, t6, t7⟩ := hT
  obtain ⟨cc, maxL, wt, i1, i2, i3, i4, i5, i6, i7, i8, i9⟩ := hI
  have hts := G.2.2.2.2.1
  refine va_new (ci := ci) (fs := fs) (C := C) (T := T) (N := N) G.1 G.2.1 hts t1 ty t2 G.2.2.2.1 (hts _ t3) (hts _ t4) (hts _ t5) G.2.2.2.2.2.1.1 hP hD hS G.2.2.2.2.2.2.1 t6 t7 (by omega) (by omega) hd0 (fun q H1 hP1 hD1 hS1 => ?_)
  refine lv_dup G.1 G.2.1 hd1 rfl ?_
  refine n_behind G hP1 hD1 hS1 hl (va_runIN (As := []) (rest := .ref q :: st) ⟨G.1, G.2.1, G.2.2.1, G.2.2.2.1, hts⟩ (hC q H1.size) ⟨va_cnB 0 hts i1 i2 i3 i4 (hlink _ G.2.2.2.2.2.1) (hts _ i5) i8 i9, i7, hts _ i6⟩ ⟨blindI, fun U hU hW => ⟨rfl, by rw [hU], by
    rw [hU]
    exact hP1.sub [ws.length] (by simp), kt_warm hW G.2.2.2.2.2.1, (hD1.sub [ws.length] (by simp [va_nd]) (by simp)).weaken (fun _ _ _ _ => trivial)⟩⟩ rfl rfl hl.1 rfl (lv_room (by
    rw [List.map_cons, List.sum_cons]
    show 1 + (st.map fun v => v.category).sum ≤ 8
    omega)) hd2 ⟨hc, hn⟩) (kk q)
end NCALLS
