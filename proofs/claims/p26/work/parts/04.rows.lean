/-! THE JUDGEMENT AtW: a machine that holds the world at a state σ comes, from a place of a method, to what is wanted; its rows -/
/-- what stays the same while a method runs: program, launch, environment, start, method, arguments, frames below, method, code, what is wanted, cells and slots made, what may change -/
abbrev GmW : Type := Program × Launch × Env × State × MethodId × Array Value × List Frame × Method × Code × (State → Prop) × (Nat × Nat) × (Nat → Prop)
abbrev gP (Γ : GmW) : Program := Γ.1
abbrev gL (Γ : GmW) : Launch := Γ.2.1
abbrev gE (Γ : GmW) : Env := Γ.2.2.1
abbrev gSt (Γ : GmW) : State := Γ.2.2.2.1
abbrev gM (Γ : GmW) : MethodId := Γ.2.2.2.2.1
abbrev gAr (Γ : GmW) : Array Value := Γ.2.2.2.2.2.1
abbrev gB (Γ : GmW) : List Frame := Γ.2.2.2.2.2.2.1
abbrev gMe (Γ : GmW) : Method := Γ.2.2.2.2.2.2.2.1
abbrev gC (Γ : GmW) : Code := Γ.2.2.2.2.2.2.2.2.1
abbrev gQ (Γ : GmW) : State → Prop := Γ.2.2.2.2.2.2.2.2.2.1
abbrev gN (Γ : GmW) : Nat × Nat := Γ.2.2.2.2.2.2.2.2.2.2.1
abbrev gA (Γ : GmW) : Nat → Prop := Γ.2.2.2.2.2.2.2.2.2.2.2
/-- what a method is: its bytes, its class, its words, its locals, its room, its type -/
abbrev MI : Type := ByteArray × String × List Cond × Nat × Room × Option FieldType
abbrev mB (M : MI) : ByteArray := M.1
abbrev mO (M : MI) : String := M.2.1
abbrev mW (M : MI) : List Cond := M.2.2.1
abbrev mN (M : MI) : Nat := M.2.2.2.1
abbrev mR (M : MI) : Room := M.2.2.2.2.1
abbrev mT (M : MI) : Option FieldType := M.2.2.2.2.2
def GdW (M : MI) (Γ : GmW) (Ω : Om) : Prop :=
  (gP Γ).tables.exec = Jvm.exec ∧ (gC Γ).code = mB M ∧ (gC Γ).maxLocals = mN M ∧ (gSt Γ).vm.findClass (mO M) = some (gM Γ).cls ∧ (∀ w ∈ mW M, w.before (gAr Γ) (gSt Γ) = true) ∧ va_K Ω.1 vwCl (tysO Ω) (gSt Γ) ∧ va_D (gA Γ) (CW Ω Sz0) ∧ (∀ q, (gSt Γ).heap.size ≤ q → gA Γ q) ∧ (gMe Γ).sig.returnType = mT M ∧ (gMe Γ).locks = false ∧ (gN Γ).1 ≤ (mR M).cells ∧ (gN Γ).2 ≤ (mR M).slots
def AtW (M : MI) (Γ : GmW) (Ω : Om) (σ : Sg) (pc : Nat) (lv : List (Option Value)) (st : List Value) : Prop :=
  GdW M Γ Ω → ∀ (H : Heap) (locs : List Loc) (ls : Array Slot), va_P Ω.1 vwCl (CW Ω σ) H → va_S (gA Γ) (gSt Γ).heap H locs → lvH ls (mN M) lv → W (gP Γ) (gL Γ) (gE Γ) (mR M) (gSt Γ) (gM Γ) (gAr Γ) (gB Γ) (gMe Γ) (gC Γ) H locs (gN Γ).1 (gN Γ).2 (gQ Γ) (F0 (gM Γ) pc ls st)
section ROWS
variable {M : MI} {Γ : GmW} {Ω : Om} {σ : Sg} {pc : Nat} {lv : List (Option Value)} {st : List Value}
theorem AtW.eqs {σ' : Sg} {pc' : Nat} {lv' : List (Option Value)} {st' : List Value} (h : AtW M Γ Ω σ' pc' lv' st') (h1 : σ = σ') (h2 : pc = pc') (h3 : lv = lv') (h4 : st = st') : AtW M Γ Ω σ pc lv st := by
  subst h1 h2 h3 h4
  exact h
theorem r_iconst {n : Int} (v : Int32) (hd : decode (mB M) pc = .ok (.iconst n, 1)) (hv : Int32.ofInt n = v)
    (k : AtW M Γ Ω σ (pc + 1) lv (.int v :: st)) : AtW M Γ Ω σ pc lv (st) :=
  fun G H locs ls hP hS hl => lv_iconst G.1 G.2.1 hd hv (k G H locs ls hP hS hl)
theorem r_bipush {n : Int} (v : Int32) (hd : decode (mB M) pc = .ok (.bipush n, 2)) (hv : (Int8.ofInt n).toInt32 = v)
    (k : AtW M Γ Ω σ (pc + 2) lv (.int v :: st)) : AtW M Γ Ω σ pc lv (st) :=
  fun G H locs ls hP hS hl => lv_bipush G.1 G.2.1 hd hv (k G H locs ls hP hS hl)
theorem r_sipush {n : Int} (v : Int32) (hd : decode (mB M) pc = .ok (.sipush n, 3)) (hv : (Int16.ofInt n).toInt32 = v)
    (k : AtW M Γ Ω σ (pc + 3) lv (.int v :: st)) : AtW M Γ Ω σ pc lv (st) :=
  fun G H locs ls hP hS hl => lv_sipush G.1 G.2.1 hd hv (k G H locs ls hP hS hl)
theorem r_iload_n {i : Fin 4} {x : Int32} (hd : decode (mB M) pc = .ok (.iload_n i, 1)) (hi : lvG lv (i : Nat) = some (.int x))
    (k : AtW M Γ Ω σ (pc + 1) lv (.int x :: st)) : AtW M Γ Ω σ pc lv (st) :=
  fun G H locs ls hP hS hl => lv_iload_n G.1 G.2.1 hd rfl (lvH_at hl hi) (k G H locs ls hP hS hl)
theorem r_iload {i : Nat} {x : Int32} (hd : decode (mB M) pc = .ok (.iload i, 2)) (hi : lvG lv i = some (.int x))
    (k : AtW M Γ Ω σ (pc + 2) lv (.int x :: st)) : AtW M Γ Ω σ pc lv (st) :=
  fun G H locs ls hP hS hl => lv_iload G.1 G.2.1 hd (lvH_at hl hi) (k G H locs ls hP hS hl)
theorem r_lload_n {i : Fin 4} {x : Int64} (hd : decode (mB M) pc = .ok (.lload_n i, 1)) (hi : lvG lv (i : Nat) = some (.long x))
    (k : AtW M Γ Ω σ (pc + 1) lv (.long x :: st)) : AtW M Γ Ω σ pc lv (st) :=
  fun G H locs ls hP hS hl => lv_lload_n G.1 G.2.1 hd rfl (lvH_at hl hi) (k G H locs ls hP hS hl)
theorem r_lload {i : Nat} {x : Int64} (hd : decode (mB M) pc = .ok (.lload i, 2)) (hi : lvG lv i = some (.long x))
    (k : AtW M Γ Ω σ (pc + 2) lv (.long x :: st)) : AtW M Γ Ω σ pc lv (st) :=
  fun G H locs ls hP hS hl => lv_lload G.1 G.2.1 hd (lvH_at hl hi) (k G H locs ls hP hS hl)
theorem r_aload_n {i : Fin 4} {x : Nat} (hd : decode (mB M) pc = .ok (.aload_n i, 1)) (hi : lvG lv (i : Nat) = some (.ref x))
    (k : AtW M Γ Ω σ (pc + 1) lv (.ref x :: st)) : AtW M Γ Ω σ pc lv (st) :=
  fun G H locs ls hP hS hl => lv_aload_n G.1 G.2.1 hd rfl (lvH_at hl hi) (k G H locs ls hP hS hl)
theorem r_aload {i : Nat} {x : Nat} (hd : decode (mB M) pc = .ok (.aload i, 2)) (hi : lvG lv i = some (.ref x))
    (k : AtW M Γ Ω σ (pc + 2) lv (.ref x :: st)) : AtW M Γ Ω σ pc lv (st) :=
  fun G H locs ls hP hS hl => lv_aload G.1 G.2.1 hd (lvH_at hl hi) (k G H locs ls hP hS hl)
theorem r_istore_n {i : Fin 4} {x : Int32} (hd : decode (mB M) pc = .ok (.istore_n i, 1)) (hn : (i : Nat) < mN M) (hk : lvK lv (i : Nat) = true)
    (k : AtW M Γ Ω σ (pc + 1) (lvS lv (i : Nat) (some (.int x))) st) : AtW M Γ Ω σ pc lv (.int x :: st) :=
  fun G H locs ls hP hS hl => lv_istore_n G.1 G.2.1 hd rfl hl hn rfl (fun ls' hl' => k G H locs ls' hP hS (lvH_set hl' hk))
theorem r_istore {i : Nat} {x : Int32} (hd : decode (mB M) pc = .ok (.istore i, 2)) (hn : i < mN M) (hk : lvK lv i = true)
    (k : AtW M Γ Ω σ (pc + 2) (lvS lv i (some (.int x))) st) : AtW M Γ Ω σ pc lv (.int x :: st) :=
  fun G H locs ls hP hS hl => lv_istore G.1 G.2.1 hd hl hn rfl (fun ls' hl' => k G H locs ls' hP hS (lvH_set hl' hk))
theorem r_astore_n {i : Fin 4} {x : Nat} (hd : decode (mB M) pc = .ok (.astore_n i, 1)) (hn : (i : Nat) < mN M) (hk : lvK lv (i : Nat) = true)
    (k : AtW M Γ Ω σ (pc + 1) (lvS lv (i : Nat) (some (.ref x))) st) : AtW M Γ Ω σ pc lv (.ref x :: st) :=
  fun G H locs ls hP hS hl => lv_astore_n G.1 G.2.1 hd rfl hl hn rfl (fun ls' hl' => k G H locs ls' hP hS (lvH_set hl' hk))
theorem r_astore {i : Nat} {x : Nat} (hd : decode (mB M) pc = .ok (.astore i, 2)) (hn : i < mN M) (hk : lvK lv i = true)
    (k : AtW M Γ Ω σ (pc + 2) (lvS lv i (some (.ref x))) st) : AtW M Γ Ω σ pc lv (.ref x :: st) :=
  fun G H locs ls hP hS hl => lv_astore G.1 G.2.1 hd hl hn rfl (fun ls' hl' => k G H locs ls' hP hS (lvH_set hl' hk))
theorem r_lstore {i : Nat} {x : Int64} (hd : decode (mB M) pc = .ok (.lstore i, 2)) (hn : i + 1 < mN M) (hk : lvK lv i = true)
    (k : AtW M Γ Ω σ (pc + 2) (lvS (lvS lv i (some (.long x))) (i + 1) none) st) : AtW M Γ Ω σ pc lv (.long x :: st) :=
  fun G H locs ls hP hS hl => lv_lstore G.1 G.2.1 hd hl hn rfl (fun ls' hl' => k G H locs ls' hP hS (lvH_set2 hl' hk))
theorem r_iinc {i : Nat} {n : Int} {x : Int32} (v : Int32) (hd : decode (mB M) pc = .ok (.iinc i n, 3)) (hi : lvG lv i = some (.int x)) (hv : x + Int32.ofInt n = v) (hn : i < mN M) (hk : lvK lv i = true)
    (k : AtW M Γ Ω σ (pc + 3) (lvS lv i (some (.int v))) st) : AtW M Γ Ω σ pc lv st := by
  intro G H locs ls hP hS hl
  have hm : (i, Value.int x) ∈ lvZ 0 lv := (lvZ_mem lv 0 (i, .int x)).mpr ⟨i, hi, by omega⟩
  obtain ⟨j, hj⟩ := List.getElem?_of_mem hm
  exact lv_iinc G.1 G.2.1 hd hl hj hv hn rfl (fun ls' hl' => k G H locs ls' hP hS (lvH_set hl' hk))
theorem r_iadd {x y : Int32} (hd : decode (mB M) pc = .ok (.iadd, 1))
    (k : AtW M Γ Ω σ (pc + 1) lv (.int (x + y) :: st)) : AtW M Γ Ω σ pc lv (.int y :: .int x :: st) :=
  fun G H locs ls hP hS hl => lv_iadd G.1 G.2.1 hd (k G H locs ls hP hS hl)
theorem r_isub {x y : Int32} (hd : decode (mB M) pc = .ok (.isub, 1))
    (k : AtW M Γ Ω σ (pc + 1) lv (.int (x - y) :: st)) : AtW M Γ Ω σ pc lv (.int y :: .int x :: st) :=
  fun G H locs ls hP hS hl => lv_isub G.1 G.2.1 hd (k G H locs ls hP hS hl)
theorem r_imul {x y : Int32} (hd : decode (mB M) pc = .ok (.imul, 1))
    (k : AtW M Γ Ω σ (pc + 1) lv (.int (x * y) :: st)) : AtW M Γ Ω σ pc lv (.int y :: .int x :: st) :=
  fun G H locs ls hP hS hl => lv_imul G.1 G.2.1 hd (k G H locs ls hP hS hl)
theorem r_iand {x y : Int32} (hd : decode (mB M) pc = .ok (.iand, 1))
    (k : AtW M Γ Ω σ (pc + 1) lv (.int (x &&& y) :: st)) : AtW M Γ Ω σ pc lv (.int y :: .int x :: st) :=
  fun G H locs ls hP hS hl => lv_iand G.1 G.2.1 hd (k G H locs ls hP hS hl)
theorem r_ior {x y : Int32} (hd : decode (mB M) pc = .ok (.ior, 1))
    (k : AtW M Γ Ω σ (pc + 1) lv (.int (x ||| y) :: st)) : AtW M Γ Ω σ pc lv (.int y :: .int x :: st) :=
  fun G H locs ls hP hS hl => lv_ior G.1 G.2.1 hd (k G H locs ls hP hS hl)
theorem r_ixor {x y : Int32} (hd : decode (mB M) pc = .ok (.ixor, 1))
    (k : AtW M Γ Ω σ (pc + 1) lv (.int (x ^^^ y) :: st)) : AtW M Γ Ω σ pc lv (.int y :: .int x :: st) :=
  fun G H locs ls hP hS hl => lv_ixor G.1 G.2.1 hd (k G H locs ls hP hS hl)
theorem r_ishl {x y : Int32} (hd : decode (mB M) pc = .ok (.ishl, 1))
    (k : AtW M Γ Ω σ (pc + 1) lv (.int (x <<< (y &&& 31)) :: st)) : AtW M Γ Ω σ pc lv (.int y :: .int x :: st) :=
  fun G H locs ls hP hS hl => lv_ishl G.1 G.2.1 hd (k G H locs ls hP hS hl)
theorem r_ishr {x y : Int32} (hd : decode (mB M) pc = .ok (.ishr, 1))
    (k : AtW M Γ Ω σ (pc + 1) lv (.int (x >>> (y &&& 31)) :: st)) : AtW M Γ Ω σ pc lv (.int y :: .int x :: st) :=
  fun G H locs ls hP hS hl => lv_ishr G.1 G.2.1 hd (k G H locs ls hP hS hl)
theorem r_iushr {x y : Int32} (hd : decode (mB M) pc = .ok (.iushr, 1))
    (k : AtW M Γ Ω σ (pc + 1) lv (.int ((x.toUInt32 >>> (y.toUInt32 &&& Int32.toUInt32 31)).toInt32) :: st)) : AtW M Γ Ω σ pc lv (.int y :: .int x :: st) :=
  fun G H locs ls hP hS hl => lv_iushr G.1 G.2.1 hd rfl (k G H locs ls hP hS hl)
theorem r_ineg {x : Int32} (hd : decode (mB M) pc = .ok (.ineg, 1))
    (k : AtW M Γ Ω σ (pc + 1) lv (.int (-x) :: st)) : AtW M Γ Ω σ pc lv (.int x :: st) :=
  fun G H locs ls hP hS hl => lv_ineg G.1 G.2.1 hd (k G H locs ls hP hS hl)
theorem r_idiv {x y : Int32} (hd : decode (mB M) pc = .ok (.idiv, 1)) (hy : ¬ y = 0)
    (k : AtW M Γ Ω σ (pc + 1) lv (.int (x / y) :: st)) : AtW M Γ Ω σ pc lv (.int y :: .int x :: st) :=
  fun G H locs ls hP hS hl => lv_idiv G.1 G.2.1 hd hy (k G H locs ls hP hS hl)
theorem r_ladd {x y : Int64} (hd : decode (mB M) pc = .ok (.ladd, 1))
    (k : AtW M Γ Ω σ (pc + 1) lv (.long (x + y) :: st)) : AtW M Γ Ω σ pc lv (.long y :: .long x :: st) :=
  fun G H locs ls hP hS hl => lv_ladd G.1 G.2.1 hd (k G H locs ls hP hS hl)
theorem r_lcmp {x y : Int64} (hd : decode (mB M) pc = .ok (.lcmp, 1))
    (k : AtW M Γ Ω σ (pc + 1) lv (.int (lg_cmp x y) :: st)) : AtW M Γ Ω σ pc lv (.long y :: .long x :: st) :=
  fun G H locs ls hP hS hl => W.lcmp G.1 G.2.1 hd (k G H locs ls hP hS hl)
theorem r_i2l {x : Int32} (hd : decode (mB M) pc = .ok (.i2l, 1))
    (k : AtW M Γ Ω σ (pc + 1) lv (.long x.toInt64 :: st)) : AtW M Γ Ω σ pc lv (.int x :: st) :=
  fun G H locs ls hP hS hl => lv_i2l G.1 G.2.1 hd rfl (k G H locs ls hP hS hl)
theorem r_l2i {x : Int64} (hd : decode (mB M) pc = .ok (.l2i, 1))
    (k : AtW M Γ Ω σ (pc + 1) lv (.int x.toInt32 :: st)) : AtW M Γ Ω σ pc lv (.long x :: st) :=
  fun G H locs ls hP hS hl => lv_l2i G.1 G.2.1 hd rfl (k G H locs ls hP hS hl)
theorem r_i2c {x : Int32} (hd : decode (mB M) pc = .ok (.i2c, 1))
    (k : AtW M Γ Ω σ (pc + 1) lv (.int (x.toUInt32 % 65536).toInt32 :: st)) : AtW M Γ Ω σ pc lv (.int x :: st) :=
  fun G H locs ls hP hS hl => lv_i2c G.1 G.2.1 hd rfl (k G H locs ls hP hS hl)
theorem r_dup {x : Value} (hd : decode (mB M) pc = .ok (.dup, 1)) (hx : x.category = 1)
    (k : AtW M Γ Ω σ (pc + 1) lv (x :: x :: st)) : AtW M Γ Ω σ pc lv (x :: st) :=
  fun G H locs ls hP hS hl => lv_dup G.1 G.2.1 hd hx (k G H locs ls hP hS hl)
theorem r_pop {x : Value} (hd : decode (mB M) pc = .ok (.pop, 1)) (hx : x.category = 1)
    (k : AtW M Γ Ω σ (pc + 1) lv (st)) : AtW M Γ Ω σ pc lv (x :: st) :=
  fun G H locs ls hP hS hl => lv_pop G.1 G.2.1 hd hx (k G H locs ls hP hS hl)
theorem r_dup2 {x y : Value} (hd : decode (mB M) pc = .ok (.dup2, 1)) (hx : x.category = 1) (hy : y.category = 1)
    (k : AtW M Γ Ω σ (pc + 1) lv (x :: y :: x :: y :: st)) : AtW M Γ Ω σ pc lv (x :: y :: st) :=
  fun G H locs ls hP hS hl => lv_dup2_11 G.1 G.2.1 hd hx hy (k G H locs ls hP hS hl)
theorem r_ldcw {index : Nat} (v : Int32) (hd : decode (mB M) pc = .ok (.ldc_w index, 3)) (hw : Jvm.Cond.constant (mO M) index v ∈ mW M)
    (k : AtW M Γ Ω σ (pc + 3) lv (.int v :: st)) : AtW M Γ Ω σ pc lv (st) :=
  fun G H locs ls hP hS hl => lv_ldcw G.1 G.2.1 G.2.2.2.1 (G.2.2.2.2.1 _ hw) hd (k G H locs ls hP hS hl)
theorem r_goto {off : Int} (tgt : Nat) (hd : decode (mB M) pc = .ok (.goto off, 3)) (ht : (pc : Int) + off = (tgt : Int)) (k : AtW M Γ Ω σ tgt lv st) : AtW M Γ Ω σ pc lv st :=
  fun G H locs ls hP hS hl => lv_goto G.1 G.2.1 hd ht (k G H locs ls hP hS hl)
theorem r_if_eq {x : Int32} {off : Int} (tgt : Nat) (hd : decode (mB M) pc = .ok (.ifCond .eq off, 3)) (ht : (pc : Int) + off = (tgt : Int))
    (kt : x = 0 → AtW M Γ Ω σ tgt lv st) (kf : ¬ x = 0 → AtW M Γ Ω σ (pc + 3) lv st) : AtW M Γ Ω σ pc lv (.int x :: st) :=
  fun G H locs ls hP hS hl => lv_if_eq G.1 G.2.1 hd ht (fun q => kt q G H locs ls hP hS hl) (fun q => kf q G H locs ls hP hS hl)
theorem r_icmp_eq {x y : Int32} {off : Int} (tgt : Nat) (hd : decode (mB M) pc = .ok (.if_icmp .eq off, 3)) (ht : (pc : Int) + off = (tgt : Int))
    (kt : x = y → AtW M Γ Ω σ tgt lv st) (kf : ¬ x = y → AtW M Γ Ω σ (pc + 3) lv st) : AtW M Γ Ω σ pc lv (.int y :: .int x :: st) :=
  fun G H locs ls hP hS hl => lv_icmp_eq G.1 G.2.1 hd ht (fun q => kt q G H locs ls hP hS hl) (fun q => kf q G H locs ls hP hS hl)
theorem r_if_ne {x : Int32} {off : Int} (tgt : Nat) (hd : decode (mB M) pc = .ok (.ifCond .ne off, 3)) (ht : (pc : Int) + off = (tgt : Int))
    (kt : ¬ x = 0 → AtW M Γ Ω σ tgt lv st) (kf : x = 0 → AtW M Γ Ω σ (pc + 3) lv st) : AtW M Γ Ω σ pc lv (.int x :: st) :=
  fun G H locs ls hP hS hl => lv_if_ne G.1 G.2.1 hd ht (fun q => kt q G H locs ls hP hS hl) (fun q => kf q G H locs ls hP hS hl)
theorem r_icmp_ne {x y : Int32} {off : Int} (tgt : Nat) (hd : decode (mB M) pc = .ok (.if_icmp .ne off, 3)) (ht : (pc : Int) + off = (tgt : Int))
    (kt : ¬ x = y → AtW M Γ Ω σ tgt lv st) (kf : x = y → AtW M Γ Ω σ (pc + 3) lv st) : AtW M Γ Ω σ pc lv (.int y :: .int x :: st) :=
  fun G H locs ls hP hS hl => lv_icmp_ne G.1 G.2.1 hd ht (fun q => kt q G H locs ls hP hS hl) (fun q => kf q G H locs ls hP hS hl)
theorem r_if_lt {x : Int32} {off : Int} (tgt : Nat) (hd : decode (mB M) pc = .ok (.ifCond .lt off, 3)) (ht : (pc : Int) + off = (tgt : Int))
    (kt : x < 0 → AtW M Γ Ω σ tgt lv st) (kf : ¬ x < 0 → AtW M Γ Ω σ (pc + 3) lv st) : AtW M Γ Ω σ pc lv (.int x :: st) :=
  fun G H locs ls hP hS hl => lv_if_lt G.1 G.2.1 hd ht (fun q => kt q G H locs ls hP hS hl) (fun q => kf q G H locs ls hP hS hl)
theorem r_icmp_lt {x y : Int32} {off : Int} (tgt : Nat) (hd : decode (mB M) pc = .ok (.if_icmp .lt off, 3)) (ht : (pc : Int) + off = (tgt : Int))
    (kt : x < y → AtW M Γ Ω σ tgt lv st) (kf : ¬ x < y → AtW M Γ Ω σ (pc + 3) lv st) : AtW M Γ Ω σ pc lv (.int y :: .int x :: st) :=
  fun G H locs ls hP hS hl => lv_icmp_lt G.1 G.2.1 hd ht (fun q => kt q G H locs ls hP hS hl) (fun q => kf q G H locs ls hP hS hl)
theorem r_if_ge {x : Int32} {off : Int} (tgt : Nat) (hd : decode (mB M) pc = .ok (.ifCond .ge off, 3)) (ht : (pc : Int) + off = (tgt : Int))
    (kt : 0 ≤ x → AtW M Γ Ω σ tgt lv st) (kf : ¬ 0 ≤ x → AtW M Γ Ω σ (pc + 3) lv st) : AtW M Γ Ω σ pc lv (.int x :: st) :=
  fun G H locs ls hP hS hl => lv_if_ge G.1 G.2.1 hd ht (fun q => kt q G H locs ls hP hS hl) (fun q => kf q G H locs ls hP hS hl)
theorem r_icmp_ge {x y : Int32} {off : Int} (tgt : Nat) (hd : decode (mB M) pc = .ok (.if_icmp .ge off, 3)) (ht : (pc : Int) + off = (tgt : Int))
    (kt : y ≤ x → AtW M Γ Ω σ tgt lv st) (kf : ¬ y ≤ x → AtW M Γ Ω σ (pc + 3) lv st) : AtW M Γ Ω σ pc lv (.int y :: .int x :: st) :=
  fun G H locs ls hP hS hl => lv_icmp_ge G.1 G.2.1 hd ht (fun q => kt q G H locs ls hP hS hl) (fun q => kf q G H locs ls hP hS hl)
theorem r_if_gt {x : Int32} {off : Int} (tgt : Nat) (hd : decode (mB M) pc = .ok (.ifCond .gt off, 3)) (ht : (pc : Int) + off = (tgt : Int))
    (kt : 0 < x → AtW M Γ Ω σ tgt lv st) (kf : ¬ 0 < x → AtW M Γ Ω σ (pc + 3) lv st) : AtW M Γ Ω σ pc lv (.int x :: st) :=
  fun G H locs ls hP hS hl => lv_if_gt G.1 G.2.1 hd ht (fun q => kt q G H locs ls hP hS hl) (fun q => kf q G H locs ls hP hS hl)
theorem r_icmp_gt {x y : Int32} {off : Int} (tgt : Nat) (hd : decode (mB M) pc = .ok (.if_icmp .gt off, 3)) (ht : (pc : Int) + off = (tgt : Int))
    (kt : y < x → AtW M Γ Ω σ tgt lv st) (kf : ¬ y < x → AtW M Γ Ω σ (pc + 3) lv st) : AtW M Γ Ω σ pc lv (.int y :: .int x :: st) :=
  fun G H locs ls hP hS hl => lv_icmp_gt G.1 G.2.1 hd ht (fun q => kt q G H locs ls hP hS hl) (fun q => kf q G H locs ls hP hS hl)
theorem r_if_le {x : Int32} {off : Int} (tgt : Nat) (hd : decode (mB M) pc = .ok (.ifCond .le off, 3)) (ht : (pc : Int) + off = (tgt : Int))
    (kt : x ≤ 0 → AtW M Γ Ω σ tgt lv st) (kf : ¬ x ≤ 0 → AtW M Γ Ω σ (pc + 3) lv st) : AtW M Γ Ω σ pc lv (.int x :: st) :=
  fun G H locs ls hP hS hl => lv_if_le G.1 G.2.1 hd ht (fun q => kt q G H locs ls hP hS hl) (fun q => kf q G H locs ls hP hS hl)
theorem r_icmp_le {x y : Int32} {off : Int} (tgt : Nat) (hd : decode (mB M) pc = .ok (.if_icmp .le off, 3)) (ht : (pc : Int) + off = (tgt : Int))
    (kt : x ≤ y → AtW M Γ Ω σ tgt lv st) (kf : ¬ x ≤ y → AtW M Γ Ω σ (pc + 3) lv st) : AtW M Γ Ω σ pc lv (.int y :: .int x :: st) :=
  fun G H locs ls hP hS hl => lv_icmp_le G.1 G.2.1 hd ht (fun q => kt q G H locs ls hP hS hl) (fun q => kf q G H locs ls hP hS hl)
theorem r_lookup {dflt : Int} {ps : Array (Int × Int)} {len : Nat} {x : Int32} (off : Int) (tgt : Nat) (hd : decode (mB M) pc = .ok (.lookupswitch dflt ps, len)) (hp : (ps.toList.zip (ps.toList.drop 1)).all (fun (a, next) => a.1 < next.1) = true) (ho : Op.lookupswitch.offset ps.toList dflt x.toInt = off) (ht : (pc : Int) + off = (tgt : Int))
    (k : AtW M Γ Ω σ tgt lv st) : AtW M Γ Ω σ pc lv (.int x :: st) :=
  fun G H locs ls hP hS hl => lv_lookup G.1 G.2.1 hd hp ho ht (k G H locs ls hP hS hl)
theorem r_tableOut {dflt lo hi : Int} {offs : Array Int} {len : Nat} {x : Int32} (tgt : Nat) (hd : decode (mB M) pc = .ok (.tableswitch dflt lo hi offs, len)) (h : x.toInt < lo ∨ hi < x.toInt) (ht : (pc : Int) + dflt = (tgt : Int))
    (k : AtW M Γ Ω σ tgt lv st) : AtW M Γ Ω σ pc lv (.int x :: st) :=
  fun G H locs ls hP hS hl => lv_tableOut G.1 G.2.1 hd h ht (k G H locs ls hP hS hl)
theorem r_tableIn {dflt lo hi : Int} {offs : Array Int} {len : Nat} {x : Int32} (off : Int) (tgt : Nat) (hd : decode (mB M) pc = .ok (.tableswitch dflt lo hi offs, len)) (h1 : ¬ x.toInt < lo) (h2 : ¬ hi < x.toInt) (ho : offs[(x.toInt - lo).toNat]? = some off) (ht : (pc : Int) + off = (tgt : Int))
    (k : AtW M Γ Ω σ tgt lv st) : AtW M Γ Ω σ pc lv (.int x :: st) :=
  fun G H locs ls hP hS hl => lv_tableIn G.1 G.2.1 hd h1 h2 ho ht (k G H locs ls hP hS hl)
/-! fields and arrays, by a cell's number -/
theorem r_get {C : String} {T : u_T} {N ci index : Nat} (q0 : Nat) {fs : List Value} (hq : q0 < 371) (he : cel Ω σ q0 = .inr (ci, fs)) (hc : vwCl[ci]? = some (C, T, N)) (k : Nat) (hk : k < N) (hin : ∀ w ∈ u_ws C T N, w ∈ mW M) (hlink : Cond.fieldLink (mO M) index (T k).1 (T k).2.1 (T k).2.2.1 ∈ mW M) {v : Value} (hv : fs[k]? = some v) (hd : decode (mB M) pc = .ok (.getfield index, 3))
    (kk : AtW M Γ Ω σ (pc + 3) lv (v :: st)) : AtW M Γ Ω σ pc lv (.ref (ad Ω q0) :: st) :=
  fun G H locs ls hP hS hl => va_get G.1 G.2.1 G.2.2.2.2.1 hin G.2.2.2.1 G.2.2.2.2.2.1 hP q0 ((CW_get hq).trans (by rw [he])) hc k hk (G.2.2.2.2.1 _ hlink) (fun _ h9 => h9) hv hd (kk G H locs ls hP hS hl)
theorem r_put {C : String} {T : u_T} {N ci index : Nat} (q0 : Nat) {fs : List Value} (hq : q0 < 371) (he : cel Ω σ q0 = .inr (ci, fs)) (hc : vwCl[ci]? = some (C, T, N)) (k : Nat) (hk : k < N) (hin : ∀ w ∈ u_ws C T N, w ∈ mW M) (hlink : Cond.fieldLink (mO M) index (T k).1 (T k).2.1 (T k).2.2.1 ∈ mW M) (ty0 : Nat → FieldType) (hty : ∀ k, k < N → parseFieldDescriptor (T k).2.2.1 = some (ty0 k)) (hnm : ∀ a, a < N → ∀ b, b < N → a ≠ b → (T a).2.1 ≠ (T b).2.1) (hfin : (T k).2.2.2 = false) {ty : FieldType} {x : Int32} (hpd : parseFieldDescriptor (T k).2.2.1 = some ty) (hn : narrow ty (.int x) = .int x) (hfit : fits ty (.int x) = true) (hl0 : k < fs.length)
    (hset : cel Ω (upS σ q0 k x) q0 = .inr (ci, fs.set k (.int x))) (hd : decode (mB M) pc = .ok (.putfield index, 3))
    (kk : AtW M Γ Ω (upS σ q0 k x) (pc + 3) lv st) : AtW M Γ Ω σ pc lv (.int x :: .ref (ad Ω q0) :: st) :=
  fun G H locs ls hP hS hl => va_put G.1 G.2.1 G.2.2.2.2.1 hin ty0 hty hnm G.2.2.2.1 G.2.2.2.2.2.1 hP (CW_D G.2.2.2.2.2.2.1) hS q0 ((CW_get hq).trans (by rw [he])) hc k hk (G.2.2.2.2.1 _ hlink) (fun _ h9 => h9) hfin hpd hn hfit hl0 hd
    (fun H1 locs1 hP1 _ hS1 => kk G H1 locs1 ls (by rw [CW_set (fun j hj => up_ne hj) hset] at hP1; exact hP1) hS1 hl)
theorem r_iald (q0 : Nat) {n : Nat} {f : Nat → Int32} (hq : q0 < 371) (he : cel Ω σ q0 = .inl (Ω.2.1 0, n, .inl f)) {i : Int32} (j : Nat) (hi : i = nI j) (hj : j < n) (hn : n < 500) (hd : decode (mB M) pc = .ok (.iaload, 1))
    (kk : AtW M Γ Ω σ (pc + 1) lv (.int (f j) :: st)) : AtW M Γ Ω σ pc lv (.int i :: .ref (ad Ω q0) :: st) := by
  intro G H locs ls hP hS hl
  subst hi
  refine va_iald G.1 G.2.1 G.2.2.2.2.2.1 hP q0 0 ((CW_get hq).trans (by rw [he])) rfl (vp_in_nI hj (by omega)) hd ?_
  rw [nI_clamp (by omega)]
  exact kk G H locs ls hP hS hl
theorem r_cald {i : Int32} (j : Nat) (hi : i = nI j) (hj : j < 80) (hd : decode (mB M) pc = .ok (.caload, 1))
    (kk : AtW M Γ Ω σ (pc + 1) lv (.int (σ 366 j) :: st)) : AtW M Γ Ω σ pc lv (.int i :: .ref (ad Ω 366) :: st) := by
  intro G H locs ls hP hS hl
  subst hi
  refine va_cald G.1 G.2.1 G.2.2.2.2.2.1 hP 366 3 (f := σ 366) (n := 80) ((CW_get (by omega)).trans rfl) rfl (vp_in_nI hj (by omega)) hd ?_
  rw [nI_clamp (by omega)]
  exact kk G H locs ls hP hS hl
theorem r_iast (q0 : Nat) {n : Nat} (hq : q0 < 371) (he : ∀ σ : Sg, cel Ω σ q0 = .inl (Ω.2.1 0, n, .inl (σ q0))) {i x : Int32} (j : Nat) (hi : i = nI j) (hj : j < n) (hn : n < 500) (hd : decode (mB M) pc = .ok (.iastore, 1))
    (kk : AtW M Γ Ω (upS σ q0 j x) (pc + 1) lv st) : AtW M Γ Ω σ pc lv (.int x :: .int i :: .ref (ad Ω q0) :: st) := by
  intro G H locs ls hP hS hl
  subst hi
  refine va_iast G.1 G.2.1 G.2.2.2.2.2.1 hP (CW_D G.2.2.2.2.2.2.1) hS q0 0 (f := σ q0) ((CW_get hq).trans (by rw [he])) rfl (vp_in_nI hj (by omega)) hd ?_
  rw [nI_clamp (by omega)]
  intro H1 locs1 hP1 _ hS1
  rw [CW_set (σ' := upS σ q0 j x) (fun j hj => up_ne hj) (by rw [he, up_at])] at hP1
  exact kk G H1 locs1 ls hP1 hS1 hl
theorem r_cast {i x : Int32} (j : Nat) (hi : i = nI j) (hj : j < 80) (hx : vp_nar .char x = x) (hd : decode (mB M) pc = .ok (.castore, 1))
    (kk : AtW M Γ Ω (upS σ 366 j x) (pc + 1) lv st) : AtW M Γ Ω σ pc lv (.int x :: .int i :: .ref (ad Ω 366) :: st) := by
  intro G H locs ls hP hS hl
  subst hi
  refine va_cast G.1 G.2.1 G.2.2.2.2.2.1 hP (CW_D G.2.2.2.2.2.2.1) hS 366 3 (f := σ 366) (n := 80) ((CW_get (by omega)).trans rfl) rfl (vp_in_nI hj (by omega)) hd ?_
  rw [nI_clamp (by omega), hx]
  intro H1 locs1 hP1 _ hS1
  rw [CW_set (σ' := upS σ 366 j x) (fun j hj => up_ne hj) (by show Sum.inl _ = _; rw [up_at])] at hP1
  exact kk G H1 locs1 ls hP1 hS1 hl
/-- a box of a space -/
theorem r_aaldB {i : Int32} (s : Nat) (hs : s < 7) (j : Nat) (hi : i = nI j) (hj : j < 16) (hd : decode (mB M) pc = .ok (.aaload, 1))
    (kk : AtW M Γ Ω σ (pc + 1) lv (.ref (ad Ω (iBo (bx s j))) :: st)) : AtW M Γ Ω σ pc lv (.int i :: .ref (ad Ω (iA s)) :: st) := by
  intro G H locs ls hP hS hl
  subst hi
  refine va_aldq G.1 G.2.1 G.2.2.2.2.2.1 hP (iA s) 1 (C := RX0) (n := 16) (f := fun i => some (ad Ω (iBo (bx s i)))) ((CW_get (by unfold iA; omega)).trans (by rw [cel_spA hs])) rfl (vp_in_nI hj (by omega)) hd ?_
  rw [nI_clamp (by omega)]
  exact kk G H locs ls hP hS hl
/-- a state of the history -/
theorem r_aaldS {i : Int32} (j : Nat) (hi : i = nI j) (hj : j < 4) (hd : decode (mB M) pc = .ok (.aaload, 1))
    (kk : AtW M Γ Ω σ (pc + 1) lv (.ref (ad Ω (iS (σ 364 j).toNatClampNeg)) :: st)) : AtW M Γ Ω σ pc lv (.int i :: .ref (ad Ω 364) :: st) := by
  intro G H locs ls hP hS hl
  subst hi
  refine va_aldq G.1 G.2.1 G.2.2.2.2.2.1 hP 364 2 (C := RX3) (n := 4) (f := fun i => some (ad Ω (iS (σ 364 i).toNatClampNeg))) ((CW_get (by omega)).trans rfl) rfl (vp_in_nI hj (by omega)) hd ?_
  rw [nI_clamp (by omega)]
  exact kk G H locs ls hP hS hl
theorem r_aastS {i : Int32} (j : Nat) (hi : i = nI j) (hj : j < 4) (s : Nat) (hs : s < 7) (hd : decode (mB M) pc = .ok (.aastore, 1))
    (kk : AtW M Γ Ω (upS σ 364 j (nI s)) (pc + 1) lv st) : AtW M Γ Ω σ pc lv (.ref (ad Ω (iS s)) :: .int i :: .ref (ad Ω 364) :: st) := by
  intro G H locs ls hP hS hl
  subst hi
  refine va_astq G.1 G.2.1 G.2.2.2.2.2.1 hP (CW_D G.2.2.2.2.2.2.1) hS 364 2 (iS s) 3 (r := (RX3, TX3, 5)) (n := 4) (f := fun i => some (ad Ω (iS (σ 364 i).toNatClampNeg))) ((CW_get (by omega)).trans rfl) rfl ((CW_get (by unfold iS; omega)).trans (by rw [cel_sp hs])) rfl (vp_in_nI hj (by omega)) hd ?_
  rw [nI_clamp (by omega)]
  intro H1 locs1 hP1 _ hS1
  rw [CW_set (σ' := upS σ 364 j (nI s)) (fun j hj => up_ne hj) (by
    show Sum.inl _ = _
    rw [up_at]
    congr 7
    funext i
    unfold upd va_up
    by_cases h : i = j
    · simp only [h, if_true]
      rw [nI_clamp (by omega)]
    · simp only [h, if_false])] at hP1
  exact kk G H1 locs1 ls hP1 hS1 hl
theorem r_alenI (q0 : Nat) {n : Nat} {f : Nat → Int32} (hq : q0 < 371) (he : cel Ω σ q0 = .inl (Ω.2.1 0, n, .inl f)) (hd : decode (mB M) pc = .ok (.arraylength, 1))
    (kk : AtW M Γ Ω σ (pc + 1) lv (.int (nI n) :: st)) : AtW M Γ Ω σ pc lv (.ref (ad Ω q0) :: st) :=
  fun G H locs ls hP hS hl => va_alen G.1 G.2.1 G.2.2.2.2.2.1 hP q0 0 ((CW_get hq).trans (by rw [he])) (x := (n, .inl f)) (ty := .int) rfl rfl hd (kk G H locs ls hP hS hl)
end ROWS
/-! contracts -/
def Wpre (Ω : Om) (σ : Sg) (sz : Nat) (U : State) : Prop := U.heap.size = sz ∧ va_P Ω.1 vwCl (CW Ω σ) U.heap ∧ va_K Ω.1 vwCl (tysO Ω) U ∧ va_D (fun _ => True) (CW Ω Sz0)
def Qd (Ω : Om) (post : Option Value → Sg → Prop) (A : Nat → Prop) : Array Value → State → Outcome → State → Prop := fun _ st oc t => (∃ (rv : Option Value) (σ' : Sg), oc = .returned rv ∧ post rv σ' ∧ va_P Ω.1 vwCl (CW Ω σ') t.heap) ∧ va_F A st t
def aW (Ω : Om) (sz : Nat) : Nat → Prop := va_A (CW Ω Sz0) sz
/-- a method's contract: from the world at σ it returns, and 'post answer σ'' -/
def CtW (l : Launch) (y : MethodName) (ws : List Cond) (rm : Room) (Ω : Om) (av : List Value) (σ : Sg) (post : Option Value → Sg → Prop) : Prop := ∀ sz, Met l y ws rm (va_Pc av (Wpre Ω σ sz)) (Qd Ω post (aW Ω sz)) 0 0 (aW Ω sz)
def RetOk (Γ : GmW) (Ω : Om) (post : Option Value → Sg → Prop) : Prop := gQ Γ = MQ (gB Γ) (Qd Ω post (gA Γ)) (gAr Γ) (gSt Γ) (gN Γ).1 (gN Γ).2 (gA Γ)
theorem ct_intro {l : Launch} {y : MethodName} {ws ws' : List Cond} {rm : Room} {Ω : Om} {av : List Value} {σ : Sg} {post : Option Value → Sg → Prop} {cc : ByteArray} {maxL : Nat} {rt : Option FieldType} (lv0 : List (Option Value))
    (hy : plainName y.cls = true) (hw : ws = .code y cc maxL rt :: ws') (hlv : lvZ 0 lv0 = lv_args 0 av) (hlen : (lg_sl av).length ≤ maxL)
    (body : ∀ Γ : GmW, gL Γ = l → RetOk Γ Ω post → AtW (cc, y.cls, ws, maxL, rm, rt) Γ Ω σ 0 lv0 []) : CtW l y ws rm Ω av σ post := by
  intro sz
  refine Met.ofW (cc := cc) (maxL := maxL) (ret := rt) hy hw ?_
  intro p e s m args below meth c s₁ B hml hv
  obtain ⟨rfl, hsz, hP, hK, hD⟩ := hv
  subst hsz
  rw [lg_entry_eq]
  have hl := lv_entry av hlen
  have h := body (p, l, e, s, m, av.toArray, below, meth, c, MQ below (Qd Ω post (aW Ω s.heap.size)) av.toArray s 0 0 (aW Ω s.heap.size), (0, 0), aW Ω s.heap.size) rfl rfl
  refine h ⟨B.exec, B.bytes, hml, findClass_of_methodNamed B.named, atoms_spec B.pre, hK, hD.self, fun q hq => Or.inr hq, B.returns, B.notSynchronized, Nat.zero_le _, Nat.zero_le _⟩ s.heap [] _ hP va_S.rf ?_
  show lv_has _ _ (lvZ 0 lv0)
  rw [hlv]
  exact hl
section RETS
variable {M : MI} {Γ : GmW} {Ω : Om} {σ : Sg} {pc : Nat} {lv : List (Option Value)} {post : Option Value → Sg → Prop}
theorem r_iret {x : Int32} (hQ : RetOk Γ Ω post) (hT : mT M = some .int) (hd : decode (mB M) pc = .ok (.ireturn, 1)) (hp : post (some (.int x)) σ) : AtW M Γ Ω σ pc lv [.int x] := by
  intro G H locs ls hP hS hl
  rw [hQ]
  exact W.iret G.1 G.2.1 (by rw [← hT]; exact G.2.2.2.2.2.2.2.2.1) (fun t ht _ => ⟨⟨_, σ, rfl, hp, by rw [ht]; exact hP⟩, hS.F ht⟩) hS.2.2 hd G.2.2.2.2.2.2.2.2.2.1
theorem r_zret {x : Int32} (hQ : RetOk Γ Ω post) (hT : mT M = some .boolean) (hx : x = 0 ∨ x = 1) (hd : decode (mB M) pc = .ok (.ireturn, 1)) (hp : post (some (.int x)) σ) : AtW M Γ Ω σ pc lv [.int x] := by
  intro G H locs ls hP hS hl
  rw [hQ]
  exact W.zret G.1 G.2.1 (by rw [← hT]; exact G.2.2.2.2.2.2.2.2.1) (by rcases hx with rfl | rfl <;> rfl) (fun t ht _ => ⟨⟨_, σ, rfl, hp, by rw [ht]; exact hP⟩, hS.F ht⟩) hS.2.2 hd G.2.2.2.2.2.2.2.2.2.1
theorem r_cret {x : Int32} (hQ : RetOk Γ Ω post) (hT : mT M = some .char) (hx : narrow .char (.int x) = .int x) (hd : decode (mB M) pc = .ok (.ireturn, 1)) (hp : post (some (.int x)) σ) : AtW M Γ Ω σ pc lv [.int x] := by
  intro G H locs ls hP hS hl
  rw [hQ]
  exact W.zret G.1 G.2.1 (by rw [← hT]; exact G.2.2.2.2.2.2.2.2.1) hx (fun t ht _ => ⟨⟨_, σ, rfl, hp, by rw [ht]; exact hP⟩, hS.F ht⟩) hS.2.2 hd G.2.2.2.2.2.2.2.2.2.1
theorem r_aret {a : Nat} {C : String} (hQ : RetOk Γ Ω post) (hT : mT M = some (.object C)) (hd : decode (mB M) pc = .ok (.areturn, 1)) (hp : post (some (.ref a)) σ) : AtW M Γ Ω σ pc lv [.ref a] := by
  intro G H locs ls hP hS hl
  rw [hQ]
  exact W.aret G.1 G.2.1 (by rw [← hT]; exact G.2.2.2.2.2.2.2.2.1) (Or.inl ⟨_, rfl⟩) (Or.inr ⟨_, rfl⟩) (fun t ht _ => ⟨⟨_, σ, rfl, hp, by rw [ht]; exact hP⟩, hS.F ht⟩) hS.2.2 hd G.2.2.2.2.2.2.2.2.2.1
theorem r_vret (hQ : RetOk Γ Ω post) (hT : mT M = none) (hd : decode (mB M) pc = .ok (.return_, 1)) (hp : post none σ) : AtW M Γ Ω σ pc lv [] := by
  intro G H locs ls hP hS hl
  rw [hQ]
  exact W.vret G.1 G.2.1 (by rw [← hT]; exact G.2.2.2.2.2.2.2.2.1) (fun t ht _ => ⟨⟨_, σ, rfl, hp, by rw [ht]; exact hP⟩, hS.F ht⟩) hS.2.2 hd G.2.2.2.2.2.2.2.2.2.1
end RETS
/-! calls -/
theorem va_callC {p : Program} {l : Launch} {e : Env} {R : Room} {s : State} {m : MethodId} {args : Array Value} {below : List Frame} {meth : Method} {c : Code} {H : Heap} {locs : List Loc} {cells slots : Nat} {Q : State → Prop}
    {pc : Nat} {ls : Array Slot} {rest st0 : List Value} {a : Array Value} {A0 A1 : Nat → Prop} {H0 : Heap} {free : Addr → Prop} {Ω : Om} {post : Option Value → Sg → Prop}
    (hr : va_Run p l e R s m args below meth c H locs cells slots 0 0 (F0 m pc ls st0) rest (Qd Ω post A1 a) free) (hS : va_S A0 H0 H locs) (hA : ∀ q, q < H.size → A1 q → A0 q) (hf : ∀ q, free q → A0 q)
    (kk : ∀ (rv : Option Value) (σ' : Sg) (H1 : Heap) (locs1 : List Loc), post rv σ' → va_P Ω.1 vwCl (CW Ω σ') H1 → va_S A0 H0 H1 locs1 → W p l e R s m args below meth c H1 locs1 cells slots Q (F0 m (pc + 3) ls (rv.toList ++ rest))) : W p l e R s m args below meth c H locs cells slots Q (F0 m pc ls st0) := by
  intro T hT X
  obtain ⟨v, st₀, t, T', L, h0, X', hL, e1, e2, ⟨⟨rv, σ', hv, hp, hb⟩, hz, hk⟩, st⟩ := hr T hT X
  cases hv
  rw [h0] at hz hk
  obtain ⟨t2, a1, b1⟩ := kk v σ' T'.heap (locs ++ L) hp (by rw [e1]; exact hb)
    ⟨Nat.le_trans hS.1 (by rw [e1]; exact hz), fun q h1 h2 => by rw [e1, hk q (Nat.lt_of_lt_of_le h1 hS.1) (fun z => h2 (hA q (Nat.lt_of_lt_of_le h1 hS.1) z))]; exact hS.2.1 q h1 h2, fun q hq => by
      rcases List.mem_append.mp hq with h | h
      · exact hS.2.2 q h
      · exact hf _ (hL q h)⟩ T' rfl X'
  exact ⟨t2, st t2 a1, b1⟩
theorem aW_sub {Γ : GmW} {M : MI} {Ω : Om} {H : Heap} {locs : List Loc} (G : GdW M Γ Ω) (hS : va_S (gA Γ) (gSt Γ).heap H locs) : ∀ q, aW Ω H.size q → gA Γ q := by
  intro q h
  rcases h with ⟨k, e, h⟩ | h
  · exact G.2.2.2.2.2.2.1.2 k (q, e) h
  · exact G.2.2.2.2.2.2.2.1 q (Nat.le_trans hS.1 h)
theorem blindW {av : List Value} {Ω : Om} {σ : Sg} {sz : Nat} : FrameBlind (va_Pc av (Wpre Ω σ sz)) := by
  intro a U g mk q
  obtain ⟨h0, h1, h2, h3, h4⟩ := q
  exact ⟨h0, h1, h2, va_K.moved (u := U) (U := U.calling g mk a) (Vm.Alike.refl U.vm) h3, h4⟩
/-- what a call needs of the tables and the room, for a virtual and for a static one -/
def CoV (M : MI) (index : Nat) (C : String) (y : MethodName) (ws : List Cond) (rm : Room) (n : Nat) : Prop :=
  ∃ cc maxL rt ws', GoodIn (mW M) (wsV (mO M) index C y ws) ∧ ws = .code y cc maxL rt :: ws' ∧ (y.cls = C ∧ y.cls ≠ "java/lang/invoke/MethodHandle" ∧ y.cls ≠ "java/lang/invoke/VarHandle" ∧ (parseMethodDescriptor y.desc).map (fun d => d.parameters.length) = some n) ∧ (rm.frames + 1 ≤ (mR M).frames ∧ 8 + (maxL + 11) + rm.locals ≤ (mR M).locals) ∧ rm.cells = 0 ∧ rm.slots = 0
def CoS (M : MI) (index : Nat) (y : MethodName) (ws : List Cond) (rm : Room) (n : Nat) : Prop :=
  ∃ cc maxL rt ws', GoodIn (mW M) (va_wsS (mO M) index y ws) ∧ ws = .code y cc maxL rt :: ws' ∧ (y.cls ≠ "java/lang/invoke/MethodHandle" ∧ y.cls ≠ "java/lang/invoke/VarHandle" ∧ (parseMethodDescriptor y.desc).map (fun d => d.parameters.length) = some n) ∧ (rm.frames + 1 ≤ (mR M).frames ∧ 8 + (maxL + 11) + rm.locals ≤ (mR M).locals) ∧ rm.cells = 0 ∧ rm.slots = 0
section CALLS
variable {M : MI} {Γ : GmW} {Ω : Om} {σ : Sg} {pc : Nat} {lv : List (Option Value)} {st : List Value}
theorem r_callV {l : Launch} {y : MethodName} {ws : List Cond} {rm : Room} {C : String} {index n : Nat} {post : Option Value → Sg → Prop} (q0 : Nat) (As rest : List Value) (hL : gL Γ = l) (hC : CtW l y ws rm Ω (.ref (ad Ω q0) :: As) σ post) (hco : CoV M index C y ws rm n)
    (hq : q0 < 371) (hrecv : ∃ ci fs q, cel Ω σ q0 = .inr (ci, fs) ∧ vwCl[ci]? = some q ∧ q.1 = C) (hn : As.length = n) (hs : st = As.reverse ++ .ref (ad Ω q0) :: rest) (hc : (rest.map fun v => v.category).sum ≤ 8) (hd : decode (mB M) pc = .ok (.invokevirtual index, 3))
    (kk : ∀ (rv : Option Value) (σ' : Sg), post rv σ' → AtW M Γ Ω σ' (pc + 3) lv (rv.toList ++ rest)) : AtW M Γ Ω σ pc lv st := by
  intro G H locs ls hP hS hl
  subst hL
  obtain ⟨cc, maxL, rt, ws', g1, g2, g3, g4, g5, g6⟩ := hco
  obtain ⟨ci, fs, q, e1, e2, e3⟩ := hrecv
  subst hs
  have hrun := va_runV (rest := rest) (As := As) (b := ad Ω q0) (p := gP Γ) (l := gL Γ) (e := gE Γ) (R := mR M) (s := gSt Γ) (m := gM Γ) (args := gAr Γ) (below := gB Γ) (meth := gMe Γ) (c := gC Γ) (H := H) (locs := locs) (cells := (gN Γ).1) (slots := (gN Γ).2) (nL := mN M) (n := n) (bytes := cc) (maxL := maxL) (ret := rt) (g := F0 (gM Γ) pc ls (As.reverse ++ .ref (ad Ω q0) :: rest)) ⟨G.1, G.2.1, G.2.2.1, G.2.2.2.1, G.2.2.2.2.1⟩ (hC H.size) (cwV n G.2.2.2.2.1 g1 g2 g5 g6 g3 g4)
    ⟨blindW, by
      have hr := va_recv G.2.2.2.2.2.1 hP (ci := ci) (q0 := q0) (fs := fs) (a := ad Ω q0) e2 ((CW_get hq).trans (by rw [e1]))
      rw [e3] at hr
      exact hr, fun U hU hW => ⟨rfl, by rw [hU], by rw [hU]; exact hP, va_K.moved hW.alike G.2.2.2.2.2.1, G.2.2.2.2.2.2.1.weaken (fun _ _ _ _ => trivial)⟩⟩ rfl hn hl.1 rfl (lv_room hc) hd ⟨G.2.2.2.2.2.2.2.2.2.2.1, G.2.2.2.2.2.2.2.2.2.2.2⟩
  exact va_callC hrun hS (fun q _ h => aW_sub G hS q h) (aW_sub G hS) (fun rv σ' H1 locs1 h1 h2 h3 => kk rv σ' h1 G H1 locs1 ls h2 h3 hl)
theorem r_callS {l : Launch} {y : MethodName} {ws : List Cond} {rm : Room} {index n : Nat} {post : Option Value → Sg → Prop} (As rest : List Value) (hL : gL Γ = l) (hC : CtW l y ws rm Ω As σ post) (hco : CoS M index y ws rm n)
    (hn : As.length = n) (hs : st = As.reverse ++ rest) (hc : (rest.map fun v => v.category).sum ≤ 8) (hd : decode (mB M) pc = .ok (.invokestatic index, 3))
    (kk : ∀ (rv : Option Value) (σ' : Sg), post rv σ' → AtW M Γ Ω σ' (pc + 3) lv (rv.toList ++ rest)) : AtW M Γ Ω σ pc lv st := by
  intro G H locs ls hP hS hl
  subst hL
  obtain ⟨cc, maxL, rt, ws', g1, g2, g3, g4, g5, g6⟩ := hco
  subst hs
  have hrun := va_runS (rest := rest) (As := As) (p := gP Γ) (l := gL Γ) (e := gE Γ) (R := mR M) (s := gSt Γ) (m := gM Γ) (args := gAr Γ) (below := gB Γ) (meth := gMe Γ) (c := gC Γ) (H := H) (locs := locs) (cells := (gN Γ).1) (slots := (gN Γ).2) (nL := mN M) (n := n) (bytes := cc) (maxL := maxL) (ret := rt) (g := F0 (gM Γ) pc ls (As.reverse ++ rest)) ⟨G.1, G.2.1, G.2.2.1, G.2.2.2.1, G.2.2.2.2.1⟩ (hC H.size) (va_cwS n G.2.2.2.2.1 g1 g2 g5 g6 g3 g4)
    ⟨blindW, fun U hU hW => ⟨rfl, by rw [hU], by rw [hU]; exact hP, va_K.moved hW.alike G.2.2.2.2.2.1, G.2.2.2.2.2.2.1.weaken (fun _ _ _ _ => trivial)⟩⟩ rfl hn hl.1 rfl (lv_room hc) hd ⟨G.2.2.2.2.2.2.2.2.2.2.1, G.2.2.2.2.2.2.2.2.2.2.2⟩
  exact va_callC hrun hS (fun q _ h => aW_sub G hS q h) (aW_sub G hS) (fun rv σ' H1 locs1 h1 h2 h3 => kk rv σ' h1 G H1 locs1 ls h2 h3 hl)
end CALLS
/-! the three kinds of contract: an answer, the world as it was; no answer; an answer and another world -/
def roI (f : Int32) (σ : Sg) : Option Value → Sg → Prop := fun rv σ' => rv = some (.int f) ∧ σ' = σ
def reV (g : Sg → Prop) : Option Value → Sg → Prop := fun rv σ' => rv = none ∧ g σ'
def reJ (g : Int32 → Sg → Prop) : Option Value → Sg → Prop := fun rv σ' => ∃ x : Int32, rv = some (.int x) ∧ g x σ'
theorem roI_of {f x : Int32} {σ : Sg} (h : x = f) : roI f σ (some (.int x)) σ := ⟨by rw [h], rfl⟩
theorem reJ_of {g : Int32 → Sg → Prop} {x : Int32} {σ : Sg} (h : g x σ) : reJ g (some (.int x)) σ := ⟨x, rfl, h⟩
theorem reV_of {g : Sg → Prop} {σ : Sg} (h : g σ) : reV g none σ := ⟨rfl, h⟩
theorem iB_lt {b : Nat} (h : b < 113) : iBo b < 371 := by unfold iBo; omega
theorem iS_lt {s : Nat} (h : s < 7) : iS s < 371 := by unfold iS; omega
theorem iP_lt {p : Nat} (h : p < 2) : iP p < 371 := by unfold iP; omega
theorem iL_lt {b : Nat} (h : b < 113) : iL b < 371 := by unfold iL; omega
theorem iH_lt {b : Nat} (h : b < 113) : iH b < 371 := by unfold iH; omega
theorem iPA_lt {p j : Nat} (h : p < 2) (hj : j < 5) : iP p + j < 371 := by unfold iP; omega
def setA (σ : Sg) (k : Nat) (f : Nat → Int32) : Sg := fun k' => if k' = k then f else σ k'
section KINDS
variable {M : MI} {Γ : GmW} {Ω : Om} {σ : Sg} {pc : Nat} {lv : List (Option Value)} {st : List Value}

theorem r_callVI {l : Launch} {y : MethodName} {ws : List Cond} {rm : Room} {C : String} {index n : Nat} {f : Int32} (q0 : Nat) {As rest : List Value} (hL : gL Γ = l) (hC : CtW l y ws rm Ω (.ref (ad Ω q0) :: As) σ (roI f σ)) (hco : CoV M index C y ws rm n)
    (hq : q0 < 371) (hrecv : ∃ ci fs q, cel Ω σ q0 = .inr (ci, fs) ∧ vwCl[ci]? = some q ∧ q.1 = C) (hn : As.length = n) (hs : st = As.reverse ++ .ref (ad Ω q0) :: rest) (hc : (rest.map fun v => v.category).sum ≤ 8) (hd : decode (mB M) pc = .ok (.invokevirtual index, 3))
    (kk : AtW M Γ Ω σ (pc + 3) lv (.int f :: rest)) : AtW M Γ Ω σ pc lv st := r_callV q0 As rest hL hC hco hq hrecv hn hs hc hd (fun rv σ1 h => by obtain ⟨rfl, rfl⟩ := h; exact kk)
theorem r_callSI {l : Launch} {y : MethodName} {ws : List Cond} {rm : Room} {index n : Nat} {f : Int32} {As rest : List Value} (hL : gL Γ = l) (hC : CtW l y ws rm Ω As σ (roI f σ)) (hco : CoS M index y ws rm n)
    (hn : As.length = n) (hs : st = As.reverse ++ rest) (hc : (rest.map fun v => v.category).sum ≤ 8) (hd : decode (mB M) pc = .ok (.invokestatic index, 3))
    (kk : AtW M Γ Ω σ (pc + 3) lv (.int f :: rest)) : AtW M Γ Ω σ pc lv st := r_callS As rest hL hC hco hn hs hc hd (fun rv σ1 h => by obtain ⟨rfl, rfl⟩ := h; exact kk)
theorem r_callVV {l : Launch} {y : MethodName} {ws : List Cond} {rm : Room} {C : String} {index n : Nat} {g : Sg → Prop} (q0 : Nat) {As rest : List Value} (hL : gL Γ = l) (hC : CtW l y ws rm Ω (.ref (ad Ω q0) :: As) σ (reV g)) (hco : CoV M index C y ws rm n)
    (hq : q0 < 371) (hrecv : ∃ ci fs q, cel Ω σ q0 = .inr (ci, fs) ∧ vwCl[ci]? = some q ∧ q.1 = C) (hn : As.length = n) (hs : st = As.reverse ++ .ref (ad Ω q0) :: rest) (hc : (rest.map fun v => v.category).sum ≤ 8) (hd : decode (mB M) pc = .ok (.invokevirtual index, 3))
    (kk : ∀ σ1 : Sg, g σ1 → AtW M Γ Ω σ1 (pc + 3) lv rest) : AtW M Γ Ω σ pc lv st := r_callV q0 As rest hL hC hco hq hrecv hn hs hc hd (fun rv σ1 h => by obtain ⟨rfl, h⟩ := h; exact kk _ h)
theorem r_callSV {l : Launch} {y : MethodName} {ws : List Cond} {rm : Room} {index n : Nat} {g : Sg → Prop} {As rest : List Value} (hL : gL Γ = l) (hC : CtW l y ws rm Ω As σ (reV g)) (hco : CoS M index y ws rm n)
    (hn : As.length = n) (hs : st = As.reverse ++ rest) (hc : (rest.map fun v => v.category).sum ≤ 8) (hd : decode (mB M) pc = .ok (.invokestatic index, 3))
    (kk : ∀ σ1 : Sg, g σ1 → AtW M Γ Ω σ1 (pc + 3) lv rest) : AtW M Γ Ω σ pc lv st := r_callS As rest hL hC hco hn hs hc hd (fun rv σ1 h => by obtain ⟨rfl, h⟩ := h; exact kk _ h)
theorem r_callVJ {l : Launch} {y : MethodName} {ws : List Cond} {rm : Room} {C : String} {index n : Nat} {g : Int32 → Sg → Prop} (q0 : Nat) {As rest : List Value} (hL : gL Γ = l) (hC : CtW l y ws rm Ω (.ref (ad Ω q0) :: As) σ (reJ g)) (hco : CoV M index C y ws rm n)
    (hq : q0 < 371) (hrecv : ∃ ci fs q, cel Ω σ q0 = .inr (ci, fs) ∧ vwCl[ci]? = some q ∧ q.1 = C) (hn : As.length = n) (hs : st = As.reverse ++ .ref (ad Ω q0) :: rest) (hc : (rest.map fun v => v.category).sum ≤ 8) (hd : decode (mB M) pc = .ok (.invokevirtual index, 3))
    (kk : ∀ (x : Int32) (σ1 : Sg), g x σ1 → AtW M Γ Ω σ1 (pc + 3) lv (.int x :: rest)) : AtW M Γ Ω σ pc lv st := r_callV q0 As rest hL hC hco hq hrecv hn hs hc hd (fun rv σ1 h => by obtain ⟨x, rfl, h⟩ := h; exact kk x _ h)
theorem r_callSJ {l : Launch} {y : MethodName} {ws : List Cond} {rm : Room} {index n : Nat} {g : Int32 → Sg → Prop} {As rest : List Value} (hL : gL Γ = l) (hC : CtW l y ws rm Ω As σ (reJ g)) (hco : CoS M index y ws rm n)
    (hn : As.length = n) (hs : st = As.reverse ++ rest) (hc : (rest.map fun v => v.category).sum ≤ 8) (hd : decode (mB M) pc = .ok (.invokestatic index, 3))
    (kk : ∀ (x : Int32) (σ1 : Sg), g x σ1 → AtW M Γ Ω σ1 (pc + 3) lv (.int x :: rest)) : AtW M Γ Ω σ pc lv st := r_callS As rest hL hC hco hn hs hc hd (fun rv σ1 h => by obtain ⟨x, rfl, h⟩ := h; exact kk x _ h)
theorem r_mmax (index : Nat) (h1 : Cond.methodLink (mO M) index Lib.Math.max.name ∈ mW M) (h2 : Cond.static Lib.Math.max.name ∈ mW M) (h3 : Cond.initialized "java/lang/Math" ∈ mW M) (h4 : Cond.code Lib.Math.max.name Lib.Math.max.code 2 (some .int) ∈ mW M) (h5 : 1 ≤ (mR M).frames) (h6 : (st.map fun v => v.category).sum + 13 ≤ (mR M).locals) {x y : Int32} (hd : decode (mB M) pc = .ok (.invokestatic index, 3))
    (kk : AtW M Γ Ω σ (pc + 3) lv (.int (if x < y then y else x) :: st)) : AtW M Γ Ω σ pc lv (.int y :: .int x :: st) :=
  fun G H locs ls hP hS hl => va_mmax G.1 G.2.1 (G.2.2.1.trans hl.1.symm) G.2.2.2.1 (G.2.2.2.2.1 _ h1) (G.2.2.2.2.1 _ h2) (G.2.2.2.2.1 _ h3) (G.2.2.2.2.1 _ h4) h5 h6 G.2.2.2.2.2.2.2.2.2.2.1 G.2.2.2.2.2.2.2.2.2.2.2 hd (kk G H locs ls hP hS hl)
theorem r_copy (index : Nat) (h1 : Cond.methodLink (mO M) index arraycopyName ∈ mW M) (h2 : Cond.native arraycopyName ∈ mW M) (h3 : Cond.static arraycopyName ∈ mW M) (h4 : Cond.initialized "java/lang/System" ∈ mW M) (q0 q1 n0 n1 n : Nat) (hq0 : q0 < 371) (hq1 : q1 < 371) (he0 : cel Ω σ q0 = .inl (Ω.2.1 0, n0, .inl (σ q0))) (he1 : ∀ σ : Sg, cel Ω σ q1 = .inl (Ω.2.1 0, n1, .inl (σ q1))) (hn0 : n ≤ n0) (hn1 : n ≤ n1) (hn : n < 100)
    (h5 : 1 ≤ (mR M).frames) (h6 : (st.map fun v => v.category).sum + (nativeFrameWords "java/lang/System" "arraycopy" 5 + 11) ≤ (mR M).locals) {z : Int32} (hz : z = nI n) (hd : decode (mB M) pc = .ok (.invokestatic index, 3))
    (kk : AtW M Γ Ω (setA σ q1 (va_cpy (σ q0) (σ q1) 0 0 n)) (pc + 3) lv st) : AtW M Γ Ω σ pc lv (.int z :: .int 0 :: .ref (ad Ω q1) :: .int 0 :: .ref (ad Ω q0) :: st) := by
  intro G H locs ls hP hS hl
  subst hz
  have e0 : (0 : Int32).toNatClampNeg = 0 := rfl
  have en : (nI n).toNatClampNeg = n := nI_clamp (by omega)
  have hn0' : ¬ nI n < 0 := nI_pos (by omega)
  refine va_copyi (ty := .int) G.1 G.2.1 (G.2.2.1.trans hl.1.symm) G.2.2.2.1 (G.2.2.2.2.1 _ h1) (G.2.2.2.2.1 _ h2) (G.2.2.2.2.1 _ h3) (G.2.2.2.2.1 _ h4) G.2.2.2.2.2.1 hP (CW_D G.2.2.2.2.2.2.1) hS q0 q1 0 0 (f := σ q0) (g := σ q1) ((CW_get hq0).trans (by rw [he0])) ((CW_get hq1).trans (by rw [he1])) rfl rfl rfl (by decide) (by decide) hn0' (by rw [e0, en]; omega) (by rw [e0, en]; omega) (fun _ _ => rfl) h5 h6 hd ?_
  intro H1 locs1 hP1 _ hS1
  rw [e0, en, CW_set (σ' := setA σ q1 (va_cpy (σ q0) (σ q1) 0 0 n)) (fun j hj => by simp [setA, hj]) (by rw [he1]; simp [setA])] at hP1
  exact kk G H1 locs1 ls hP1 hS1 hl
end KINDS
