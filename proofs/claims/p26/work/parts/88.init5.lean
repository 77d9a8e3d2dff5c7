/-! the class's own constructor -/
/-- all cells of the class as it was made: itself, seven spaces, the history, the text, two pictures, a box -/
def gMa (Ω : Om) (q : Nat) (S0 S1 S2 : SpA) (h a : Nat) (S : Nat → SpA) (t t1 t2 p p1 p2 p3 p4 r r1 r2 r3 r4 b b1 b2 : Nat) : va_W := (q, .inr (5, [.ref S0.1, .ref S1.1, .ref S2.1, .int 0, .ref h, .ref t, .ref p, .ref r, .ref b])) :: (((((((gSp Ω S0.1 S0.2.1 S0.2.2 ++ gSp Ω S1.1 S1.2.1 S1.2.2) ++ gSp Ω S2.1 S2.2.1 S2.2.2) ++ gHi Ω h a S) ++ gTx Ω t t1 t2) ++ gPi Ω p p1 p2 p3 p4) ++ gPi Ω r r1 r2 r3 r4) ++ gBx Ω b b1 b2)
abbrev mX5_init : MI := (cX5_init, RX5, wsX5_init, 1, rmN 4 120 368 1437, none)
theorem jX5_init : ∀ w ∈ wsX50, w ∈ mW mX5_init := by decide +kernel
theorem lX5_init_10 : Cond.fieldLink (mO mX5_init) 10 (TX5 0).1 (TX5 0).2.1 (TX5 0).2.2.1 ∈ mW mX5_init := by decide +kernel
theorem lX5_init_16 : Cond.fieldLink (mO mX5_init) 16 (TX5 1).1 (TX5 1).2.1 (TX5 1).2.2.1 ∈ mW mX5_init := by decide +kernel
theorem lX5_init_19 : Cond.fieldLink (mO mX5_init) 19 (TX5 2).1 (TX5 2).2.1 (TX5 2).2.2.1 ∈ mW mX5_init := by decide +kernel
theorem lX5_init_25 : Cond.fieldLink (mO mX5_init) 25 (TX5 4).1 (TX5 4).2.1 (TX5 4).2.2.1 ∈ mW mX5_init := by decide +kernel
theorem lX5_init_32 : Cond.fieldLink (mO mX5_init) 32 (TX5 5).1 (TX5 5).2.1 (TX5 5).2.2.1 ∈ mW mX5_init := by decide +kernel
theorem lX5_init_39 : Cond.fieldLink (mO mX5_init) 39 (TX5 6).1 (TX5 6).2.1 (TX5 6).2.2.1 ∈ mW mX5_init := by decide +kernel
theorem lX5_init_43 : Cond.fieldLink (mO mX5_init) 43 (TX5 7).1 (TX5 7).2.1 (TX5 7).2.2.1 ∈ mW mX5_init := by decide +kernel
theorem lX5_init_49 : Cond.fieldLink (mO mX5_init) 49 (TX5 8).1 (TX5 8).2.1 (TX5 8).2.2.1 ∈ mW mX5_init := by decide +kernel
theorem lX5_init_53 : Cond.fieldLink (mO mX5_init) 53 (TX5 3).1 (TX5 3).2.1 (TX5 3).2.2.1 ∈ mW mX5_init := by decide +kernel
theorem qX5_init_X3 : NwT mX5_init 7 RX3 TX3 5 3 tyX3 [.null, .int 0, .int 0, .int 0, .int 0] := ⟨by decide +kernel, tyX3_ok, by decide +kernel, by decide +kernel, by decide +kernel, rfl, fun j hj => by rcases (show j = 0 ∨ j = 1 ∨ j = 2 ∨ j = 3 ∨ j = 4 by omega) with rfl | rfl | rfl | rfl | rfl <;> rfl⟩
theorem uX5_init_X3 : NwI mX5_init yX3_init wsX3_init (rmN 2 40 49 160) 49 160 := ⟨cX3_init, 2, _, gX5_init_X3_init, rfl, rfl, rfl, by decide +kernel, by decide +kernel, rfl, by decide +kernel, ⟨Nat.le_of_ble_eq_true rfl, Nat.le_of_ble_eq_true rfl⟩⟩
theorem qX5_init_X1 : NwT mX5_init 22 RX1 TX1 2 1 tyX1 [.null, .int 0] := ⟨by decide +kernel, tyX1_ok, by decide +kernel, by decide +kernel, by decide +kernel, rfl, fun j hj => by rcases (show j = 0 ∨ j = 1 by omega) with rfl | rfl <;> rfl⟩
theorem uX5_init_X1 : NwI mX5_init yX1_init wsX1_init (rmN 3 80 201 664) 201 664 := ⟨cX1_init, 2, _, gX5_init_X1_init, rfl, rfl, rfl, by decide +kernel, by decide +kernel, rfl, by decide +kernel, ⟨Nat.le_of_ble_eq_true rfl, Nat.le_of_ble_eq_true rfl⟩⟩
theorem qX5_init_X4 : NwT mX5_init 29 RX4 TX4 4 4 tyX4 [.null, .int 0, .null, .int 0] := ⟨by decide +kernel, tyX4_ok, by decide +kernel, by decide +kernel, by decide +kernel, rfl, fun j hj => by rcases (show j = 0 ∨ j = 1 ∨ j = 2 ∨ j = 3 by omega) with rfl | rfl | rfl | rfl <;> rfl⟩
theorem uX5_init_X4 : NwI mX5_init yX4_init wsX4_init (rmN 1 12 2 121) 2 121 := ⟨cX4_init, 1, _, gX5_init_X4_init_n31, rfl, rfl, rfl, by decide +kernel, by decide +kernel, rfl, by decide +kernel, ⟨Nat.le_of_ble_eq_true rfl, Nat.le_of_ble_eq_true rfl⟩⟩
theorem qX5_init_X2 : NwT mX5_init 36 RX2 TX2 7 2 tyX2 [.int 0, .null, .null, .null, .int 0, .int 0, .null] := ⟨by decide +kernel, tyX2_ok, by decide +kernel, by decide +kernel, by decide +kernel, rfl, fun j hj => by rcases (show j = 0 ∨ j = 1 ∨ j = 2 ∨ j = 3 ∨ j = 4 ∨ j = 5 ∨ j = 6 by omega) with rfl | rfl | rfl | rfl | rfl | rfl | rfl <;> rfl⟩
theorem uX5_init_X2 : NwI mX5_init yX2_init wsX2_init (rmN 1 12 4 64) 4 64 := ⟨cX2_init, 1, _, gX5_init_X2_init_n38, rfl, rfl, rfl, by decide +kernel, by decide +kernel, rfl, by decide +kernel, ⟨Nat.le_of_ble_eq_true rfl, Nat.le_of_ble_eq_true rfl⟩⟩
theorem qX5_init_X0 : NwT mX5_init 46 RX0 TX0 3 0 tyX0 [.int 0, .null, .null] := ⟨by decide +kernel, tyX0_ok, by decide +kernel, by decide +kernel, by decide +kernel, rfl, fun j hj => by rcases (show j = 0 ∨ j = 1 ∨ j = 2 by omega) with rfl | rfl | rfl <;> rfl⟩
theorem uX5_init_X0 : NwI mX5_init yX0_init wsX0_init (rmN 1 12 2 6) 2 6 := ⟨cX0_init, 1, _, gX5_init_X0_init_n48, rfl, rfl, rfl, by decide +kernel, by decide +kernel, rfl, by decide +kernel, ⟨Nat.le_of_ble_eq_true rfl, Nat.le_of_ble_eq_true rfl⟩⟩
set_option maxRecDepth 20000 in
theorem ciX5 (l : Launch) (Ω : Om) (q : Nat) : CiW l yX5_init wsX5_init (rmN 4 120 368 1437) Ω q [(q, .inr (5, [.null, .null, .null, .int 0, .null, .null, .null, .null, .null]))] 368 1437 (fun w => ∃ S0 S1 S2 h a S t t1 t2 p p1 p2 p3 p4 r r1 r2 r3 r4 b b1 b2, w = gMa Ω q S0 S1 S2 h a S t t1 t2 p p1 p2 p3 p4 r r1 r2 r3 r4 b b1 b2) := by
  refine ci_intro (cc := cX5_init) (maxL := 1) [some (.ref q)] (by decide +kernel) rfl rfl rfl (by decide) (fun Γ hL hini hQ => ?_)
  refine n_aload_n dX5_init_0 rfl ?_
  refine n_obj (M := mX5_init) (by decide +kernel) (by decide +kernel) (by decide +kernel) (Nat.le_of_ble_eq_true rfl) (Nat.le_of_ble_eq_true rfl) dX5_init_1 ?_
  refine n_aload_n dX5_init_4 rfl ?_
  refine n_newI (st := [.ref q]) hL (fun q => ciX3 l Ω q) qX5_init_X3 uX5_init_X3 (by decide +kernel) (Nat.le_of_ble_eq_true rfl) (Nat.le_of_ble_eq_true rfl) (Nat.le_of_ble_eq_true rfl) dX5_init_5 dX5_init_8 dX5_init_9 (fun q0 w hw => ?_)
  obtain ⟨a0, F0, rfl⟩ := hw
  refine n_putF (ty := .object RX3) 0 rfl rfl 0 (by decide) jX5_init tyX5 tyX5_ok nmX5 lX5_init_10 rfl rfl hini (by decide +kernel) rfl rfl (Nat.le_of_ble_eq_true rfl) dX5_init_12 ?_
  refine nw_eq (ws' := (q, .inr (5, [.ref q0, .null, .null, .int 0, .null, .null, .null, .null, .null])) :: gSp Ω q0 a0 F0) rfl ?_
  refine n_aload_n dX5_init_15 rfl ?_
  refine n_newI (st := [.ref q]) hL (fun q => ciX3 l Ω q) qX5_init_X3 uX5_init_X3 (by decide +kernel) (Nat.le_of_ble_eq_true rfl) (Nat.le_of_ble_eq_true rfl) (Nat.le_of_ble_eq_true rfl) dX5_init_16 dX5_init_19 dX5_init_20 (fun q1 w hw => ?_)
  obtain ⟨a1, F1, rfl⟩ := hw
  refine n_putF (ty := .object RX3) 0 rfl rfl 1 (by decide) jX5_init tyX5 tyX5_ok nmX5 lX5_init_16 rfl rfl hini (by decide +kernel) rfl rfl (Nat.le_of_ble_eq_true rfl) dX5_init_23 ?_
  refine nw_eq (ws' := (q, .inr (5, [.ref q0, .ref q1, .null, .int 0, .null, .null, .null, .null, .null])) :: (gSp Ω q0 a0 F0 ++ gSp Ω q1 a1 F1)) rfl ?_
  refine n_aload_n dX5_init_26 rfl ?_
  refine n_newI (st := [.ref q]) hL (fun q => ciX3 l Ω q) qX5_init_X3 uX5_init_X3 (by decide +kernel) (Nat.le_of_ble_eq_true rfl) (Nat.le_of_ble_eq_true rfl) (Nat.le_of_ble_eq_true rfl) dX5_init_27 dX5_init_30 dX5_init_31 (fun q2 w hw => ?_)
  obtain ⟨a2, F2, rfl⟩ := hw
  refine n_putF (ty := .object RX3) 0 rfl rfl 2 (by decide) jX5_init tyX5 tyX5_ok nmX5 lX5_init_19 rfl rfl hini (by decide +kernel) rfl rfl (Nat.le_of_ble_eq_true rfl) dX5_init_34 ?_
  refine nw_eq (ws' := (q, .inr (5, [.ref q0, .ref q1, .ref q2, .int 0, .null, .null, .null, .null, .null])) :: ((gSp Ω q0 a0 F0 ++ gSp Ω q1 a1 F1) ++ gSp Ω q2 a2 F2)) rfl ?_
  refine n_aload_n dX5_init_37 rfl ?_
  refine n_newI (st := [.ref q]) hL (fun q => ciX1 l Ω q) qX5_init_X1 uX5_init_X1 (by decide +kernel) (Nat.le_of_ble_eq_true rfl) (Nat.le_of_ble_eq_true rfl) (Nat.le_of_ble_eq_true rfl) dX5_init_38 dX5_init_41 dX5_init_42 (fun h w hw => ?_)
  obtain ⟨a, S, rfl⟩ := hw
  refine n_putF (ty := .object RX1) 0 rfl rfl 4 (by decide) jX5_init tyX5 tyX5_ok nmX5 lX5_init_25 rfl rfl hini (by decide +kernel) rfl rfl (Nat.le_of_ble_eq_true rfl) dX5_init_45 ?_
  refine nw_eq (ws' := (q, .inr (5, [.ref q0, .ref q1, .ref q2, .int 0, .ref h, .null, .null, .null, .null])) :: (((gSp Ω q0 a0 F0 ++ gSp Ω q1 a1 F1) ++ gSp Ω q2 a2 F2) ++ gHi Ω h a S)) rfl ?_
  refine n_aload_n dX5_init_48 rfl ?_
  refine n_newN (st := [.ref q]) hL (fun q => ciX4 l Ω q) qX5_init_X4 uX5_init_X4 (fun U hU => hU.2.2.1) (Nat.le_of_ble_eq_true rfl) (Nat.le_of_ble_eq_true rfl) (Nat.le_of_ble_eq_true rfl) dX5_init_49 dX5_init_52 dX5_init_53 (fun t w hw => ?_)
  obtain ⟨t1, t2, rfl⟩ := hw
  refine n_putF (ty := .object RX4) 0 rfl rfl 5 (by decide) jX5_init tyX5 tyX5_ok nmX5 lX5_init_32 rfl rfl hini (by decide +kernel) rfl rfl (Nat.le_of_ble_eq_true rfl) dX5_init_56 ?_
  refine nw_eq (ws' := (q, .inr (5, [.ref q0, .ref q1, .ref q2, .int 0, .ref h, .ref t, .null, .null, .null])) :: ((((gSp Ω q0 a0 F0 ++ gSp Ω q1 a1 F1) ++ gSp Ω q2 a2 F2) ++ gHi Ω h a S) ++ gTx Ω t t1 t2)) rfl ?_
  refine n_aload_n dX5_init_59 rfl ?_
  refine n_newN (st := [.ref q]) hL (fun q => ciX2 l Ω q) qX5_init_X2 uX5_init_X2 (fun U hU => hU.2.2.2.1) (Nat.le_of_ble_eq_true rfl) (Nat.le_of_ble_eq_true rfl) (Nat.le_of_ble_eq_true rfl) dX5_init_60 dX5_init_63 dX5_init_64 (fun p w hw => ?_)
  obtain ⟨p1, p2, p3, p4, rfl⟩ := hw
  refine n_putF (ty := .object RX2) 0 rfl rfl 6 (by decide) jX5_init tyX5 tyX5_ok nmX5 lX5_init_39 rfl rfl hini (by decide +kernel) rfl rfl (Nat.le_of_ble_eq_true rfl) dX5_init_67 ?_
  refine nw_eq (ws' := (q, .inr (5, [.ref q0, .ref q1, .ref q2, .int 0, .ref h, .ref t, .ref p, .null, .null])) :: (((((gSp Ω q0 a0 F0 ++ gSp Ω q1 a1 F1) ++ gSp Ω q2 a2 F2) ++ gHi Ω h a S) ++ gTx Ω t t1 t2) ++ gPi Ω p p1 p2 p3 p4)) rfl ?_
  refine n_aload_n dX5_init_70 rfl ?_
  refine n_newN (st := [.ref q]) hL (fun q => ciX2 l Ω q) qX5_init_X2 uX5_init_X2 (fun U hU => hU.2.2.2.1) (Nat.le_of_ble_eq_true rfl) (Nat.le_of_ble_eq_true rfl) (Nat.le_of_ble_eq_true rfl) dX5_init_71 dX5_init_74 dX5_init_75 (fun r w hw => ?_)
  obtain ⟨r1, r2, r3, r4, rfl⟩ := hw
  refine n_putF (ty := .object RX2) 0 rfl rfl 7 (by decide) jX5_init tyX5 tyX5_ok nmX5 lX5_init_43 rfl rfl hini (by decide +kernel) rfl rfl (Nat.le_of_ble_eq_true rfl) dX5_init_78 ?_
  refine nw_eq (ws' := (q, .inr (5, [.ref q0, .ref q1, .ref q2, .int 0, .ref h, .ref t, .ref p, .ref r, .null])) :: ((((((gSp Ω q0 a0 F0 ++ gSp Ω q1 a1 F1) ++ gSp Ω q2 a2 F2) ++ gHi Ω h a S) ++ gTx Ω t t1 t2) ++ gPi Ω p p1 p2 p3 p4) ++ gPi Ω r r1 r2 r3 r4)) rfl ?_
  refine n_aload_n dX5_init_81 rfl ?_
  refine n_newN (st := [.ref q]) hL (fun q => ciX0 l Ω q) qX5_init_X0 uX5_init_X0 (fun U hU => hU.2.2.2.2.1) (Nat.le_of_ble_eq_true rfl) (Nat.le_of_ble_eq_true rfl) (Nat.le_of_ble_eq_true rfl) dX5_init_82 dX5_init_85 dX5_init_86 (fun b w hw => ?_)
  obtain ⟨b1, b2, rfl⟩ := hw
  refine n_putF (ty := .object RX0) 0 rfl rfl 8 (by decide) jX5_init tyX5 tyX5_ok nmX5 lX5_init_49 rfl rfl hini (by decide +kernel) rfl rfl (Nat.le_of_ble_eq_true rfl) dX5_init_89 ?_
  refine nw_eq (ws' := (q, .inr (5, [.ref q0, .ref q1, .ref q2, .int 0, .ref h, .ref t, .ref p, .ref r, .ref b])) :: (((((((gSp Ω q0 a0 F0 ++ gSp Ω q1 a1 F1) ++ gSp Ω q2 a2 F2) ++ gHi Ω h a S) ++ gTx Ω t t1 t2) ++ gPi Ω p p1 p2 p3 p4) ++ gPi Ω r r1 r2 r3 r4) ++ gBx Ω b b1 b2)) rfl ?_
  refine n_aload_n dX5_init_92 rfl ?_
  refine n_iconst 0 dX5_init_93 (by decide) ?_
  refine n_put (ty := .boolean) 0 rfl rfl 3 (by decide) jX5_init tyX5 tyX5_ok nmX5 lX5_init_53 rfl (by decide +kernel) rfl rfl (Nat.le_of_ble_eq_true rfl) dX5_init_94 ?_
  refine nw_eq (ws' := (q, .inr (5, [.ref q0, .ref q1, .ref q2, .int 0, .ref h, .ref t, .ref p, .ref r, .ref b])) :: (((((((gSp Ω q0 a0 F0 ++ gSp Ω q1 a1 F1) ++ gSp Ω q2 a2 F2) ++ gHi Ω h a S) ++ gTx Ω t t1 t2) ++ gPi Ω p p1 p2 p3 p4) ++ gPi Ω r r1 r2 r3 r4) ++ gBx Ω b b1 b2)) rfl ?_
  exact n_vret hQ rfl (Nat.le_of_ble_eq_true rfl) (Nat.le_of_ble_eq_true rfl) dX5_init_97 ⟨(q0, a0, F0), (q1, a1, F1), (q2, a2, F2), h, a, S, t, t1, t2, p, p1, p2, p3, p4, r, r1, r2, r3, r4, b, b1, b2, rfl⟩
