set_option maxRecDepth 100000 in
set_option maxHeartbeats 4000000 in
theorem ctX6_restore (l : Launch) (Ω : Om) (σ : Sg) (S : StV) (h : isMd σ S) : CtW l yX6_restore wsX6_restore (rmD 1) Ω [.ref (ad Ω 369)] σ (reJ (fun r σ1 => okMd σ (oRestore S) r σ1)) := by
  refine ct_intro [some (.ref (ad Ω 369)), none] (by decide) rfl rfl (Nat.le_of_ble_eq_true rfl) (fun Γ hL hQ => ?_)
  show AtW mX6_restore Γ Ω σ 0 [some (.ref (ad Ω 369)), none] []
  have hz := h.1
  have hn := h.1.1
  have hz0 := h.1.2.1
  refine r_aload_n dX6_restore_0 rfl ?_
  refine fX6_5 jX6_restore_X6 lX6_restore_106 dX6_restore_1 ?_
  refine r_if_ne 10 dX6_restore_4 (by decide) (fun c4 => ?_) (fun c4 => ?_)
  ·
    obtain ⟨w, ew, hw⟩ := snM_some h.2.2.1 c4
    refine r_aload_n dX6_restore_10 rfl ?_
    refine r_aload_n dX6_restore_11 rfl ?_
    refine fX6_0 jX6_restore_X6 lX6_restore_7 dX6_restore_12 ?_
    refine r_callVV (369) hL (ctX6_push l Ω _ S h.2.1 h.1) kX6_restore_110 (by omega) ⟨_, _, _, rfl, rfl, rfl⟩ rfl rfl (Nat.le_of_ble_eq_true rfl) dX6_restore_15 ?_
    intro σ1 hσ1
    refine r_iconst 0 dX6_restore_18 (by decide) ?_
    refine r_istore_n dX6_restore_19 (by decide) rfl ?_
    have L1 : ∀ (N : Nat) (k : Nat), k ≤ 116 → 116 < k + N → AtW mX6_restore Γ Ω (cpyA σ1 370 373 k) 20 [some (.ref (ad Ω 369)), some (.int (nI k))] [] := by
      intro N
      induction N with
      | zero =>
        intro k hk hN
        exact absurd hN (by omega)
      | succ N ih =>
        intro k hk hN
        refine r_iload_n dX6_restore_20 rfl ?_
        refine r_bipush 116 dX6_restore_21 (by decide) ?_
        refine r_icmp_ge 44 dX6_restore_23 (by decide) (fun c23 => ?_) (fun c23 => ?_)
        ·
          replace c23 := Int32.not_lt.mpr c23
          have n23 := Nat.not_lt.mp (fun q => c23 ((nI_ltI (a := k) (b := 116) (by omega) (by omega)).mpr q))
          have ek : k = 116 := by omega
          subst ek
          have hz2 : isZ (cpyA σ1 370 373 116 370) w := cpyA_z (by rw [hσ1.2.1 373 (by omega) (by omega)]; exact hw)
          refine r_aload_n dX6_restore_44 rfl ?_
          refine fX6_0 jX6_restore_X6 lX6_restore_7 dX6_restore_45 ?_
          refine r_iconst 0 dX6_restore_48 (by decide) ?_
          refine ldM370 0 rfl (by omega) dX6_restore_49 ?_
          rw [hz2.2.1]
          exact r_iret hQ rfl dX6_restore_50 (reJ_of (push_z h hσ1 (fun q hq => cpyA_ne hq) hz2 (by rw [oRestore, ew])))
        ·
          replace c23 := Int32.not_le.mp c23
          have n23 := (nI_ltI (a := k) (b := 116) (by omega) (by omega)).mp c23
          refine r_aload_n dX6_restore_26 rfl ?_
          refine fX6_0 jX6_restore_X6 lX6_restore_7 dX6_restore_27 ?_
          refine r_iload_n dX6_restore_30 rfl ?_
          refine r_aload_n dX6_restore_31 rfl ?_
          refine fX6_4 jX6_restore_X6 lX6_restore_19 dX6_restore_32 ?_
          refine r_iload_n dX6_restore_35 rfl ?_
          refine ldM373 k rfl (by omega) dX6_restore_36 ?_
          refine stM370 k rfl (by omega) dX6_restore_37 ?_
          refine r_iinc (nI (k + 1)) dX6_restore_38 rfl (nI_1 k) (by decide) rfl ?_
          refine r_goto 20 dX6_restore_41 (by decide) ?_
          rw [show cpyA σ1 370 373 k 373 = σ1 373 from cpyA_ne (by omega), cpyA_s]; exact ih (k + 1) (by omega) (by omega)
    rw [← cpyA_0 σ1 370 373]
    have hw2 : isZ (σ1 373) w := by rw [hσ1.2.1 373 (by omega) (by omega)]; exact hw
    exact L1 117 0 (by omega) (by omega)
  ·
    refine r_bipush (-5) dX6_restore_7 (by decide) ?_
    exact r_iret hQ rfl dX6_restore_9 (reJ_of (okMd_of (by rw [oRestore, snM_none h.2.2.1 c4]) h (keepLw_rfl σ)))

set_option maxRecDepth 100000 in
set_option maxHeartbeats 4000000 in
theorem ctX6_tryBox (l : Launch) (Ω : Om) (σ : Sg) (v : SpV) (hz : isZ (σ 370) v) (x y z a b c : Int32) : CtW l yX6_tryBox wsX6_tryBox (rmD 3) Ω [.ref (ad Ω 369), .int x, .int y, .int z, .int a, .int b, .int c] σ (roI (tbA v x y z a b c) σ) := by
  refine ct_intro [some (.ref (ad Ω 369)), some (.int x), some (.int y), some (.int z), some (.int a), some (.int b), some (.int c), none, none, none, none] (by decide) rfl rfl (Nat.le_of_ble_eq_true rfl) (fun Γ hL hQ => ?_)
  show AtW mX6_tryBox Γ Ω σ 0 [some (.ref (ad Ω 369)), some (.int x), some (.int y), some (.int z), some (.int a), some (.int b), some (.int c), none, none, none, none] []
  have hn := hz.1
  have hz0 := hz.2.1
  have J7 : ∀ (f : Bool) (hf : f = (inW x 0 31 && inW y 0 31 && inW z 0 31)), AtW mX6_tryBox Γ Ω σ 40 [some (.ref (ad Ω 369)), some (.int x), some (.int y), some (.int z), some (.int a), some (.int b), some (.int c), some (.int (bI f)), none, none, none] [] := by
    intro f hf
    have J8 : ∀ (g : Bool) (hgg : g = (inW a 1 12 && inW b 1 12 && inW c 1 12)), AtW mX6_tryBox Γ Ω σ 83 [some (.ref (ad Ω 369)), some (.int x), some (.int y), some (.int z), some (.int a), some (.int b), some (.int c), some (.int (bI f)), some (.int (bI g)), none, none] [] := by
      intro g hgg
      refine r_iload dX6_tryBox_83 rfl ?_
      refine r_if_eq 120 dX6_tryBox_85 (by decide) (fun c85 => ?_) (fun c85 => ?_)
      ·
        replace c85 := bI_f c85
        refine r_bipush (-2) dX6_tryBox_120 (by decide) ?_
        exact r_iret hQ rfl dX6_tryBox_122 (roI_of (tb_r (by rw [entR_eq, ← hf, c85]; rfl)))
      ·
        replace c85 := bI_t c85
        refine r_iload dX6_tryBox_88 rfl ?_
        refine r_if_eq 120 dX6_tryBox_90 (by decide) (fun c90 => ?_) (fun c90 => ?_)
        ·
          replace c90 := bI_f c90
          refine r_bipush (-2) dX6_tryBox_120 (by decide) ?_
          exact r_iret hQ rfl dX6_tryBox_122 (roI_of (tb_r (by rw [entR_eq, ← hgg, c90, Bool.and_false]; rfl)))
        ·
          replace c90 := bI_t c90
          refine r_iload_n dX6_tryBox_93 rfl ?_
          refine r_iload dX6_tryBox_94 rfl ?_
          refine r_iadd dX6_tryBox_96 ?_
          refine r_bipush 32 dX6_tryBox_97 (by decide) ?_
          refine r_icmp_gt 120 dX6_tryBox_99 (by decide) (fun c99 => ?_) (fun c99 => ?_)
          ·
            refine r_bipush (-2) dX6_tryBox_120 (by decide) ?_
            exact r_iret hQ rfl dX6_tryBox_122 (roI_of (tb_r (by rw [entR_eq, decide_eq_true c99]; simp)))
          ·
            refine r_iload_n dX6_tryBox_102 rfl ?_
            refine r_iload dX6_tryBox_103 rfl ?_
            refine r_iadd dX6_tryBox_105 ?_
            refine r_bipush 32 dX6_tryBox_106 (by decide) ?_
            refine r_icmp_gt 120 dX6_tryBox_108 (by decide) (fun c108 => ?_) (fun c108 => ?_)
            ·
              refine r_bipush (-2) dX6_tryBox_120 (by decide) ?_
              exact r_iret hQ rfl dX6_tryBox_122 (roI_of (tb_r (by rw [entR_eq, decide_eq_true c108]; simp)))
            ·
              refine r_iload_n dX6_tryBox_111 rfl ?_
              refine r_iload dX6_tryBox_112 rfl ?_
              refine r_iadd dX6_tryBox_114 ?_
              refine r_bipush 32 dX6_tryBox_115 (by decide) ?_
              refine r_icmp_le 123 dX6_tryBox_117 (by decide) (fun c117 => ?_) (fun c117 => ?_)
              ·
                replace c117 := Int32.not_lt.mpr c117
                have hin : entR x y z a b c = true := tb_in hf hgg c85 c90 c99 c108 c117
                refine r_iconst 0 dX6_tryBox_123 (by decide) ?_
                refine r_istore dX6_tryBox_124 (by decide) rfl ?_
                refine r_iconst 0 dX6_tryBox_126 (by decide) ?_
                refine r_istore dX6_tryBox_127 (by decide) rfl ?_
                have L1 : ∀ (N : Nat) (k : Nat) (x9 : Int32), k ≤ vN v → x9 = bI (anyb (fun k => ctBx (vLo v k) (vHi v k) (v3 x y z) (v3 (x + a) (y + b) (z + c))) k) → vN v < k + N → AtW mX6_tryBox Γ Ω σ 129 [some (.ref (ad Ω 369)), some (.int x), some (.int y), some (.int z), some (.int a), some (.int b), some (.int c), some (.int (bI f)), some (.int (bI g)), some (.int x9), some (.int (nI k))] [] := by
                  intro N
                  induction N with
                  | zero =>
                    intro k x9 hk hx hN
                    exact absurd hN (by omega)
                  | succ N ih =>
                    intro k x9 hk hx hN
                    refine r_iload dX6_tryBox_129 rfl ?_
                    refine r_aload_n dX6_tryBox_131 rfl ?_
                    refine fX6_0 jX6_tryBox_X6 lX6_tryBox_7 dX6_tryBox_132 ?_
                    refine r_iconst 0 dX6_tryBox_135 (by decide) ?_
                    refine ldM370 0 rfl (by omega) dX6_tryBox_136 ?_
                    rw [hz0]
                    refine r_icmp_ge 233 dX6_tryBox_137 (by decide) (fun c137 => ?_) (fun c137 => ?_)
                    ·
                      replace c137 := Int32.not_lt.mpr c137
                      have n137 := Nat.not_lt.mp (fun q => c137 ((nI_ltI (a := k) (b := vN v) (by omega) (by omega)).mpr q))
                      have ek : k = vN v := by omega
                      subst ek
                      refine r_iload dX6_tryBox_233 rfl ?_
                      refine r_if_eq 243 dX6_tryBox_235 (by decide) (fun c235 => ?_) (fun c235 => ?_)
                      ·
                        rw [hx] at c235
                        replace c235 := bI_f c235
                        refine r_aload_n dX6_tryBox_243 rfl ?_
                        refine fX6_0 jX6_tryBox_X6 lX6_tryBox_7 dX6_tryBox_244 ?_
                        refine r_iconst 0 dX6_tryBox_247 (by decide) ?_
                        refine ldM370 0 rfl (by omega) dX6_tryBox_248 ?_
                        rw [hz0]
                        refine r_bipush 16 dX6_tryBox_249 (by decide) ?_
                        refine r_icmp_ne 259 dX6_tryBox_251 (by decide) (fun c251 => ?_) (fun c251 => ?_)
                        ·
                          have n251 : ¬ vN v = 16 := fun q => c251 ((nI_eq (a := vN v) (b := 16) (by omega) (by omega)).mpr q)
                          refine r_iconst 0 dX6_tryBox_259 (by decide) ?_
                          exact r_iret hQ rfl dX6_tryBox_260 (roI_of (by rw [tbA, hin, entCut, c235, if_neg n251]; rfl))
                        ·
                          have n251 := (nI_eq (a := vN v) (b := 16) (by omega) (by omega)).mp c251
                          refine r_bipush (-3) dX6_tryBox_254 (by decide) ?_
                          refine r_goto 260 dX6_tryBox_256 (by decide) ?_
                          exact r_iret hQ rfl dX6_tryBox_260 (roI_of (by rw [tbA, hin, entCut, c235, if_pos n251]; rfl))
                      ·
                        rw [hx] at c235
                        replace c235 := bI_t c235
                        refine r_bipush (-4) dX6_tryBox_238 (by decide) ?_
                        refine r_goto 260 dX6_tryBox_240 (by decide) ?_
                        exact r_iret hQ rfl dX6_tryBox_260 (roI_of (by rw [tbA, hin, entCut, c235]; rfl))
                    ·
                      replace c137 := Int32.not_le.mp c137
                      have n137 := (nI_ltI (a := k) (b := vN v) (by omega) (by omega)).mp c137
                      refine r_iload dX6_tryBox_140 rfl ?_
                      refine r_if_ne 220 dX6_tryBox_142 (by decide) (fun c142 => ?_) (fun c142 => ?_)
                      ·
                        rw [hx] at c142
                        replace c142 := bI_t c142
                        refine r_iconst 1 dX6_tryBox_220 (by decide) ?_
                        refine r_goto 225 dX6_tryBox_221 (by decide) ?_
                        refine r_istore dX6_tryBox_225 (by decide) rfl ?_
                        refine r_iinc (nI (k + 1)) dX6_tryBox_227 rfl (nI_1 k) (by decide) rfl ?_
                        refine r_goto 129 dX6_tryBox_230 (by decide) ?_
                        exact ih (k + 1) _ (by omega) (by rw [anyb, c142]; rfl) (by omega)
                      ·
                        rw [hx] at c142
                        replace c142 := bI_f c142
                        refine r_iload_n dX6_tryBox_145 rfl ?_
                        refine r_aload_n dX6_tryBox_146 rfl ?_
                        refine r_iload dX6_tryBox_147 rfl ?_
                        refine r_iconst 0 dX6_tryBox_149 (by decide) ?_
                        refine r_callVI (369) hL (ctX6_high l Ω _ v hz k (by omega) 0 (by omega)) kX6_tryBox_57 (by omega) ⟨_, _, _, rfl, rfl, rfl⟩ rfl rfl (Nat.le_of_ble_eq_true rfl) dX6_tryBox_150 ?_
                        refine r_icmp_ge 224 dX6_tryBox_153 (by decide) (fun c153 => ?_) (fun c153 => ?_)
                        ·
                          replace c153 := Int32.not_lt.mpr c153
                          refine r_iconst 0 dX6_tryBox_224 (by decide) ?_
                          refine r_istore dX6_tryBox_225 (by decide) rfl ?_
                          refine r_iinc (nI (k + 1)) dX6_tryBox_227 rfl (nI_1 k) (by decide) rfl ?_
                          refine r_goto 129 dX6_tryBox_230 (by decide) ?_
                          exact ih (k + 1) _ (by omega) (by rw [anyb, c142, ct_v3, decide_eq_false c153]; simp [bI]) (by omega)
                        ·
                          replace c153 := Int32.not_le.mp c153
                          refine r_aload_n dX6_tryBox_156 rfl ?_
                          refine r_iload dX6_tryBox_157 rfl ?_
                          refine r_iconst 0 dX6_tryBox_159 (by decide) ?_
                          refine r_callVI (369) hL (ctX6_low l Ω _ v hz k (by omega) 0 (by omega)) kX6_tryBox_47 (by omega) ⟨_, _, _, rfl, rfl, rfl⟩ rfl rfl (Nat.le_of_ble_eq_true rfl) dX6_tryBox_160 ?_
                          refine r_iload_n dX6_tryBox_163 rfl ?_
                          refine r_iload dX6_tryBox_164 rfl ?_
                          refine r_iadd dX6_tryBox_166 ?_
                          refine r_icmp_ge 224 dX6_tryBox_167 (by decide) (fun c167 => ?_) (fun c167 => ?_)
                          ·
                            replace c167 := Int32.not_lt.mpr c167
                            refine r_iconst 0 dX6_tryBox_224 (by decide) ?_
                            refine r_istore dX6_tryBox_225 (by decide) rfl ?_
                            refine r_iinc (nI (k + 1)) dX6_tryBox_227 rfl (nI_1 k) (by decide) rfl ?_
                            refine r_goto 129 dX6_tryBox_230 (by decide) ?_
                            exact ih (k + 1) _ (by omega) (by rw [anyb, c142, ct_v3, decide_eq_false c167]; simp [bI]) (by omega)
                          ·
                            replace c167 := Int32.not_le.mp c167
                            refine r_iload_n dX6_tryBox_170 rfl ?_
                            refine r_aload_n dX6_tryBox_171 rfl ?_
                            refine r_iload dX6_tryBox_172 rfl ?_
                            refine r_iconst 1 dX6_tryBox_174 (by decide) ?_
                            refine r_callVI (369) hL (ctX6_high l Ω _ v hz k (by omega) 1 (by omega)) kX6_tryBox_57 (by omega) ⟨_, _, _, rfl, rfl, rfl⟩ rfl rfl (Nat.le_of_ble_eq_true rfl) dX6_tryBox_175 ?_
                            refine r_icmp_ge 224 dX6_tryBox_178 (by decide) (fun c178 => ?_) (fun c178 => ?_)
                            ·
                              replace c178 := Int32.not_lt.mpr c178
                              refine r_iconst 0 dX6_tryBox_224 (by decide) ?_
                              refine r_istore dX6_tryBox_225 (by decide) rfl ?_
                              refine r_iinc (nI (k + 1)) dX6_tryBox_227 rfl (nI_1 k) (by decide) rfl ?_
                              refine r_goto 129 dX6_tryBox_230 (by decide) ?_
                              exact ih (k + 1) _ (by omega) (by rw [anyb, c142, ct_v3, decide_eq_false c178]; simp [bI]) (by omega)
                            ·
                              replace c178 := Int32.not_le.mp c178
                              refine r_aload_n dX6_tryBox_181 rfl ?_
                              refine r_iload dX6_tryBox_182 rfl ?_
                              refine r_iconst 1 dX6_tryBox_184 (by decide) ?_
                              refine r_callVI (369) hL (ctX6_low l Ω _ v hz k (by omega) 1 (by omega)) kX6_tryBox_47 (by omega) ⟨_, _, _, rfl, rfl, rfl⟩ rfl rfl (Nat.le_of_ble_eq_true rfl) dX6_tryBox_185 ?_
                              refine r_iload_n dX6_tryBox_188 rfl ?_
                              refine r_iload dX6_tryBox_189 rfl ?_
                              refine r_iadd dX6_tryBox_191 ?_
                              refine r_icmp_ge 224 dX6_tryBox_192 (by decide) (fun c192 => ?_) (fun c192 => ?_)
                              ·
                                replace c192 := Int32.not_lt.mpr c192
                                refine r_iconst 0 dX6_tryBox_224 (by decide) ?_
                                refine r_istore dX6_tryBox_225 (by decide) rfl ?_
                                refine r_iinc (nI (k + 1)) dX6_tryBox_227 rfl (nI_1 k) (by decide) rfl ?_
                                refine r_goto 129 dX6_tryBox_230 (by decide) ?_
                                exact ih (k + 1) _ (by omega) (by rw [anyb, c142, ct_v3, decide_eq_false c192]; simp [bI]) (by omega)
                              ·
                                replace c192 := Int32.not_le.mp c192
                                refine r_iload_n dX6_tryBox_195 rfl ?_
                                refine r_aload_n dX6_tryBox_196 rfl ?_
                                refine r_iload dX6_tryBox_197 rfl ?_
                                refine r_iconst 2 dX6_tryBox_199 (by decide) ?_
                                refine r_callVI (369) hL (ctX6_high l Ω _ v hz k (by omega) 2 (by omega)) kX6_tryBox_57 (by omega) ⟨_, _, _, rfl, rfl, rfl⟩ rfl rfl (Nat.le_of_ble_eq_true rfl) dX6_tryBox_200 ?_
                                refine r_icmp_ge 224 dX6_tryBox_203 (by decide) (fun c203 => ?_) (fun c203 => ?_)
                                ·
                                  replace c203 := Int32.not_lt.mpr c203
                                  refine r_iconst 0 dX6_tryBox_224 (by decide) ?_
                                  refine r_istore dX6_tryBox_225 (by decide) rfl ?_
                                  refine r_iinc (nI (k + 1)) dX6_tryBox_227 rfl (nI_1 k) (by decide) rfl ?_
                                  refine r_goto 129 dX6_tryBox_230 (by decide) ?_
                                  exact ih (k + 1) _ (by omega) (by rw [anyb, c142, ct_v3, decide_eq_false c203]; simp [bI]) (by omega)
                                ·
                                  replace c203 := Int32.not_le.mp c203
                                  refine r_aload_n dX6_tryBox_206 rfl ?_
                                  refine r_iload dX6_tryBox_207 rfl ?_
                                  refine r_iconst 2 dX6_tryBox_209 (by decide) ?_
                                  refine r_callVI (369) hL (ctX6_low l Ω _ v hz k (by omega) 2 (by omega)) kX6_tryBox_47 (by omega) ⟨_, _, _, rfl, rfl, rfl⟩ rfl rfl (Nat.le_of_ble_eq_true rfl) dX6_tryBox_210 ?_
                                  refine r_iload_n dX6_tryBox_213 rfl ?_
                                  refine r_iload dX6_tryBox_214 rfl ?_
                                  refine r_iadd dX6_tryBox_216 ?_
                                  refine r_icmp_ge 224 dX6_tryBox_217 (by decide) (fun c217 => ?_) (fun c217 => ?_)
                                  ·
                                    replace c217 := Int32.not_lt.mpr c217
                                    refine r_iconst 0 dX6_tryBox_224 (by decide) ?_
                                    refine r_istore dX6_tryBox_225 (by decide) rfl ?_
                                    refine r_iinc (nI (k + 1)) dX6_tryBox_227 rfl (nI_1 k) (by decide) rfl ?_
                                    refine r_goto 129 dX6_tryBox_230 (by decide) ?_
                                    exact ih (k + 1) _ (by omega) (by rw [anyb, c142, ct_v3, decide_eq_false c217]; simp [bI]) (by omega)
                                  ·
                                    replace c217 := Int32.not_le.mp c217
                                    refine r_iconst 1 dX6_tryBox_220 (by decide) ?_
                                    refine r_goto 225 dX6_tryBox_221 (by decide) ?_
                                    refine r_istore dX6_tryBox_225 (by decide) rfl ?_
                                    refine r_iinc (nI (k + 1)) dX6_tryBox_227 rfl (nI_1 k) (by decide) rfl ?_
                                    refine r_goto 129 dX6_tryBox_230 (by decide) ?_
                                    exact ih (k + 1) _ (by omega) (by rw [anyb, c142, ct_v3, decide_eq_true c153, decide_eq_true c167, decide_eq_true c178, decide_eq_true c192, decide_eq_true c203, decide_eq_true c217]; rfl) (by omega)
                exact L1 (vN v + 1) 0 _ (by omega) rfl (by omega)
              ·
                replace c117 := Int32.not_le.mp c117
                refine r_bipush (-2) dX6_tryBox_120 (by decide) ?_
                exact r_iret hQ rfl dX6_tryBox_122 (roI_of (tb_r (by rw [entR_eq, decide_eq_true c117]; simp)))
    refine r_iload dX6_tryBox_40 rfl ?_
    refine r_i2l dX6_tryBox_42 ?_
    refine r_iconst 1 dX6_tryBox_43 (by decide) ?_
    refine r_bipush 12 dX6_tryBox_44 (by decide) ?_
    refine r_callSI hL (ctX6_in l Ω _ _ _ _) kX6_tryBox_53 rfl rfl (Nat.le_of_ble_eq_true rfl) dX6_tryBox_46 ?_
    refine r_if_eq 80 dX6_tryBox_49 (by decide) (fun c49 => ?_) (fun c49 => ?_)
    ·
      replace c49 := bI_f c49
      refine r_iconst 0 dX6_tryBox_80 (by decide) ?_
      refine r_istore dX6_tryBox_81 (by decide) rfl ?_
      exact J8 false (by rw [← inL_W, c49]; rfl)
    ·
      replace c49 := bI_t c49
      refine r_iload dX6_tryBox_52 rfl ?_
      refine r_i2l dX6_tryBox_54 ?_
      refine r_iconst 1 dX6_tryBox_55 (by decide) ?_
      refine r_bipush 12 dX6_tryBox_56 (by decide) ?_
      refine r_callSI hL (ctX6_in l Ω _ _ _ _) kX6_tryBox_53 rfl rfl (Nat.le_of_ble_eq_true rfl) dX6_tryBox_58 ?_
      refine r_if_eq 80 dX6_tryBox_61 (by decide) (fun c61 => ?_) (fun c61 => ?_)
      ·
        replace c61 := bI_f c61
        refine r_iconst 0 dX6_tryBox_80 (by decide) ?_
        refine r_istore dX6_tryBox_81 (by decide) rfl ?_
        exact J8 false (by rw [← inL_W b, c61, Bool.and_false]; rfl)
      ·
        replace c61 := bI_t c61
        refine r_iload dX6_tryBox_64 rfl ?_
        refine r_i2l dX6_tryBox_66 ?_
        refine r_iconst 1 dX6_tryBox_67 (by decide) ?_
        refine r_bipush 12 dX6_tryBox_68 (by decide) ?_
        refine r_callSI hL (ctX6_in l Ω _ _ _ _) kX6_tryBox_53 rfl rfl (Nat.le_of_ble_eq_true rfl) dX6_tryBox_70 ?_
        refine r_if_eq 80 dX6_tryBox_73 (by decide) (fun c73 => ?_) (fun c73 => ?_)
        ·
          replace c73 := bI_f c73
          refine r_iconst 0 dX6_tryBox_80 (by decide) ?_
          refine r_istore dX6_tryBox_81 (by decide) rfl ?_
          exact J8 false (by rw [← inL_W c, c73, Bool.and_false])
        ·
          replace c73 := bI_t c73
          refine r_iconst 1 dX6_tryBox_76 (by decide) ?_
          refine r_goto 81 dX6_tryBox_77 (by decide) ?_
          refine r_istore dX6_tryBox_81 (by decide) rfl ?_
          exact J8 true (by rw [← inL_W, ← inL_W b, ← inL_W c, c49, c61, c73]; rfl)
  refine r_iload_n dX6_tryBox_0 rfl ?_
  refine r_i2l dX6_tryBox_1 ?_
  refine r_iconst 0 dX6_tryBox_2 (by decide) ?_
  refine r_bipush 31 dX6_tryBox_3 (by decide) ?_
  refine r_callSI hL (ctX6_in l Ω _ _ _ _) kX6_tryBox_53 rfl rfl (Nat.le_of_ble_eq_true rfl) dX6_tryBox_5 ?_
  refine r_if_eq 37 dX6_tryBox_8 (by decide) (fun c8 => ?_) (fun c8 => ?_)
  ·
    replace c8 := bI_f c8
    refine r_iconst 0 dX6_tryBox_37 (by decide) ?_
    refine r_istore dX6_tryBox_38 (by decide) rfl ?_
    exact J7 false (by rw [← inL_W, c8]; rfl)
  ·
    replace c8 := bI_t c8
    refine r_iload_n dX6_tryBox_11 rfl ?_
    refine r_i2l dX6_tryBox_12 ?_
    refine r_iconst 0 dX6_tryBox_13 (by decide) ?_
    refine r_bipush 31 dX6_tryBox_14 (by decide) ?_
    refine r_callSI hL (ctX6_in l Ω _ _ _ _) kX6_tryBox_53 rfl rfl (Nat.le_of_ble_eq_true rfl) dX6_tryBox_16 ?_
    refine r_if_eq 37 dX6_tryBox_19 (by decide) (fun c19 => ?_) (fun c19 => ?_)
    ·
      replace c19 := bI_f c19
      refine r_iconst 0 dX6_tryBox_37 (by decide) ?_
      refine r_istore dX6_tryBox_38 (by decide) rfl ?_
      exact J7 false (by rw [← inL_W y, c19, Bool.and_false]; rfl)
    ·
      replace c19 := bI_t c19
      refine r_iload_n dX6_tryBox_22 rfl ?_
      refine r_i2l dX6_tryBox_23 ?_
      refine r_iconst 0 dX6_tryBox_24 (by decide) ?_
      refine r_bipush 31 dX6_tryBox_25 (by decide) ?_
      refine r_callSI hL (ctX6_in l Ω _ _ _ _) kX6_tryBox_53 rfl rfl (Nat.le_of_ble_eq_true rfl) dX6_tryBox_27 ?_
      refine r_if_eq 37 dX6_tryBox_30 (by decide) (fun c30 => ?_) (fun c30 => ?_)
      ·
        replace c30 := bI_f c30
        refine r_iconst 0 dX6_tryBox_37 (by decide) ?_
        refine r_istore dX6_tryBox_38 (by decide) rfl ?_
        exact J7 false (by rw [← inL_W z, c30, Bool.and_false])
      ·
        replace c30 := bI_t c30
        refine r_iconst 1 dX6_tryBox_33 (by decide) ?_
        refine r_goto 38 dX6_tryBox_34 (by decide) ?_
        refine r_istore dX6_tryBox_38 (by decide) rfl ?_
        exact J7 true (by rw [← inL_W, ← inL_W y, ← inL_W z, c8, c19, c30]; rfl)

set_option maxRecDepth 100000 in
set_option maxHeartbeats 4000000 in
theorem ctX6_putBox (l : Launch) (Ω : Om) (σ : Sg) (v : SpV) (hz : isZ (σ 370) v) (hn16 : vN v < 16) (x y z a b c : Int32) : CtW l yX6_putBox wsX6_putBox (rmD 1) Ω [.ref (ad Ω 369), .int x, .int y, .int z, .int a, .int b, .int c] σ (reJ (fun r σ1 => r = vX v ∧ pbI v x y z a b c σ σ1)) := by
  refine ct_intro [some (.ref (ad Ω 369)), some (.int x), some (.int y), some (.int z), some (.int a), some (.int b), some (.int c), none] (by decide) rfl rfl (Nat.le_of_ble_eq_true rfl) (fun Γ hL hQ => ?_)
  show AtW mX6_putBox Γ Ω σ 0 [some (.ref (ad Ω 369)), some (.int x), some (.int y), some (.int z), some (.int a), some (.int b), some (.int c), none] []
  have hn := hz.1
  have hz0 := hz.2.1
  refine r_aload_n dX6_putBox_0 rfl ?_
  refine fX6_0 jX6_putBox_X6 lX6_putBox_7 dX6_putBox_1 ?_
  refine r_iconst 0 dX6_putBox_4 (by decide) ?_
  refine ldM370 0 rfl (by omega) dX6_putBox_5 ?_
  rw [hz0]
  refine r_istore dX6_putBox_6 (by decide) rfl ?_
  refine r_aload_n dX6_putBox_8 rfl ?_
  refine r_iload dX6_putBox_9 rfl ?_
  refine r_iconst 0 dX6_putBox_11 (by decide) ?_
  refine r_aload_n dX6_putBox_12 rfl ?_
  refine fX6_0 jX6_putBox_X6 lX6_putBox_7 dX6_putBox_13 ?_
  refine r_iconst 1 dX6_putBox_16 (by decide) ?_
  refine ldM370 1 rfl (by omega) dX6_putBox_17 ?_
  rw [hz.2.2.1]
  refine r_callVV (369) hL (ctX6_put l Ω _ (vN v) 0 (by omega) (by omega) _) kX6_putBox_114 (by omega) ⟨_, _, _, rfl, rfl, rfl⟩ rfl rfl (Nat.le_of_ble_eq_true rfl) dX6_putBox_18 ?_
  intro σ1 hσ1
  refine r_aload_n dX6_putBox_21 rfl ?_
  refine r_iload dX6_putBox_22 rfl ?_
  refine r_iconst 1 dX6_putBox_24 (by decide) ?_
  refine r_iload_n dX6_putBox_25 rfl ?_
  refine r_callVV (369) hL (ctX6_put l Ω _ (vN v) 1 (by omega) (by omega) _) kX6_putBox_114 (by omega) ⟨_, _, _, rfl, rfl, rfl⟩ rfl rfl (Nat.le_of_ble_eq_true rfl) dX6_putBox_26 ?_
  intro σ2 hσ2
  refine r_aload_n dX6_putBox_29 rfl ?_
  refine r_iload dX6_putBox_30 rfl ?_
  refine r_iconst 2 dX6_putBox_32 (by decide) ?_
  refine r_iload_n dX6_putBox_33 rfl ?_
  refine r_callVV (369) hL (ctX6_put l Ω _ (vN v) 2 (by omega) (by omega) _) kX6_putBox_114 (by omega) ⟨_, _, _, rfl, rfl, rfl⟩ rfl rfl (Nat.le_of_ble_eq_true rfl) dX6_putBox_34 ?_
  intro σ3 hσ3
  refine r_aload_n dX6_putBox_37 rfl ?_
  refine r_iload dX6_putBox_38 rfl ?_
  refine r_iconst 3 dX6_putBox_40 (by decide) ?_
  refine r_iload_n dX6_putBox_41 rfl ?_
  refine r_callVV (369) hL (ctX6_put l Ω _ (vN v) 3 (by omega) (by omega) _) kX6_putBox_114 (by omega) ⟨_, _, _, rfl, rfl, rfl⟩ rfl rfl (Nat.le_of_ble_eq_true rfl) dX6_putBox_42 ?_
  intro σ4 hσ4
  refine r_aload_n dX6_putBox_45 rfl ?_
  refine r_iload dX6_putBox_46 rfl ?_
  refine r_iconst 4 dX6_putBox_48 (by decide) ?_
  refine r_iload dX6_putBox_49 rfl ?_
  refine r_callVV (369) hL (ctX6_put l Ω _ (vN v) 4 (by omega) (by omega) _) kX6_putBox_114 (by omega) ⟨_, _, _, rfl, rfl, rfl⟩ rfl rfl (Nat.le_of_ble_eq_true rfl) dX6_putBox_51 ?_
  intro σ5 hσ5
  refine r_aload_n dX6_putBox_54 rfl ?_
  refine r_iload dX6_putBox_55 rfl ?_
  refine r_iconst 5 dX6_putBox_57 (by decide) ?_
  refine r_iload dX6_putBox_58 rfl ?_
  refine r_callVV (369) hL (ctX6_put l Ω _ (vN v) 5 (by omega) (by omega) _) kX6_putBox_114 (by omega) ⟨_, _, _, rfl, rfl, rfl⟩ rfl rfl (Nat.le_of_ble_eq_true rfl) dX6_putBox_60 ?_
  intro σ6 hσ6
  refine r_aload_n dX6_putBox_63 rfl ?_
  refine r_iload dX6_putBox_64 rfl ?_
  refine r_bipush 6 dX6_putBox_66 (by decide) ?_
  refine r_iload dX6_putBox_68 rfl ?_
  refine r_callVV (369) hL (ctX6_put l Ω _ (vN v) 6 (by omega) (by omega) _) kX6_putBox_114 (by omega) ⟨_, _, _, rfl, rfl, rfl⟩ rfl rfl (Nat.le_of_ble_eq_true rfl) dX6_putBox_70 ?_
  intro σ7 hσ7
  subst hσ1 hσ2 hσ3 hσ4 hσ5 hσ6 hσ7
  refine r_aload_n dX6_putBox_73 rfl ?_
  refine fX6_0 jX6_putBox_X6 lX6_putBox_7 dX6_putBox_74 ?_
  refine r_iconst 0 dX6_putBox_77 (by decide) ?_
  refine r_dup2 dX6_putBox_78 rfl rfl ?_
  refine ldM370 0 rfl (by omega) dX6_putBox_79 ?_
  repeat rw [up_get, if_neg (by omega)]
  rw [hz0]
  refine r_iconst 1 dX6_putBox_80 (by decide) ?_
  refine r_iadd dX6_putBox_81 ?_
  rw [nI_1]
  refine stM370 0 rfl (by omega) dX6_putBox_82 ?_
  refine r_aload_n dX6_putBox_83 rfl ?_
  refine fX6_0 jX6_putBox_X6 lX6_putBox_7 dX6_putBox_84 ?_
  refine r_iconst 1 dX6_putBox_87 (by decide) ?_
  refine r_dup2 dX6_putBox_88 rfl rfl ?_
  refine ldM370 1 rfl (by omega) dX6_putBox_89 ?_
  repeat rw [up_get, if_neg (by omega)]
  rw [hz.2.2.1]
  refine r_iconst 1 dX6_putBox_90 (by decide) ?_
  refine r_iadd dX6_putBox_91 ?_
  refine stM370 1 rfl (by omega) dX6_putBox_92 ?_
  refine r_aload_n dX6_putBox_93 rfl ?_
  refine fX6_0 jX6_putBox_X6 lX6_putBox_7 dX6_putBox_94 ?_
  refine r_iconst 1 dX6_putBox_97 (by decide) ?_
  refine ldM370 1 rfl (by omega) dX6_putBox_98 ?_
  rw [up_get, if_pos ⟨rfl, rfl⟩]
  refine r_iconst 1 dX6_putBox_99 (by decide) ?_
  refine r_isub dX6_putBox_100 ?_
  exact r_iret hQ rfl dX6_putBox_101 (reJ_of ⟨by rw [Int32.add_sub_cancel], pb_ok hz hn16 x y z a b c⟩)

set_option maxRecDepth 100000 in
set_option maxHeartbeats 4000000 in
theorem ctX6_add (l : Launch) (Ω : Om) (σ : Sg) (S : StV) (h : isMd σ S) (x y z a b c : Int32) : CtW l yX6_add wsX6_add (rmD 4) Ω [.ref (ad Ω 369), .int x, .int y, .int z, .int a, .int b, .int c] σ (reJ (fun r σ1 => okMd σ (oAdd S x y z a b c) r σ1)) := by
  refine ct_intro [some (.ref (ad Ω 369)), some (.int x), some (.int y), some (.int z), some (.int a), some (.int b), some (.int c), none] (by decide) rfl rfl (Nat.le_of_ble_eq_true rfl) (fun Γ hL hQ => ?_)
  show AtW mX6_add Γ Ω σ 0 [some (.ref (ad Ω 369)), some (.int x), some (.int y), some (.int z), some (.int a), some (.int b), some (.int c), none] []
  have hz := h.1
  have hn := h.1.1
  have hz0 := h.1.2.1
  refine r_aload_n dX6_add_0 rfl ?_
  refine r_iload_n dX6_add_1 rfl ?_
  refine r_iload_n dX6_add_2 rfl ?_
  refine r_iload_n dX6_add_3 rfl ?_
  refine r_iload dX6_add_4 rfl ?_
  refine r_iload dX6_add_6 rfl ?_
  refine r_iload dX6_add_8 rfl ?_
  refine r_callVI (369) hL (ctX6_tryBox l Ω _ (qC S) hz _ _ _ _ _ _) kX6_add_118 (by omega) ⟨_, _, _, rfl, rfl, rfl⟩ rfl rfl (Nat.le_of_ble_eq_true rfl) dX6_add_10 ?_
  refine r_istore dX6_add_13 (by decide) rfl ?_
  refine r_iload dX6_add_15 rfl ?_
  refine r_if_ge 23 dX6_add_17 (by decide) (fun c17 => ?_) (fun c17 => ?_)
  ·
    replace c17 := Int32.not_lt.mpr c17
    refine r_aload_n dX6_add_23 rfl ?_
    refine r_aload_n dX6_add_24 rfl ?_
    refine fX6_0 jX6_add_X6 lX6_add_7 dX6_add_25 ?_
    refine r_callVV (369) hL (ctX6_push l Ω _ S h.2.1 h.1) kX6_add_110 (by omega) ⟨_, _, _, rfl, rfl, rfl⟩ rfl rfl (Nat.le_of_ble_eq_true rfl) dX6_add_28 ?_
    intro σ1 hσ1
    refine r_aload_n dX6_add_31 rfl ?_
    refine r_iload_n dX6_add_32 rfl ?_
    refine r_iload_n dX6_add_33 rfl ?_
    refine r_iload_n dX6_add_34 rfl ?_
    refine r_iload dX6_add_35 rfl ?_
    refine r_iload dX6_add_37 rfl ?_
    refine r_iload dX6_add_39 rfl ?_
    refine r_callVJ (369) hL (ctX6_putBox l Ω _ (qC S) (by rw [phI_z hσ1]; exact hz) (by have := (tb_nn c17).2.1; omega) _ _ _ _ _ _) kX6_add_122 (by omega) ⟨_, _, _, rfl, rfl, rfl⟩ rfl rfl (Nat.le_of_ble_eq_true rfl) dX6_add_41 ?_
    intro r σ2 hσ2
    exact r_iret hQ rfl dX6_add_44 (reJ_of (push_z h hσ1 hσ2.2.2 hσ2.2.1 (by rw [oAdd, if_pos (tb_nn c17).1, hσ2.1])))
  ·
    replace c17 := Int32.not_le.mp c17
    refine r_iload dX6_add_20 rfl ?_
    exact r_iret hQ rfl dX6_add_22 (reJ_of (okMd_of (by rw [oAdd, if_neg (by rw [(tb_neg c17).1]; decide), (tb_neg c17).2]) h (keepLw_rfl σ)))

set_option maxRecDepth 100000 in
set_option maxHeartbeats 4000000 in
theorem ctX6_remove (l : Launch) (Ω : Om) (σ : Sg) (S : StV) (h : isMd σ S) (hg : gdV (qC S)) (y : Int32) : CtW l yX6_remove wsX6_remove (rmD 3) Ω [.ref (ad Ω 369), .int y] σ (reJ (fun r σ1 => okMd σ (oRemove S y) r σ1)) := by
  refine ct_intro [some (.ref (ad Ω 369)), some (.int y), none, none, none] (by decide) rfl rfl (Nat.le_of_ble_eq_true rfl) (fun Γ hL hQ => ?_)
  show AtW mX6_remove Γ Ω σ 0 [some (.ref (ad Ω 369)), some (.int y), none, none, none] []
  have hz := h.1
  have hn := h.1.1
  have hz0 := h.1.2.1
  have hu := hg.1
  have hru := hg.2.1
  have hl := gd_lt hg
  refine r_aload_n dX6_remove_0 rfl ?_
  refine r_iload_n dX6_remove_1 rfl ?_
  refine r_callVI (369) hL (ctX6_rankOf l Ω _ (qC S) hz hu _) kX6_remove_125 (by omega) ⟨_, _, _, rfl, rfl, rfl⟩ rfl rfl (Nat.le_of_ble_eq_true rfl) dX6_remove_2 ?_
  refine r_istore_n dX6_remove_5 (by decide) rfl ?_
  refine r_iload_n dX6_remove_6 rfl ?_
  refine r_if_ge 12 dX6_remove_7 (by decide) (fun c7 => ?_) (fun c7 => ?_)
  ·
    replace c7 := Int32.not_lt.mpr c7
    obtain ⟨k, hk, ek, e0⟩ := loc_some (fun q => c7 (by rw [q]; decide))
    rw [e0]
    refine r_aload_n dX6_remove_12 rfl ?_
    refine r_aload_n dX6_remove_13 rfl ?_
    refine fX6_0 jX6_remove_X6 lX6_remove_7 dX6_remove_14 ?_
    refine r_callVV (369) hL (ctX6_push l Ω _ S h.2.1 h.1) kX6_remove_110 (by omega) ⟨_, _, _, rfl, rfl, rfl⟩ rfl rfl (Nat.le_of_ble_eq_true rfl) dX6_remove_17 ?_
    intro σ1 hσ1
    have hz1 : isZ (σ1 370) (qC S) := by rw [phI_z hσ1]; exact hz
    refine r_aload_n dX6_remove_20 rfl ?_
    refine r_iload_n dX6_remove_21 rfl ?_
    refine r_callVI (369) hL (ctX6_volume l Ω _ (qC S) hz1 k (by omega)) kX6_remove_93 (by omega) ⟨_, _, _, rfl, rfl, rfl⟩ rfl rfl (Nat.le_of_ble_eq_true rfl) dX6_remove_22 ?_
    refine r_istore_n dX6_remove_25 (by decide) rfl ?_
    refine r_aload_n dX6_remove_26 rfl ?_
    refine fX6_0 jX6_remove_X6 lX6_remove_7 dX6_remove_27 ?_
    refine r_iconst 0 dX6_remove_30 (by decide) ?_
    refine r_dup2 dX6_remove_31 rfl rfl ?_
    refine ldM370 0 rfl (by omega) dX6_remove_32 ?_
    rw [hz1.2.1, show nI (vN (qC S)) = nI (vN (qC S) - 1 + 1) from by rw [Nat.sub_add_cancel (by omega)]]
    refine r_iconst 1 dX6_remove_33 (by decide) ?_
    refine r_isub dX6_remove_34 ?_
    rw [nI_pred]
    refine stM370 0 rfl (by omega) dX6_remove_35 ?_
    refine r_iconst 4 dX6_remove_36 (by decide) ?_
    refine r_bipush 7 dX6_remove_37 (by decide) ?_
    refine r_iload_n dX6_remove_39 rfl ?_
    refine r_imul dX6_remove_40 ?_
    refine r_iadd dX6_remove_41 ?_
    rw [zix0]
    refine r_istore dX6_remove_42 (by decide) rfl ?_
    have L1 : ∀ (N : Nat) (j : Nat), j ≤ 4 + 7 * (vN (qC S) - 1) → 4 + 7 * k ≤ j → 4 + 7 * (vN (qC S) - 1) < j + N → AtW mX6_remove Γ Ω (rmO σ1 (vN (qC S)) k j) 44 [some (.ref (ad Ω 369)), some (.int y), some (.int (nI k)), some (.int (voG (vLo (qC S)) (vHi (qC S)) k)), some (.int (nI j))] [] := by
      intro N
      induction N with
      | zero =>
        intro j hj hj2 hN
        exact absurd hN (by omega)
      | succ N ih =>
        intro j hj hj2 hN
        refine r_iload dX6_remove_44 rfl ?_
        refine r_iconst 4 dX6_remove_46 (by decide) ?_
        refine r_bipush 7 dX6_remove_47 (by decide) ?_
        refine r_aload_n dX6_remove_49 rfl ?_
        refine fX6_0 jX6_remove_X6 lX6_remove_7 dX6_remove_50 ?_
        refine r_iconst 0 dX6_remove_53 (by decide) ?_
        refine ldM370 0 rfl (by omega) dX6_remove_54 ?_
        rw [rmO_n]
        refine r_imul dX6_remove_55 ?_
        refine r_iadd dX6_remove_56 ?_
        rw [zix0]
        refine r_icmp_ge 83 dX6_remove_57 (by decide) (fun c57 => ?_) (fun c57 => ?_)
        ·
          replace c57 := Int32.not_lt.mpr c57
          have n57 := Nat.not_lt.mp (fun q => c57 ((nI_ltI (a := j) (b := 4 + 7 * (vN (qC S) - 1)) (by omega) (by omega)).mpr q))
          have ej : j = 4 + 7 * (vN (qC S) - 1) := by omega
          subst ej
          refine r_iload_n dX6_remove_83 rfl ?_
          exact r_iret hQ rfl dX6_remove_84 (reJ_of (push_z h hσ1 (fun q hq => setA_ne hq) (rm_z hz1 hk) (by rw [oRemove, ek])))
        ·
          replace c57 := Int32.not_le.mp c57
          have n57 := (nI_ltI (a := j) (b := 4 + 7 * (vN (qC S) - 1)) (by omega) (by omega)).mp c57
          refine r_aload_n dX6_remove_60 rfl ?_
          refine fX6_0 jX6_remove_X6 lX6_remove_7 dX6_remove_61 ?_
          refine r_iload dX6_remove_64 rfl ?_
          refine r_aload_n dX6_remove_66 rfl ?_
          refine fX6_0 jX6_remove_X6 lX6_remove_7 dX6_remove_67 ?_
          refine r_iload dX6_remove_70 rfl ?_
          refine r_bipush 7 dX6_remove_72 (by decide) ?_
          refine r_iadd dX6_remove_74 ?_
          rw [show nI j + 7 = nI (j + 7) from nI_add j 7]
          refine ldM370 (j + 7) rfl (by omega) dX6_remove_75 ?_
          refine stM370 j rfl (by omega) dX6_remove_76 ?_
          refine r_iinc (nI (j + 1)) dX6_remove_77 rfl (nI_1 j) (by decide) rfl ?_
          refine r_goto 44 dX6_remove_80 (by decide) ?_
          rw [rmO_get σ1 hj2, rmO_s σ1 hj2]; exact ih (j + 1) (by omega) (by omega) (by omega)
    rw [rmO_0]
    exact L1 (4 + 7 * (vN (qC S) - 1) + 1) (4 + 7 * k) (by omega) (by omega) (by omega)
  ·
    replace c7 := Int32.not_le.mp c7
    refine r_iconst (-1) dX6_remove_10 (by decide) ?_
    exact r_iret hQ rfl dX6_remove_11 (reJ_of (okMd_of (by rw [oRemove, loc_none hn (fI_neg hn c7)]) h (keepLw_rfl σ)))

set_option maxRecDepth 100000 in
set_option maxHeartbeats 4000000 in
theorem ctX6_move (l : Launch) (Ω : Om) (σ : Sg) (S : StV) (h : isMd σ S) (hg : gdV (qC S)) (y d x : Int32) : CtW l yX6_move wsX6_move (rmD 5) Ω [.ref (ad Ω 369), .int y, .int d, .int x] σ (reJ (fun r σ1 => okMd σ (oMove S y d x) r σ1)) := by
  refine ct_intro [some (.ref (ad Ω 369)), some (.int y), some (.int d), some (.int x), none, none, none, none, none] (by decide) rfl rfl (Nat.le_of_ble_eq_true rfl) (fun Γ hL hQ => ?_)
  show AtW mX6_move Γ Ω σ 0 [some (.ref (ad Ω 369)), some (.int y), some (.int d), some (.int x), none, none, none, none, none] []
  have hz := h.1
  have hn := h.1.1
  have hz0 := h.1.2.1
  have hu := hg.1
  have hru := hg.2.1
  have hl := gd_lt hg
  refine r_aload_n dX6_move_0 rfl ?_
  refine r_iload_n dX6_move_1 rfl ?_
  refine r_callVI (369) hL (ctX6_rankOf l Ω _ (qC S) hz hu _) kX6_move_125 (by omega) ⟨_, _, _, rfl, rfl, rfl⟩ rfl rfl (Nat.le_of_ble_eq_true rfl) dX6_move_2 ?_
  refine r_istore dX6_move_5 (by decide) rfl ?_
  refine r_iload dX6_move_7 rfl ?_
  refine r_if_lt 19 dX6_move_9 (by decide) (fun c9 => ?_) (fun c9 => ?_)
  ·
    refine r_iconst (-1) dX6_move_19 (by decide) ?_
    exact r_iret hQ rfl dX6_move_20 (reJ_of (okMd_of (oMove_no (Or.inl (loc_none hn (fI_neg hn c9)))) h (keepLw_rfl σ)))
  ·
    obtain ⟨k, hk, ek, e0⟩ := loc_some (fun q => c9 (by rw [q]; decide))
    rw [e0]
    refine r_iload_n dX6_move_12 rfl ?_
    refine r_callSI hL (ctX6_isDirection l Ω _ _) kX6_move_128 rfl rfl (Nat.le_of_ble_eq_true rfl) dX6_move_13 ?_
    refine r_if_ne 21 dX6_move_16 (by decide) (fun c16 => ?_) (fun c16 => ?_)
    ·
      replace c16 := bI_t c16
      obtain ⟨e, he, rfl⟩ := dir_ix c16
      have ec : (nI e).toNatClampNeg = e := nI_clamp (by omega)
      have hs := mv_range hg hk he x
      refine r_aload_n dX6_move_21 rfl ?_
      refine r_iload dX6_move_22 rfl ?_
      refine r_iload_n dX6_move_24 rfl ?_
      refine r_callVI (369) hL (ctX6_low l Ω _ (qC S) hz k (by omega) e (by omega)) kX6_move_47 (by omega) ⟨_, _, _, rfl, rfl, rfl⟩ rfl rfl (Nat.le_of_ble_eq_true rfl) dX6_move_25 ?_
      refine r_i2l dX6_move_28 ?_
      refine r_iload_n dX6_move_29 rfl ?_
      refine r_i2l dX6_move_30 ?_
      refine r_ladd dX6_move_31 ?_
      refine r_lstore dX6_move_32 (by decide) rfl ?_
      refine r_lload dX6_move_34 rfl ?_
      refine r_iconst 0 dX6_move_36 (by decide) ?_
      refine r_bipush 32 dX6_move_37 (by decide) ?_
      refine r_aload_n dX6_move_39 rfl ?_
      refine r_iload dX6_move_40 rfl ?_
      refine r_iload_n dX6_move_42 rfl ?_
      refine r_callVI (369) hL (ctX6_size l Ω _ (qC S) hz k (by omega) e (by omega)) kX6_move_50 (by omega) ⟨_, _, _, rfl, rfl, rfl⟩ rfl rfl (Nat.le_of_ble_eq_true rfl) dX6_move_43 ?_
      refine r_isub dX6_move_46 ?_
      refine r_callSI hL (ctX6_in l Ω _ _ _ _) kX6_move_53 rfl rfl (Nat.le_of_ble_eq_true rfl) dX6_move_47 ?_
      refine r_if_ne 56 dX6_move_50 (by decide) (fun c50 => ?_) (fun c50 => ?_)
      ·
        replace c50 := bI_t c50
        rw [hs] at c50
        have r1 := mv_in c50
        refine r_iload_n dX6_move_56 rfl ?_
        refine r_if_ne 63 dX6_move_57 (by decide) (fun c57 => ?_) (fun c57 => ?_)
        ·
          refine r_aload_n dX6_move_63 rfl ?_
          refine r_iload dX6_move_64 rfl ?_
          refine r_iload_n dX6_move_66 rfl ?_
          refine r_callVI (369) hL (ctX6_low l Ω _ (qC S) hz k (by omega) e (by omega)) kX6_move_47 (by omega) ⟨_, _, _, rfl, rfl, rfl⟩ rfl rfl (Nat.le_of_ble_eq_true rfl) dX6_move_67 ?_
          refine r_istore dX6_move_70 (by decide) rfl ?_
          refine r_aload_n dX6_move_72 rfl ?_
          refine r_iload dX6_move_73 rfl ?_
          refine r_iconst 1 dX6_move_75 (by decide) ?_
          refine r_iload_n dX6_move_76 rfl ?_
          refine r_iadd dX6_move_77 ?_
          rw [one_d]
          refine r_lload dX6_move_78 rfl ?_
          refine r_l2i dX6_move_80 ?_
          rw [wide_back]
          refine r_callVV (369) hL (ctX6_put l Ω _ k (1 + e) (by omega) (by omega) _) kX6_move_114 (by omega) ⟨_, _, _, rfl, rfl, rfl⟩ rfl rfl (Nat.le_of_ble_eq_true rfl) dX6_move_81 ?_
          intro σ1 hσ1
          have hz1 : isZ (σ1 370) (shV (qC S) k e x) := by rw [hσ1]; exact isZ_sh hz he x
          refine r_aload_n dX6_move_84 rfl ?_
          refine r_iload dX6_move_85 rfl ?_
          refine r_aload_n dX6_move_87 rfl ?_
          refine fX6_0 jX6_move_X6 lX6_move_7 dX6_move_88 ?_
          refine r_iconst 0 dX6_move_91 (by decide) ?_
          refine ldM370 0 rfl (by omega) dX6_move_92 ?_
          rw [hz1.2.1]
          show AtW _ _ _ _ _ _ (.int (nI (vN (qC S))) :: _)
          refine r_callVI (369) hL (ctX6_cutsAny l Ω _ (shV (qC S) k e x) hz1 k (vN (qC S)) hk (Nat.le_refl _)) kX6_move_131 (by omega) ⟨_, _, _, rfl, rfl, rfl⟩ rfl rfl (Nat.le_of_ble_eq_true rfl) dX6_move_93 ?_
          refine r_istore dX6_move_96 (by decide) rfl ?_
          refine r_aload_n dX6_move_98 rfl ?_
          refine r_iload dX6_move_99 rfl ?_
          refine r_iconst 1 dX6_move_101 (by decide) ?_
          refine r_iload_n dX6_move_102 rfl ?_
          refine r_iadd dX6_move_103 ?_
          rw [one_d]
          refine r_iload dX6_move_104 rfl ?_
          refine r_callVV (369) hL (ctX6_put l Ω _ k (1 + e) (by omega) (by omega) _) kX6_move_114 (by omega) ⟨_, _, _, rfl, rfl, rfl⟩ rfl rfl (Nat.le_of_ble_eq_true rfl) dX6_move_106 ?_
          intro σ2 hσ2
          have e2 : σ2 = σ := by rw [hσ2, hσ1]; exact up_back (hz.2.2.2.2.2.2 k hk e he).1.symm
          subst e2
          refine r_iload dX6_move_109 rfl ?_
          refine r_if_eq 117 dX6_move_111 (by decide) (fun c111 => ?_) (fun c111 => ?_)
          ·
            replace c111 := bI_f c111
            have cc : mvCut (qC S) k e x = false := c111
            refine r_aload_n dX6_move_117 rfl ?_
            refine r_aload_n dX6_move_118 rfl ?_
            refine fX6_0 jX6_move_X6 lX6_move_7 dX6_move_119 ?_
            refine r_callVV (369) hL (ctX6_push l Ω _ S h.2.1 h.1) kX6_move_110 (by omega) ⟨_, _, _, rfl, rfl, rfl⟩ rfl rfl (Nat.le_of_ble_eq_true rfl) dX6_move_122 ?_
            intro σ3 hσ3
            refine r_aload_n dX6_move_125 rfl ?_
            refine r_iload dX6_move_126 rfl ?_
            refine r_iconst 1 dX6_move_128 (by decide) ?_
            refine r_iload_n dX6_move_129 rfl ?_
            refine r_iadd dX6_move_130 ?_
            rw [one_d]
            refine r_lload dX6_move_131 rfl ?_
            refine r_l2i dX6_move_133 ?_
            rw [wide_back]
            refine r_callVV (369) hL (ctX6_put l Ω _ k (1 + e) (by omega) (by omega) _) kX6_move_114 (by omega) ⟨_, _, _, rfl, rfl, rfl⟩ rfl rfl (Nat.le_of_ble_eq_true rfl) dX6_move_134 ?_
            intro σ4 hσ4
            refine r_lload dX6_move_137 rfl ?_
            refine r_l2i dX6_move_139 ?_
            rw [wide_back]
            exact r_iret hQ rfl dX6_move_140 (reJ_of (push_z h hσ3 (fun q hq => by rw [hσ4]; exact up_ne hq) (by rw [hσ4]; exact isZ_sh (by rw [phI_z hσ3]; exact hz) he x) (by rw [oMove_at ek c16, ec, if_neg r1.1, if_neg r1.2, cc, if_neg c57]; rfl)))
          ·
            replace c111 := bI_t c111
            have cc : mvCut (qC S) k e x = true := c111
            refine r_bipush (-4) dX6_move_114 (by decide) ?_
            exact r_iret hQ rfl dX6_move_116 (reJ_of (okMd_of (by rw [oMove_at ek c16, ec, if_neg r1.1, if_neg r1.2, cc]; rfl) h (keepLw_rfl _)))
        ·
          refine r_bipush (-5) dX6_move_60 (by decide) ?_
          exact r_iret hQ rfl dX6_move_62 (reJ_of (okMd_of (by rw [oMove_at ek c16, ec, if_neg r1.1, if_neg r1.2, c57, mv_zero hg hk]; rfl) h (keepLw_rfl σ)))
      ·
        replace c50 := bI_f c50
        rw [hs] at c50
        have r1 := mv_out c50
        refine r_bipush (-2) dX6_move_53 (by decide) ?_
        exact r_iret hQ rfl dX6_move_55 (reJ_of (okMd_of (by rw [oMove_at ek c16, ec]; exact mv_o2 r1) h (keepLw_rfl σ)))
    ·
      replace c16 := bI_f c16
      refine r_iconst (-1) dX6_move_19 (by decide) ?_
      exact r_iret hQ rfl dX6_move_20 (reJ_of (okMd_of (oMove_no (Or.inr c16)) h (keepLw_rfl σ)))

set_option maxRecDepth 100000 in
set_option maxHeartbeats 4000000 in
theorem ctX6_fall (l : Launch) (Ω : Om) (σ : Sg) (S : StV) (h : isMd σ S) (hg : gdV (qC S)) (y : Int32) : CtW l yX6_fall wsX6_fall (rmD 5) Ω [.ref (ad Ω 369), .int y] σ (reJ (fun r σ1 => okMd σ (oFall S y) r σ1)) := by
  refine ct_intro [some (.ref (ad Ω 369)), some (.int y), none, none, none] (by decide) rfl rfl (Nat.le_of_ble_eq_true rfl) (fun Γ hL hQ => ?_)
  show AtW mX6_fall Γ Ω σ 0 [some (.ref (ad Ω 369)), some (.int y), none, none, none] []
  have hz := h.1
  have hn := h.1.1
  have hz0 := h.1.2.1
  have hu := hg.1
  have hru := hg.2.1
  have hl := gd_lt hg
  refine r_aload_n dX6_fall_0 rfl ?_
  refine r_iload_n dX6_fall_1 rfl ?_
  refine r_callVI (369) hL (ctX6_rankOf l Ω _ (qC S) hz hu _) kX6_fall_125 (by omega) ⟨_, _, _, rfl, rfl, rfl⟩ rfl rfl (Nat.le_of_ble_eq_true rfl) dX6_fall_2 ?_
  refine r_istore_n dX6_fall_5 (by decide) rfl ?_
  refine r_iload_n dX6_fall_6 rfl ?_
  refine r_if_ge 12 dX6_fall_7 (by decide) (fun c7 => ?_) (fun c7 => ?_)
  ·
    replace c7 := Int32.not_lt.mpr c7
    obtain ⟨k, hk, ek, e0⟩ := loc_some (fun q => c7 (by rw [q]; decide))
    rw [e0]
    refine r_iconst 0 dX6_fall_12 (by decide) ?_
    refine r_istore_n dX6_fall_13 (by decide) rfl ?_
    refine r_iconst 0 dX6_fall_14 (by decide) ?_
    refine r_istore dX6_fall_15 (by decide) rfl ?_
    have L1 : ∀ (N : Nat) (j : Nat) (x : Int32), j ≤ vN (qC S) → x = grG (vLo (qC S)) (vHi (qC S)) k j → vN (qC S) < j + N → AtW mX6_fall Γ Ω σ 17 [some (.ref (ad Ω 369)), some (.int y), some (.int (nI k)), some (.int x), some (.int (nI j))] [] := by
      intro N
      induction N with
      | zero =>
        intro j x hj hx hN
        exact absurd hN (by omega)
      | succ N ih =>
        intro j x hj hx hN
        refine r_iload dX6_fall_17 rfl ?_
        refine r_aload_n dX6_fall_19 rfl ?_
        refine fX6_0 jX6_fall_X6 lX6_fall_7 dX6_fall_20 ?_
        refine r_iconst 0 dX6_fall_23 (by decide) ?_
        refine ldM370 0 rfl (by omega) dX6_fall_24 ?_
        rw [hz0]
        refine r_icmp_ge 67 dX6_fall_25 (by decide) (fun c25 => ?_) (fun c25 => ?_)
        ·
          replace c25 := Int32.not_lt.mpr c25
          have n25 := Nat.not_lt.mp (fun q => c25 ((nI_ltI (a := j) (b := vN (qC S)) (by omega) (by omega)).mpr q))
          have ej : j = vN (qC S) := by omega
          subst ej
          refine r_aload_n dX6_fall_67 rfl ?_
          refine r_iload_n dX6_fall_68 rfl ?_
          refine r_iconst 2 dX6_fall_69 (by decide) ?_
          refine r_callVI (369) hL (ctX6_low l Ω _ (qC S) hz k (by omega) 2 (by omega)) kX6_fall_47 (by omega) ⟨_, _, _, rfl, rfl, rfl⟩ rfl rfl (Nat.le_of_ble_eq_true rfl) dX6_fall_70 ?_
          refine r_iload_n dX6_fall_73 rfl ?_
          refine r_isub dX6_fall_74 ?_
          refine r_istore dX6_fall_75 (by decide) rfl ?_
          refine r_iload dX6_fall_77 rfl ?_
          refine r_if_ne 85 dX6_fall_79 (by decide) (fun c79 => ?_) (fun c79 => ?_)
          ·
            refine r_aload_n dX6_fall_85 rfl ?_
            refine r_aload_n dX6_fall_86 rfl ?_
            refine fX6_0 jX6_fall_X6 lX6_fall_7 dX6_fall_87 ?_
            refine r_callVV (369) hL (ctX6_push l Ω _ S h.2.1 h.1) kX6_fall_110 (by omega) ⟨_, _, _, rfl, rfl, rfl⟩ rfl rfl (Nat.le_of_ble_eq_true rfl) dX6_fall_90 ?_
            intro σ1 hσ1
            refine r_aload_n dX6_fall_93 rfl ?_
            refine r_iload_n dX6_fall_94 rfl ?_
            refine r_iconst 3 dX6_fall_95 (by decide) ?_
            refine r_iload_n dX6_fall_96 rfl ?_
            refine r_callVV (369) hL (ctX6_put l Ω _ k 3 (by omega) (by omega) _) kX6_fall_114 (by omega) ⟨_, _, _, rfl, rfl, rfl⟩ rfl rfl (Nat.le_of_ble_eq_true rfl) dX6_fall_97 ?_
            intro σ2 hσ2
            refine r_iload dX6_fall_100 rfl ?_
            exact r_iret hQ rfl dX6_fall_102 (reJ_of (push_z h hσ1 (fun q hq => by rw [hσ2]; exact up_ne hq) (by rw [hσ2]; exact fall_z (by rw [phI_z hσ1]; exact hz) rfl) (by rw [hx] at c79 ⊢; rw [oFall, ek]; simp only; rw [if_pos (fall_pos hg hk c79)])))
          ·
            refine r_bipush (-5) dX6_fall_82 (by decide) ?_
            exact r_iret hQ rfl dX6_fall_84 (reJ_of (okMd_of (by rw [hx] at c79; rw [oFall, ek]; simp only; rw [c79, if_neg (by decide)]) h (keepLw_rfl σ)))
        ·
          replace c25 := Int32.not_le.mp c25
          have n25 := (nI_ltI (a := j) (b := vN (qC S)) (by omega) (by omega)).mp c25
          refine r_aload_n dX6_fall_28 rfl ?_
          refine r_iload dX6_fall_29 rfl ?_
          refine r_iload_n dX6_fall_31 rfl ?_
          refine r_callVI (369) hL (ctX6_isBelow l Ω _ (qC S) hz j k (by omega) (by omega) hl) kX6_fall_134 (by omega) ⟨_, _, _, rfl, rfl, rfl⟩ rfl rfl (Nat.le_of_ble_eq_true rfl) dX6_fall_32 ?_
          refine r_if_eq 59 dX6_fall_35 (by decide) (fun c35 => ?_) (fun c35 => ?_)
          ·
            replace c35 := bI_f c35
            refine r_iload_n dX6_fall_59 rfl ?_
            refine r_istore_n dX6_fall_60 (by decide) rfl ?_
            refine r_iinc (nI (j + 1)) dX6_fall_61 rfl (nI_1 j) (by decide) rfl ?_
            refine r_goto 17 dX6_fall_64 (by decide) ?_
            exact ih (j + 1) _ (by omega) (by rw [grG, if_neg (by simp [c35]), hx]) (by omega)
          ·
            replace c35 := bI_t c35
            refine r_aload_n dX6_fall_38 rfl ?_
            refine r_iload dX6_fall_39 rfl ?_
            refine r_iconst 2 dX6_fall_41 (by decide) ?_
            refine r_callVI (369) hL (ctX6_high l Ω _ (qC S) hz j (by omega) 2 (by omega)) kX6_fall_57 (by omega) ⟨_, _, _, rfl, rfl, rfl⟩ rfl rfl (Nat.le_of_ble_eq_true rfl) dX6_fall_42 ?_
            refine r_iload_n dX6_fall_45 rfl ?_
            refine r_icmp_le 59 dX6_fall_46 (by decide) (fun c46 => ?_) (fun c46 => ?_)
            ·
              replace c46 := Int32.not_lt.mpr c46
              refine r_iload_n dX6_fall_59 rfl ?_
              refine r_istore_n dX6_fall_60 (by decide) rfl ?_
              refine r_iinc (nI (j + 1)) dX6_fall_61 rfl (nI_1 j) (by decide) rfl ?_
              refine r_goto 17 dX6_fall_64 (by decide) ?_
              exact ih (j + 1) _ (by omega) (by rw [grG, if_pos c35, ← hx, if_neg c46]) (by omega)
            ·
              replace c46 := Int32.not_le.mp c46
              refine r_aload_n dX6_fall_49 rfl ?_
              refine r_iload dX6_fall_50 rfl ?_
              refine r_iconst 2 dX6_fall_52 (by decide) ?_
              refine r_callVI (369) hL (ctX6_high l Ω _ (qC S) hz j (by omega) 2 (by omega)) kX6_fall_57 (by omega) ⟨_, _, _, rfl, rfl, rfl⟩ rfl rfl (Nat.le_of_ble_eq_true rfl) dX6_fall_53 ?_
              refine r_goto 60 dX6_fall_56 (by decide) ?_
              refine r_istore_n dX6_fall_60 (by decide) rfl ?_
              refine r_iinc (nI (j + 1)) dX6_fall_61 rfl (nI_1 j) (by decide) rfl ?_
              refine r_goto 17 dX6_fall_64 (by decide) ?_
              exact ih (j + 1) _ (by omega) (by rw [grG, if_pos c35, ← hx, if_pos c46]) (by omega)
    exact L1 (vN (qC S) + 1) 0 _ (by omega) rfl (by omega)
  ·
    replace c7 := Int32.not_le.mp c7
    refine r_iconst (-1) dX6_fall_10 (by decide) ?_
    exact r_iret hQ rfl dX6_fall_11 (reJ_of (okMd_of (by rw [oFall, loc_none hn (fI_neg hn c7)]) h (keepLw_rfl σ)))
