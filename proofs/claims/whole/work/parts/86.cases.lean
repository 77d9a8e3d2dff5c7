/-! THE LAW: its calls, case by case -/
theorem nar_c (x : Int32) : vp_nar .char (x.toUInt32 % 65536).toInt32 = (x.toUInt32 % 65536).toInt32 := by
  show ((x.toUInt32 % 65536).toInt32.toUInt32 % 65536).toInt32 = _
  rw [UInt32.toUInt32_toInt32]
  congr 1
  refine UInt32.toNat_inj.mp ?_
  rw [UInt32.toNat_mod, UInt32.toNat_mod]
  exact Nat.mod_mod _ _
set_option maxRecDepth 20000 in
theorem kL_13 : CoV mL 13 RX5 yX5_add wsX5_add (rmD 5) 6 := ⟨_, _, _, _, gL_law_X5_add, rfl, by decide +kernel, ⟨Nat.le_of_ble_eq_true rfl, Nat.le_of_ble_eq_true rfl⟩, rfl, rfl⟩
set_option maxRecDepth 20000 in
theorem kL_17 : CoV mL 17 RX6 yX6_add wsX6_add (rmD 4) 6 := ⟨_, _, _, _, gL_law_X6_add, rfl, by decide +kernel, ⟨Nat.le_of_ble_eq_true rfl, Nat.le_of_ble_eq_true rfl⟩, rfl, rfl⟩
set_option maxRecDepth 20000 in
theorem kL_18 : CoV mL 18 RX5 yX5_remove wsX5_remove (rmD 5) 1 := ⟨_, _, _, _, gL_law_X5_remove, rfl, by decide +kernel, ⟨Nat.le_of_ble_eq_true rfl, Nat.le_of_ble_eq_true rfl⟩, rfl, rfl⟩
set_option maxRecDepth 20000 in
theorem kL_22 : CoV mL 22 RX6 yX6_remove wsX6_remove (rmD 3) 1 := ⟨_, _, _, _, gL_law_X6_remove, rfl, by decide +kernel, ⟨Nat.le_of_ble_eq_true rfl, Nat.le_of_ble_eq_true rfl⟩, rfl, rfl⟩
set_option maxRecDepth 20000 in
theorem kL_23 : CoV mL 23 RX5 yX5_move wsX5_move (rmD 5) 3 := ⟨_, _, _, _, gL_law_X5_move, rfl, by decide +kernel, ⟨Nat.le_of_ble_eq_true rfl, Nat.le_of_ble_eq_true rfl⟩, rfl, rfl⟩
set_option maxRecDepth 20000 in
theorem kL_27 : CoV mL 27 RX6 yX6_move wsX6_move (rmD 5) 3 := ⟨_, _, _, _, gL_law_X6_move, rfl, by decide +kernel, ⟨Nat.le_of_ble_eq_true rfl, Nat.le_of_ble_eq_true rfl⟩, rfl, rfl⟩
set_option maxRecDepth 20000 in
theorem kL_28 : CoV mL 28 RX5 yX5_fall wsX5_fall (rmD 5) 1 := ⟨_, _, _, _, gL_law_X5_fall, rfl, by decide +kernel, ⟨Nat.le_of_ble_eq_true rfl, Nat.le_of_ble_eq_true rfl⟩, rfl, rfl⟩
set_option maxRecDepth 20000 in
theorem kL_31 : CoV mL 31 RX6 yX6_fall wsX6_fall (rmD 5) 1 := ⟨_, _, _, _, gL_law_X6_fall, rfl, by decide +kernel, ⟨Nat.le_of_ble_eq_true rfl, Nat.le_of_ble_eq_true rfl⟩, rfl, rfl⟩
set_option maxRecDepth 20000 in
theorem kL_32 : CoV mL 32 RX5 yX5_split wsX5_split (rmD 5) 3 := ⟨_, _, _, _, gL_law_X5_split, rfl, by decide +kernel, ⟨Nat.le_of_ble_eq_true rfl, Nat.le_of_ble_eq_true rfl⟩, rfl, rfl⟩
set_option maxRecDepth 20000 in
theorem kL_35 : CoV mL 35 RX6 yX6_split wsX6_split (rmD 4) 3 := ⟨_, _, _, _, gL_law_X6_split, rfl, by decide +kernel, ⟨Nat.le_of_ble_eq_true rfl, Nat.le_of_ble_eq_true rfl⟩, rfl, rfl⟩
set_option maxRecDepth 20000 in
theorem kL_36 : CoV mL 36 RX5 yX5_breakRing wsX5_breakRing (rmD 7) 0 := ⟨_, _, _, _, gL_law_X5_breakRing, rfl, by decide +kernel, ⟨Nat.le_of_ble_eq_true rfl, Nat.le_of_ble_eq_true rfl⟩, rfl, rfl⟩
set_option maxRecDepth 20000 in
theorem kL_40 : CoV mL 40 RX6 yX6_breakRing wsX6_breakRing (rmD 8) 0 := ⟨_, _, _, _, gL_law_X6_breakRing, rfl, by decide +kernel, ⟨Nat.le_of_ble_eq_true rfl, Nat.le_of_ble_eq_true rfl⟩, rfl, rfl⟩
set_option maxRecDepth 20000 in
theorem kL_41 : CoV mL 41 RX5 yX5_turn wsX5_turn (rmD 6) 0 := ⟨_, _, _, _, gL_law_X5_turn, rfl, by decide +kernel, ⟨Nat.le_of_ble_eq_true rfl, Nat.le_of_ble_eq_true rfl⟩, rfl, rfl⟩
set_option maxRecDepth 20000 in
theorem kL_44 : CoV mL 44 RX6 yX6_turn wsX6_turn (rmD 7) 0 := ⟨_, _, _, _, gL_law_X6_turn, rfl, by decide +kernel, ⟨Nat.le_of_ble_eq_true rfl, Nat.le_of_ble_eq_true rfl⟩, rfl, rfl⟩
set_option maxRecDepth 20000 in
theorem kL_45 : CoV mL 45 RX5 yX5_set wsX5_set (rmD 5) 2 := ⟨_, _, _, _, gL_law_X5_set, rfl, by decide +kernel, ⟨Nat.le_of_ble_eq_true rfl, Nat.le_of_ble_eq_true rfl⟩, rfl, rfl⟩
set_option maxRecDepth 20000 in
theorem kL_49 : CoV mL 49 RX6 yX6_set wsX6_set (rmD 1) 2 := ⟨_, _, _, _, gL_law_X6_set, rfl, by decide +kernel, ⟨Nat.le_of_ble_eq_true rfl, Nat.le_of_ble_eq_true rfl⟩, rfl, rfl⟩
set_option maxRecDepth 20000 in
theorem kL_50 : CoV mL 50 RX5 yX5_type wsX5_type (rmD 1) 1 := ⟨_, _, _, _, gL_law_X5_type, rfl, by decide +kernel, ⟨Nat.le_of_ble_eq_true rfl, Nat.le_of_ble_eq_true rfl⟩, rfl, rfl⟩
set_option maxRecDepth 20000 in
theorem kL_54 : CoV mL 54 RX6 yX6_type wsX6_type (rmD 0) 1 := ⟨_, _, _, _, gL_law_X6_type, rfl, by decide +kernel, ⟨Nat.le_of_ble_eq_true rfl, Nat.le_of_ble_eq_true rfl⟩, rfl, rfl⟩
set_option maxRecDepth 20000 in
theorem kL_55 : CoV mL 55 RX5 yX5_clearText wsX5_clearText (rmD 0) 0 := ⟨_, _, _, _, gL_law_X5_clearText, rfl, by decide +kernel, ⟨Nat.le_of_ble_eq_true rfl, Nat.le_of_ble_eq_true rfl⟩, rfl, rfl⟩
set_option maxRecDepth 20000 in
theorem kL_58 : CoV mL 58 RX6 yX6_clearText wsX6_clearText (rmD 0) 0 := ⟨_, _, _, _, gL_law_X6_clearText, rfl, by decide +kernel, ⟨Nat.le_of_ble_eq_true rfl, Nat.le_of_ble_eq_true rfl⟩, rfl, rfl⟩
set_option maxRecDepth 20000 in
theorem kL_59 : CoV mL 59 RX5 yX5_addAll wsX5_addAll (rmD 5) 0 := ⟨_, _, _, _, gL_law_X5_addAll, rfl, by decide +kernel, ⟨Nat.le_of_ble_eq_true rfl, Nat.le_of_ble_eq_true rfl⟩, rfl, rfl⟩
set_option maxRecDepth 20000 in
theorem kL_62 : CoV mL 62 RX6 yX6_addAll wsX6_addAll (rmD 4) 0 := ⟨_, _, _, _, gL_law_X6_addAll, rfl, by decide +kernel, ⟨Nat.le_of_ble_eq_true rfl, Nat.le_of_ble_eq_true rfl⟩, rfl, rfl⟩
set_option maxRecDepth 20000 in
theorem kL_63 : CoV mL 63 RX5 yX5_undo wsX5_undo (rmD 4) 0 := ⟨_, _, _, _, gL_law_X5_undo, rfl, by decide +kernel, ⟨Nat.le_of_ble_eq_true rfl, Nat.le_of_ble_eq_true rfl⟩, rfl, rfl⟩
set_option maxRecDepth 20000 in
theorem kL_66 : CoV mL 66 RX6 yX6_undo wsX6_undo (rmD 0) 0 := ⟨_, _, _, _, gL_law_X6_undo, rfl, by decide +kernel, ⟨Nat.le_of_ble_eq_true rfl, Nat.le_of_ble_eq_true rfl⟩, rfl, rfl⟩
set_option maxRecDepth 20000 in
theorem kL_67 : CoV mL 67 RX5 yX5_keep wsX5_keep (rmD 3) 0 := ⟨_, _, _, _, gL_law_X5_keep, rfl, by decide +kernel, ⟨Nat.le_of_ble_eq_true rfl, Nat.le_of_ble_eq_true rfl⟩, rfl, rfl⟩
set_option maxRecDepth 20000 in
theorem kL_70 : CoV mL 70 RX6 yX6_keep wsX6_keep (rmD 0) 0 := ⟨_, _, _, _, gL_law_X6_keep, rfl, by decide +kernel, ⟨Nat.le_of_ble_eq_true rfl, Nat.le_of_ble_eq_true rfl⟩, rfl, rfl⟩
set_option maxRecDepth 20000 in
theorem kL_71 : CoV mL 71 RX5 yX5_restore wsX5_restore (rmD 5) 0 := ⟨_, _, _, _, gL_law_X5_restore, rfl, by decide +kernel, ⟨Nat.le_of_ble_eq_true rfl, Nat.le_of_ble_eq_true rfl⟩, rfl, rfl⟩
set_option maxRecDepth 20000 in
theorem kL_74 : CoV mL 74 RX6 yX6_restore wsX6_restore (rmD 1) 0 := ⟨_, _, _, _, gL_law_X6_restore, rfl, by decide +kernel, ⟨Nat.le_of_ble_eq_true rfl, Nat.le_of_ble_eq_true rfl⟩, rfl, rfl⟩
set_option maxRecDepth 20000 in
theorem kL_75 : CoV mL 75 RX5 yX5_box wsX5_box (rmD 0) 1 := ⟨_, _, _, _, gL_law_X5_box, rfl, by decide +kernel, ⟨Nat.le_of_ble_eq_true rfl, Nat.le_of_ble_eq_true rfl⟩, rfl, rfl⟩
set_option maxRecDepth 20000 in
theorem kL_78 : CoV mL 78 RX6 yX6_box wsX6_box (rmD 1) 1 := ⟨_, _, _, _, gL_law_X6_box, rfl, by decide +kernel, ⟨Nat.le_of_ble_eq_true rfl, Nat.le_of_ble_eq_true rfl⟩, rfl, rfl⟩
set_option maxRecDepth 20000 in
theorem kL_79 : CoV mL 79 RX5 yX5_end wsX5_end (rmD 1) 3 := ⟨_, _, _, _, gL_law_X5_end, rfl, by decide +kernel, ⟨Nat.le_of_ble_eq_true rfl, Nat.le_of_ble_eq_true rfl⟩, rfl, rfl⟩
set_option maxRecDepth 20000 in
theorem kL_83 : CoV mL 83 RX6 yX6_end wsX6_end (rmD 3) 3 := ⟨_, _, _, _, gL_law_X6_end, rfl, by decide +kernel, ⟨Nat.le_of_ble_eq_true rfl, Nat.le_of_ble_eq_true rfl⟩, rfl, rfl⟩
set_option maxRecDepth 20000 in
theorem kL_84 : CoV mL 84 RX5 yX5_ofBox wsX5_ofBox (rmD 7) 2 := ⟨_, _, _, _, gL_law_X5_ofBox, rfl, by decide +kernel, ⟨Nat.le_of_ble_eq_true rfl, Nat.le_of_ble_eq_true rfl⟩, rfl, rfl⟩
set_option maxRecDepth 20000 in
theorem kL_87 : CoV mL 87 RX6 yX6_ofBox wsX6_ofBox (rmD 7) 2 := ⟨_, _, _, _, gL_law_X6_ofBox, rfl, by decide +kernel, ⟨Nat.le_of_ble_eq_true rfl, Nat.le_of_ble_eq_true rfl⟩, rfl, rfl⟩
set_option maxRecDepth 20000 in
theorem kL_88 : CoV mL 88 RX5 yX5_pair wsX5_pair (rmD 3) 2 := ⟨_, _, _, _, gL_law_X5_pair, rfl, by decide +kernel, ⟨Nat.le_of_ble_eq_true rfl, Nat.le_of_ble_eq_true rfl⟩, rfl, rfl⟩
set_option maxRecDepth 20000 in
theorem kL_91 : CoV mL 91 RX6 yX6_pair wsX6_pair (rmD 6) 2 := ⟨_, _, _, _, gL_law_X6_pair, rfl, by decide +kernel, ⟨Nat.le_of_ble_eq_true rfl, Nat.le_of_ble_eq_true rfl⟩, rfl, rfl⟩
set_option maxRecDepth 20000 in
theorem kL_92 : CoV mL 92 RX5 yX5_drawn wsX5_drawn (rmD 7) 1 := ⟨_, _, _, _, gL_law_X5_drawn, rfl, by decide +kernel, ⟨Nat.le_of_ble_eq_true rfl, Nat.le_of_ble_eq_true rfl⟩, rfl, rfl⟩
set_option maxRecDepth 20000 in
theorem kL_95 : CoV mL 95 RX6 yX6_drawn wsX6_drawn (rmD 7) 1 := ⟨_, _, _, _, gL_law_X6_drawn, rfl, by decide +kernel, ⟨Nat.le_of_ble_eq_true rfl, Nat.le_of_ble_eq_true rfl⟩, rfl, rfl⟩
set_option maxRecDepth 20000 in
theorem kL_96 : CoV mL 96 RX5 yX5_total wsX5_total (rmD 7) 1 := ⟨_, _, _, _, gL_law_X5_total, rfl, by decide +kernel, ⟨Nat.le_of_ble_eq_true rfl, Nat.le_of_ble_eq_true rfl⟩, rfl, rfl⟩
set_option maxRecDepth 20000 in
theorem kL_99 : CoV mL 99 RX6 yX6_total wsX6_total (rmD 7) 1 := ⟨_, _, _, _, gL_law_X6_total, rfl, by decide +kernel, ⟨Nat.le_of_ble_eq_true rfl, Nat.le_of_ble_eq_true rfl⟩, rfl, rfl⟩
set_option maxRecDepth 20000 in
theorem kL_100 : CoV mL 100 RX5 yX5_waitsFor wsX5_waitsFor (rmD 7) 1 := ⟨_, _, _, _, gL_law_X5_waitsFor, rfl, by decide +kernel, ⟨Nat.le_of_ble_eq_true rfl, Nat.le_of_ble_eq_true rfl⟩, rfl, rfl⟩
set_option maxRecDepth 20000 in
theorem kL_103 : CoV mL 103 RX6 yX6_waitsFor wsX6_waitsFor (rmD 7) 1 := ⟨_, _, _, _, gL_law_X6_waitsFor, rfl, by decide +kernel, ⟨Nat.le_of_ble_eq_true rfl, Nat.le_of_ble_eq_true rfl⟩, rfl, rfl⟩
set_option maxRecDepth 20000 in
theorem kL_104 : CoV mL 104 RX5 yX5_breaks wsX5_breaks (rmD 7) 0 := ⟨_, _, _, _, gL_law_X5_breaks, rfl, by decide +kernel, ⟨Nat.le_of_ble_eq_true rfl, Nat.le_of_ble_eq_true rfl⟩, rfl, rfl⟩
set_option maxRecDepth 20000 in
theorem kL_107 : CoV mL 107 RX6 yX6_breaks wsX6_breaks (rmD 8) 0 := ⟨_, _, _, _, gL_law_X6_breaks, rfl, by decide +kernel, ⟨Nat.le_of_ble_eq_true rfl, Nat.le_of_ble_eq_true rfl⟩, rfl, rfl⟩
set_option maxRecDepth 20000 in
theorem kL_108 : CoV mL 108 RX5 yX5_drawnWithout wsX5_drawnWithout (rmD 6) 1 := ⟨_, _, _, _, gL_law_X5_drawnWithout, rfl, by decide +kernel, ⟨Nat.le_of_ble_eq_true rfl, Nat.le_of_ble_eq_true rfl⟩, rfl, rfl⟩
set_option maxRecDepth 20000 in
theorem kL_111 : CoV mL 111 RX6 yX6_drawnWithout wsX6_drawnWithout (rmD 7) 1 := ⟨_, _, _, _, gL_law_X6_drawnWithout, rfl, by decide +kernel, ⟨Nat.le_of_ble_eq_true rfl, Nat.le_of_ble_eq_true rfl⟩, rfl, rfl⟩
set_option maxRecDepth 20000 in
theorem lc_add {l : Launch} {Γ : GmW} {Ω : Om} {σ : Sg} {S : StV} {B b L i : Nat} {xs : Nat → Int32} (hL : gL Γ = l) (hs : ScL Γ b L xs) (hi : i + 7 ≤ L) (hB : B + 200 < 2 ^ 30) (h : ivB B σ S) (go : ∀ σ2 S2, ivB (B + 16) σ2 S2 → AtW mL Γ Ω σ2 749 (lvL Ω b i) []) : AtW mL Γ Ω σ 140 (lvL Ω b i) [] := by
  have hn := isC_n h.1
  have h4 := isMd_4 h.2.1
  have hg := h.2.2.1.1
  have hx0 := nu_x0 h.2.2.1.2 (by omega)
  obtain ⟨m0, hm0, hxm⟩ := nu_m0 h.2.2.1.2 (by omega)
  refine r_aload_n dL_law_140 rfl ?_
  refine r_arg hs 1 (by omega) 1 rfl 1 dL_law_141 dL_law_142 (fun k => r_iconst 1 dL_law_143 (by decide) k) dL_law_144 dL_law_145 ?_
  refine r_arg hs 2 (by omega) 2 rfl 1 dL_law_146 dL_law_147 (fun k => r_iconst 2 dL_law_148 (by decide) k) dL_law_149 dL_law_150 ?_
  refine r_arg hs 3 (by omega) 3 rfl 1 dL_law_151 dL_law_152 (fun k => r_iconst 3 dL_law_153 (by decide) k) dL_law_154 dL_law_155 ?_
  refine r_arg hs 4 (by omega) 4 rfl 1 dL_law_156 dL_law_157 (fun k => r_iconst 4 dL_law_158 (by decide) k) dL_law_159 dL_law_160 ?_
  refine r_arg hs 5 (by omega) 5 rfl 1 dL_law_161 dL_law_162 (fun k => r_iconst 5 dL_law_163 (by decide) k) dL_law_164 dL_law_165 ?_
  refine r_arg hs 6 (by omega) 6 rfl 2 dL_law_166 dL_law_167 (fun k => r_bipush 6 dL_law_168 (by decide) k) dL_law_170 dL_law_171 ?_
  refine r_callVJ 368 (As := [.int (xs (i + 1)), .int (xs (i + 2)), .int (xs (i + 3)), .int (xs (i + 4)), .int (xs (i + 5)), .int (xs (i + 6))]) (rest := []) hL (ctX5_add l Ω σ S h.1 hx0 (xs (i + 1)) (xs (i + 2)) (xs (i + 3)) (xs (i + 4)) (xs (i + 5)) (xs (i + 6)) ) kL_13 (by decide) ⟨_, _, _, rfl, rfl, rfl⟩ rfl rfl (Nat.le_of_ble_eq_true rfl) dL_law_172 (fun r σ1 h1 => ?_)
  refine r_aload_n dL_law_175 rfl ?_
  refine r_arg hs 1 (by omega) 1 rfl 1 dL_law_176 dL_law_177 (fun k => r_iconst 1 dL_law_178 (by decide) k) dL_law_179 dL_law_180 ?_
  refine r_arg hs 2 (by omega) 2 rfl 1 dL_law_181 dL_law_182 (fun k => r_iconst 2 dL_law_183 (by decide) k) dL_law_184 dL_law_185 ?_
  refine r_arg hs 3 (by omega) 3 rfl 1 dL_law_186 dL_law_187 (fun k => r_iconst 3 dL_law_188 (by decide) k) dL_law_189 dL_law_190 ?_
  refine r_arg hs 4 (by omega) 4 rfl 1 dL_law_191 dL_law_192 (fun k => r_iconst 4 dL_law_193 (by decide) k) dL_law_194 dL_law_195 ?_
  refine r_arg hs 5 (by omega) 5 rfl 1 dL_law_196 dL_law_197 (fun k => r_iconst 5 dL_law_198 (by decide) k) dL_law_199 dL_law_200 ?_
  refine r_arg hs 6 (by omega) 6 rfl 2 dL_law_201 dL_law_202 (fun k => r_bipush 6 dL_law_203 (by decide) k) dL_law_205 dL_law_206 ?_
  refine r_callVJ 369 (As := [.int (xs (i + 1)), .int (xs (i + 2)), .int (xs (i + 3)), .int (xs (i + 4)), .int (xs (i + 5)), .int (xs (i + 6))]) (rest := [.int r]) hL (ctX6_add l Ω σ1 S (isMd_kM h.2.1 h1.2.2)  (xs (i + 1)) (xs (i + 2)) (xs (i + 3)) (xs (i + 4)) (xs (i + 5)) (xs (i + 6))) kL_17 (by decide) ⟨_, _, _, rfl, rfl, rfl⟩ rfl rfl (Nat.le_of_ble_eq_true rfl) dL_law_207 (fun r2 σ2 h2 => ?_)
  obtain ⟨e, h3⟩ := iv_step h h1 h2 (goS_up (go_add h.2.2 h4 (by omega)) (by omega))
  exact r_icmp_eq 749 dL_law_210 (by decide) (fun _ => go _ _ h3) (fun q => absurd e q)
set_option maxRecDepth 20000 in
theorem lc_remove {l : Launch} {Γ : GmW} {Ω : Om} {σ : Sg} {S : StV} {B b L i : Nat} {xs : Nat → Int32} (hL : gL Γ = l) (hs : ScL Γ b L xs) (hi : i + 7 ≤ L) (hB : B + 200 < 2 ^ 30) (h : ivB B σ S) (go : ∀ σ2 S2, ivB (B + 16) σ2 S2 → AtW mL Γ Ω σ2 749 (lvL Ω b i) []) : AtW mL Γ Ω σ 215 (lvL Ω b i) [] := by
  have hn := isC_n h.1
  have h4 := isMd_4 h.2.1
  have hg := h.2.2.1.1
  have hx0 := nu_x0 h.2.2.1.2 (by omega)
  obtain ⟨m0, hm0, hxm⟩ := nu_m0 h.2.2.1.2 (by omega)
  refine r_aload_n dL_law_215 rfl ?_
  refine r_arg hs 1 (by omega) 1 rfl 1 dL_law_216 dL_law_217 (fun k => r_iconst 1 dL_law_218 (by decide) k) dL_law_219 dL_law_220 ?_
  refine r_callVJ 368 (As := [.int (xs (i + 1))]) (rest := []) hL (ctX5_remove l Ω σ S h.1  (xs (i + 1)) ) kL_18 (by decide) ⟨_, _, _, rfl, rfl, rfl⟩ rfl rfl (Nat.le_of_ble_eq_true rfl) dL_law_221 (fun r σ1 h1 => ?_)
  refine r_aload_n dL_law_224 rfl ?_
  refine r_arg hs 1 (by omega) 1 rfl 1 dL_law_225 dL_law_226 (fun k => r_iconst 1 dL_law_227 (by decide) k) dL_law_228 dL_law_229 ?_
  refine r_callVJ 369 (As := [.int (xs (i + 1))]) (rest := [.int r]) hL (ctX6_remove l Ω σ1 S (isMd_kM h.2.1 h1.2.2) hg (xs (i + 1))) kL_22 (by decide) ⟨_, _, _, rfl, rfl, rfl⟩ rfl rfl (Nat.le_of_ble_eq_true rfl) dL_law_230 (fun r2 σ2 h2 => ?_)
  obtain ⟨e, h3⟩ := iv_step h h1 h2 (goS_up (go_remove h.2.2 h4) (by omega))
  exact r_icmp_eq 749 dL_law_233 (by decide) (fun _ => go _ _ h3) (fun q => absurd e q)
set_option maxRecDepth 20000 in
theorem lc_move {l : Launch} {Γ : GmW} {Ω : Om} {σ : Sg} {S : StV} {B b L i : Nat} {xs : Nat → Int32} (hL : gL Γ = l) (hs : ScL Γ b L xs) (hi : i + 7 ≤ L) (hB : B + 200 < 2 ^ 30) (h : ivB B σ S) (go : ∀ σ2 S2, ivB (B + 16) σ2 S2 → AtW mL Γ Ω σ2 749 (lvL Ω b i) []) : AtW mL Γ Ω σ 238 (lvL Ω b i) [] := by
  have hn := isC_n h.1
  have h4 := isMd_4 h.2.1
  have hg := h.2.2.1.1
  have hx0 := nu_x0 h.2.2.1.2 (by omega)
  obtain ⟨m0, hm0, hxm⟩ := nu_m0 h.2.2.1.2 (by omega)
  refine r_aload_n dL_law_238 rfl ?_
  refine r_arg hs 1 (by omega) 1 rfl 1 dL_law_239 dL_law_240 (fun k => r_iconst 1 dL_law_241 (by decide) k) dL_law_242 dL_law_243 ?_
  refine r_arg hs 2 (by omega) 2 rfl 1 dL_law_244 dL_law_245 (fun k => r_iconst 2 dL_law_246 (by decide) k) dL_law_247 dL_law_248 ?_
  refine r_arg hs 3 (by omega) 3 rfl 1 dL_law_249 dL_law_250 (fun k => r_iconst 3 dL_law_251 (by decide) k) dL_law_252 dL_law_253 ?_
  refine r_callVJ 368 (As := [.int (xs (i + 1)), .int (xs (i + 2)), .int (xs (i + 3))]) (rest := []) hL (ctX5_move l Ω σ S h.1  (xs (i + 1)) (xs (i + 2)) (xs (i + 3)) ) kL_23 (by decide) ⟨_, _, _, rfl, rfl, rfl⟩ rfl rfl (Nat.le_of_ble_eq_true rfl) dL_law_254 (fun r σ1 h1 => ?_)
  refine r_aload_n dL_law_257 rfl ?_
  refine r_arg hs 1 (by omega) 1 rfl 1 dL_law_258 dL_law_259 (fun k => r_iconst 1 dL_law_260 (by decide) k) dL_law_261 dL_law_262 ?_
  refine r_arg hs 2 (by omega) 2 rfl 1 dL_law_263 dL_law_264 (fun k => r_iconst 2 dL_law_265 (by decide) k) dL_law_266 dL_law_267 ?_
  refine r_arg hs 3 (by omega) 3 rfl 1 dL_law_268 dL_law_269 (fun k => r_iconst 3 dL_law_270 (by decide) k) dL_law_271 dL_law_272 ?_
  refine r_callVJ 369 (As := [.int (xs (i + 1)), .int (xs (i + 2)), .int (xs (i + 3))]) (rest := [.int r]) hL (ctX6_move l Ω σ1 S (isMd_kM h.2.1 h1.2.2) hg (xs (i + 1)) (xs (i + 2)) (xs (i + 3))) kL_27 (by decide) ⟨_, _, _, rfl, rfl, rfl⟩ rfl rfl (Nat.le_of_ble_eq_true rfl) dL_law_273 (fun r2 σ2 h2 => ?_)
  obtain ⟨e, h3⟩ := iv_step h h1 h2 (goS_up (go_move h.2.2 h4) (by omega))
  exact r_icmp_eq 749 dL_law_276 (by decide) (fun _ => go _ _ h3) (fun q => absurd e q)
set_option maxRecDepth 20000 in
theorem lc_fall {l : Launch} {Γ : GmW} {Ω : Om} {σ : Sg} {S : StV} {B b L i : Nat} {xs : Nat → Int32} (hL : gL Γ = l) (hs : ScL Γ b L xs) (hi : i + 7 ≤ L) (hB : B + 200 < 2 ^ 30) (h : ivB B σ S) (go : ∀ σ2 S2, ivB (B + 16) σ2 S2 → AtW mL Γ Ω σ2 749 (lvL Ω b i) []) : AtW mL Γ Ω σ 281 (lvL Ω b i) [] := by
  have hn := isC_n h.1
  have h4 := isMd_4 h.2.1
  have hg := h.2.2.1.1
  have hx0 := nu_x0 h.2.2.1.2 (by omega)
  obtain ⟨m0, hm0, hxm⟩ := nu_m0 h.2.2.1.2 (by omega)
  refine r_aload_n dL_law_281 rfl ?_
  refine r_arg hs 1 (by omega) 1 rfl 1 dL_law_282 dL_law_283 (fun k => r_iconst 1 dL_law_284 (by decide) k) dL_law_285 dL_law_286 ?_
  refine r_callVJ 368 (As := [.int (xs (i + 1))]) (rest := []) hL (ctX5_fall l Ω σ S h.1  (xs (i + 1)) ) kL_28 (by decide) ⟨_, _, _, rfl, rfl, rfl⟩ rfl rfl (Nat.le_of_ble_eq_true rfl) dL_law_287 (fun r σ1 h1 => ?_)
  refine r_aload_n dL_law_290 rfl ?_
  refine r_arg hs 1 (by omega) 1 rfl 1 dL_law_291 dL_law_292 (fun k => r_iconst 1 dL_law_293 (by decide) k) dL_law_294 dL_law_295 ?_
  refine r_callVJ 369 (As := [.int (xs (i + 1))]) (rest := [.int r]) hL (ctX6_fall l Ω σ1 S (isMd_kM h.2.1 h1.2.2) hg (xs (i + 1))) kL_31 (by decide) ⟨_, _, _, rfl, rfl, rfl⟩ rfl rfl (Nat.le_of_ble_eq_true rfl) dL_law_296 (fun r2 σ2 h2 => ?_)
  obtain ⟨e, h3⟩ := iv_step h h1 h2 (goS_up (go_fall h.2.2 h4) (by omega))
  exact r_icmp_eq 749 dL_law_299 (by decide) (fun _ => go _ _ h3) (fun q => absurd e q)
set_option maxRecDepth 20000 in
theorem lc_split {l : Launch} {Γ : GmW} {Ω : Om} {σ : Sg} {S : StV} {B b L i : Nat} {xs : Nat → Int32} (hL : gL Γ = l) (hs : ScL Γ b L xs) (hi : i + 7 ≤ L) (hB : B + 200 < 2 ^ 30) (h : ivB B σ S) (go : ∀ σ2 S2, ivB (B + 16) σ2 S2 → AtW mL Γ Ω σ2 749 (lvL Ω b i) []) : AtW mL Γ Ω σ 304 (lvL Ω b i) [] := by
  have hn := isC_n h.1
  have h4 := isMd_4 h.2.1
  have hg := h.2.2.1.1
  have hx0 := nu_x0 h.2.2.1.2 (by omega)
  obtain ⟨m0, hm0, hxm⟩ := nu_m0 h.2.2.1.2 (by omega)
  refine r_aload_n dL_law_304 rfl ?_
  refine r_arg hs 1 (by omega) 1 rfl 1 dL_law_305 dL_law_306 (fun k => r_iconst 1 dL_law_307 (by decide) k) dL_law_308 dL_law_309 ?_
  refine r_arg hs 2 (by omega) 2 rfl 1 dL_law_310 dL_law_311 (fun k => r_iconst 2 dL_law_312 (by decide) k) dL_law_313 dL_law_314 ?_
  refine r_arg hs 3 (by omega) 3 rfl 1 dL_law_315 dL_law_316 (fun k => r_iconst 3 dL_law_317 (by decide) k) dL_law_318 dL_law_319 ?_
  refine r_callVJ 368 (As := [.int (xs (i + 1)), .int (xs (i + 2)), .int (xs (i + 3))]) (rest := []) hL (ctX5_split l Ω σ S h.1  (xs (i + 1)) (xs (i + 2)) (xs (i + 3)) hx0) kL_32 (by decide) ⟨_, _, _, rfl, rfl, rfl⟩ rfl rfl (Nat.le_of_ble_eq_true rfl) dL_law_320 (fun r σ1 h1 => ?_)
  refine r_aload_n dL_law_323 rfl ?_
  refine r_arg hs 1 (by omega) 1 rfl 1 dL_law_324 dL_law_325 (fun k => r_iconst 1 dL_law_326 (by decide) k) dL_law_327 dL_law_328 ?_
  refine r_arg hs 2 (by omega) 2 rfl 1 dL_law_329 dL_law_330 (fun k => r_iconst 2 dL_law_331 (by decide) k) dL_law_332 dL_law_333 ?_
  refine r_arg hs 3 (by omega) 3 rfl 1 dL_law_334 dL_law_335 (fun k => r_iconst 3 dL_law_336 (by decide) k) dL_law_337 dL_law_338 ?_
  refine r_callVJ 369 (As := [.int (xs (i + 1)), .int (xs (i + 2)), .int (xs (i + 3))]) (rest := [.int r]) hL (ctX6_split l Ω σ1 S (isMd_kM h.2.1 h1.2.2) hg (xs (i + 1)) (xs (i + 2)) (xs (i + 3))) kL_35 (by decide) ⟨_, _, _, rfl, rfl, rfl⟩ rfl rfl (Nat.le_of_ble_eq_true rfl) dL_law_339 (fun r2 σ2 h2 => ?_)
  obtain ⟨e, h3⟩ := iv_step h h1 h2 (goS_up (go_split h.2.2 h4 (by omega)) (by omega))
  exact r_icmp_eq 749 dL_law_342 (by decide) (fun _ => go _ _ h3) (fun q => absurd e q)
set_option maxRecDepth 20000 in
theorem lc_breakRing {l : Launch} {Γ : GmW} {Ω : Om} {σ : Sg} {S : StV} {B b L i : Nat} {xs : Nat → Int32} (hL : gL Γ = l) (hs : ScL Γ b L xs) (hi : i + 7 ≤ L) (hB : B + 200 < 2 ^ 30) (h : ivB B σ S) (go : ∀ σ2 S2, ivB (B + 16) σ2 S2 → AtW mL Γ Ω σ2 749 (lvL Ω b i) []) : AtW mL Γ Ω σ 347 (lvL Ω b i) [] := by
  have hn := isC_n h.1
  have h4 := isMd_4 h.2.1
  have hg := h.2.2.1.1
  have hx0 := nu_x0 h.2.2.1.2 (by omega)
  obtain ⟨m0, hm0, hxm⟩ := nu_m0 h.2.2.1.2 (by omega)
  refine r_aload_n dL_law_347 rfl ?_
  refine r_callVJ 368 (As := []) (rest := []) hL (ctX5_breakRing l Ω σ S h.1 hx0  ) kL_36 (by decide) ⟨_, _, _, rfl, rfl, rfl⟩ rfl rfl (Nat.le_of_ble_eq_true rfl) dL_law_348 (fun r σ1 h1 => ?_)
  refine r_aload_n dL_law_351 rfl ?_
  refine r_callVJ 369 (As := []) (rest := [.int r]) hL (ctX6_breakRing l Ω σ1 S (isMd_kM h.2.1 h1.2.2) hg ) kL_40 (by decide) ⟨_, _, _, rfl, rfl, rfl⟩ rfl rfl (Nat.le_of_ble_eq_true rfl) dL_law_352 (fun r2 σ2 h2 => ?_)
  obtain ⟨e, h3⟩ := iv_step h h1 h2 (goS_up (go_break h.2.2 h4 (by omega)) (by omega))
  exact r_icmp_eq 749 dL_law_355 (by decide) (fun _ => go _ _ h3) (fun q => absurd e q)
set_option maxRecDepth 20000 in
theorem lc_turn {l : Launch} {Γ : GmW} {Ω : Om} {σ : Sg} {S : StV} {B b L i : Nat} {xs : Nat → Int32} (hL : gL Γ = l) (hs : ScL Γ b L xs) (hi : i + 7 ≤ L) (hB : B + 200 < 2 ^ 30) (h : ivB B σ S) (go : ∀ σ2 S2, ivB (B + 16) σ2 S2 → AtW mL Γ Ω σ2 749 (lvL Ω b i) []) : AtW mL Γ Ω σ 360 (lvL Ω b i) [] := by
  have hn := isC_n h.1
  have h4 := isMd_4 h.2.1
  have hg := h.2.2.1.1
  have hx0 := nu_x0 h.2.2.1.2 (by omega)
  obtain ⟨m0, hm0, hxm⟩ := nu_m0 h.2.2.1.2 (by omega)
  refine r_aload_n dL_law_360 rfl ?_
  refine r_callVJ 368 (As := []) (rest := []) hL (ctX5_turn l Ω σ S h.1   ) kL_41 (by decide) ⟨_, _, _, rfl, rfl, rfl⟩ rfl rfl (Nat.le_of_ble_eq_true rfl) dL_law_361 (fun r σ1 h1 => ?_)
  refine r_aload_n dL_law_364 rfl ?_
  refine r_callVJ 369 (As := []) (rest := [.int r]) hL (ctX6_turn l Ω σ1 S (isMd_kM h.2.1 h1.2.2) hg (pe_tn hn) ) kL_44 (by decide) ⟨_, _, _, rfl, rfl, rfl⟩ rfl rfl (Nat.le_of_ble_eq_true rfl) dL_law_365 (fun r2 σ2 h2 => ?_)
  obtain ⟨e, h3⟩ := iv_step h h1 h2 (goS_up (go_turn h.2.2 h4) (by omega))
  exact r_icmp_eq 749 dL_law_368 (by decide) (fun _ => go _ _ h3) (fun q => absurd e q)
set_option maxRecDepth 20000 in
theorem lc_set {l : Launch} {Γ : GmW} {Ω : Om} {σ : Sg} {S : StV} {B b L i : Nat} {xs : Nat → Int32} (hL : gL Γ = l) (hs : ScL Γ b L xs) (hi : i + 7 ≤ L) (hB : B + 200 < 2 ^ 30) (h : ivB B σ S) (go : ∀ σ2 S2, ivB (B + 16) σ2 S2 → AtW mL Γ Ω σ2 749 (lvL Ω b i) []) : AtW mL Γ Ω σ 373 (lvL Ω b i) [] := by
  have hn := isC_n h.1
  have h4 := isMd_4 h.2.1
  have hg := h.2.2.1.1
  have hx0 := nu_x0 h.2.2.1.2 (by omega)
  obtain ⟨m0, hm0, hxm⟩ := nu_m0 h.2.2.1.2 (by omega)
  refine r_aload_n dL_law_373 rfl ?_
  refine r_arg hs 1 (by omega) 1 rfl 1 dL_law_374 dL_law_375 (fun k => r_iconst 1 dL_law_376 (by decide) k) dL_law_377 dL_law_378 ?_
  refine r_arg hs 2 (by omega) 2 rfl 1 dL_law_379 dL_law_380 (fun k => r_iconst 2 dL_law_381 (by decide) k) dL_law_382 dL_law_383 ?_
  refine r_callVJ 368 (As := [.int (xs (i + 1)), .int (xs (i + 2))]) (rest := []) hL (ctX5_set l Ω σ S h.1  (xs (i + 1)) (xs (i + 2)) ) kL_45 (by decide) ⟨_, _, _, rfl, rfl, rfl⟩ rfl rfl (Nat.le_of_ble_eq_true rfl) dL_law_384 (fun r σ1 h1 => ?_)
  refine r_aload_n dL_law_387 rfl ?_
  refine r_arg hs 1 (by omega) 1 rfl 1 dL_law_388 dL_law_389 (fun k => r_iconst 1 dL_law_390 (by decide) k) dL_law_391 dL_law_392 ?_
  refine r_arg hs 2 (by omega) 2 rfl 1 dL_law_393 dL_law_394 (fun k => r_iconst 2 dL_law_395 (by decide) k) dL_law_396 dL_law_397 ?_
  refine r_callVJ 369 (As := [.int (xs (i + 1)), .int (xs (i + 2))]) (rest := [.int r]) hL (ctX6_set l Ω σ1 S (isMd_kM h.2.1 h1.2.2) hg (xs (i + 1)) (xs (i + 2))) kL_49 (by decide) ⟨_, _, _, rfl, rfl, rfl⟩ rfl rfl (Nat.le_of_ble_eq_true rfl) dL_law_398 (fun r2 σ2 h2 => ?_)
  obtain ⟨e, h3⟩ := iv_step h h1 h2 (goS_up (go_set h.2.2 h4) (by omega))
  exact r_icmp_eq 749 dL_law_401 (by decide) (fun _ => go _ _ h3) (fun q => absurd e q)
set_option maxRecDepth 20000 in
theorem lc_type {l : Launch} {Γ : GmW} {Ω : Om} {σ : Sg} {S : StV} {B b L i : Nat} {xs : Nat → Int32} (hL : gL Γ = l) (hs : ScL Γ b L xs) (hi : i + 7 ≤ L) (hB : B + 200 < 2 ^ 30) (h : ivB B σ S) (go : ∀ σ2 S2, ivB (B + 16) σ2 S2 → AtW mL Γ Ω σ2 749 (lvL Ω b i) []) : AtW mL Γ Ω σ 406 (lvL Ω b i) [] := by
  have hn := isC_n h.1
  have h4 := isMd_4 h.2.1
  have hg := h.2.2.1.1
  have hx0 := nu_x0 h.2.2.1.2 (by omega)
  obtain ⟨m0, hm0, hxm⟩ := nu_m0 h.2.2.1.2 (by omega)
  refine r_aload_n dL_law_406 rfl ?_
  refine r_arg hs 1 (by omega) 1 rfl 1 dL_law_407 dL_law_408 (fun k => r_iconst 1 dL_law_409 (by decide) k) dL_law_410 dL_law_411 ?_
  refine r_i2c dL_law_412 ?_
  refine r_callVJ 368 (As := [.int (((xs (i + 1)).toUInt32 % 65536).toInt32)]) (rest := []) hL (ctX5_type l Ω σ S h.1  (((xs (i + 1)).toUInt32 % 65536).toInt32) (nar_c _)) kL_50 (by decide) ⟨_, _, _, rfl, rfl, rfl⟩ rfl rfl (Nat.le_of_ble_eq_true rfl) dL_law_413 (fun r σ1 h1 => ?_)
  refine r_aload_n dL_law_416 rfl ?_
  refine r_arg hs 1 (by omega) 1 rfl 1 dL_law_417 dL_law_418 (fun k => r_iconst 1 dL_law_419 (by decide) k) dL_law_420 dL_law_421 ?_
  refine r_i2c dL_law_422 ?_
  refine r_callVJ 369 (As := [.int (((xs (i + 1)).toUInt32 % 65536).toInt32)]) (rest := [.int r]) hL (ctX6_type l Ω σ1 S (isMd_kM h.2.1 h1.2.2)  (((xs (i + 1)).toUInt32 % 65536).toInt32)) kL_54 (by decide) ⟨_, _, _, rfl, rfl, rfl⟩ rfl rfl (Nat.le_of_ble_eq_true rfl) dL_law_423 (fun r2 σ2 h2 => ?_)
  obtain ⟨e, h3⟩ := iv_step h h1 h2 (goS_up (go_type h.2.2) (by omega))
  exact r_icmp_eq 749 dL_law_426 (by decide) (fun _ => go _ _ h3) (fun q => absurd e q)
set_option maxRecDepth 20000 in
theorem lc_clearText {l : Launch} {Γ : GmW} {Ω : Om} {σ : Sg} {S : StV} {B b L i : Nat} {xs : Nat → Int32} (hL : gL Γ = l) (hs : ScL Γ b L xs) (hi : i + 7 ≤ L) (hB : B + 200 < 2 ^ 30) (h : ivB B σ S) (go : ∀ σ2 S2, ivB (B + 16) σ2 S2 → AtW mL Γ Ω σ2 749 (lvL Ω b i) []) : AtW mL Γ Ω σ 431 (lvL Ω b i) [] := by
  have hn := isC_n h.1
  have h4 := isMd_4 h.2.1
  have hg := h.2.2.1.1
  have hx0 := nu_x0 h.2.2.1.2 (by omega)
  obtain ⟨m0, hm0, hxm⟩ := nu_m0 h.2.2.1.2 (by omega)
  refine r_aload_n dL_law_431 rfl ?_
  refine r_callVJ 368 (As := []) (rest := []) hL (ctX5_clearText l Ω σ S h.1   ) kL_55 (by decide) ⟨_, _, _, rfl, rfl, rfl⟩ rfl rfl (Nat.le_of_ble_eq_true rfl) dL_law_432 (fun r σ1 h1 => ?_)
  refine r_aload_n dL_law_435 rfl ?_
  refine r_callVJ 369 (As := []) (rest := [.int r]) hL (ctX6_clearText l Ω σ1 S (isMd_kM h.2.1 h1.2.2)  ) kL_58 (by decide) ⟨_, _, _, rfl, rfl, rfl⟩ rfl rfl (Nat.le_of_ble_eq_true rfl) dL_law_436 (fun r2 σ2 h2 => ?_)
  obtain ⟨e, h3⟩ := iv_step h h1 h2 (goS_up (go_clear h.2.2) (by omega))
  exact r_icmp_eq 749 dL_law_439 (by decide) (fun _ => go _ _ h3) (fun q => absurd e q)
set_option maxRecDepth 20000 in
theorem lc_addAll {l : Launch} {Γ : GmW} {Ω : Om} {σ : Sg} {S : StV} {B b L i : Nat} {xs : Nat → Int32} (hL : gL Γ = l) (hs : ScL Γ b L xs) (hi : i + 7 ≤ L) (hB : B + 200 < 2 ^ 30) (h : ivB B σ S) (go : ∀ σ2 S2, ivB (B + 16) σ2 S2 → AtW mL Γ Ω σ2 749 (lvL Ω b i) []) : AtW mL Γ Ω σ 444 (lvL Ω b i) [] := by
  have hn := isC_n h.1
  have h4 := isMd_4 h.2.1
  have hg := h.2.2.1.1
  have hx0 := nu_x0 h.2.2.1.2 (by omega)
  obtain ⟨m0, hm0, hxm⟩ := nu_m0 h.2.2.1.2 (by omega)
  refine r_aload_n dL_law_444 rfl ?_
  refine r_callVJ 368 (As := []) (rest := []) hL (ctX5_addAll l Ω σ S h.1 m0 hm0 hxm  ) kL_59 (by decide) ⟨_, _, _, rfl, rfl, rfl⟩ rfl rfl (Nat.le_of_ble_eq_true rfl) dL_law_445 (fun r σ1 h1 => ?_)
  refine r_aload_n dL_law_448 rfl ?_
  refine r_callVJ 369 (As := []) (rest := [.int r]) hL (ctX6_addAll l Ω σ1 S (isMd_kM h.2.1 h1.2.2)  ) kL_62 (by decide) ⟨_, _, _, rfl, rfl, rfl⟩ rfl rfl (Nat.le_of_ble_eq_true rfl) dL_law_449 (fun r2 σ2 h2 => ?_)
  obtain ⟨e, h3⟩ := iv_step h h1 h2 (go_addAll h.2.2 h4 (by omega) (tx_16 (isMd_80 h.2.1)))
  exact r_icmp_eq 749 dL_law_452 (by decide) (fun _ => go _ _ h3) (fun q => absurd e q)
set_option maxRecDepth 20000 in
theorem lc_undo {l : Launch} {Γ : GmW} {Ω : Om} {σ : Sg} {S : StV} {B b L i : Nat} {xs : Nat → Int32} (hL : gL Γ = l) (hs : ScL Γ b L xs) (hi : i + 7 ≤ L) (hB : B + 200 < 2 ^ 30) (h : ivB B σ S) (go : ∀ σ2 S2, ivB (B + 16) σ2 S2 → AtW mL Γ Ω σ2 749 (lvL Ω b i) []) : AtW mL Γ Ω σ 457 (lvL Ω b i) [] := by
  have hn := isC_n h.1
  have h4 := isMd_4 h.2.1
  have hg := h.2.2.1.1
  have hx0 := nu_x0 h.2.2.1.2 (by omega)
  obtain ⟨m0, hm0, hxm⟩ := nu_m0 h.2.2.1.2 (by omega)
  refine r_aload_n dL_law_457 rfl ?_
  refine r_callVJ 368 (As := []) (rest := []) hL (ctX5_undo l Ω σ S h.1   ) kL_63 (by decide) ⟨_, _, _, rfl, rfl, rfl⟩ rfl rfl (Nat.le_of_ble_eq_true rfl) dL_law_458 (fun r σ1 h1 => ?_)
  refine r_aload_n dL_law_461 rfl ?_
  refine r_callVJ 369 (As := []) (rest := [.int r]) hL (ctX6_undo l Ω σ1 S (isMd_kM h.2.1 h1.2.2)  ) kL_66 (by decide) ⟨_, _, _, rfl, rfl, rfl⟩ rfl rfl (Nat.le_of_ble_eq_true rfl) dL_law_462 (fun r2 σ2 h2 => ?_)
  obtain ⟨e, h3⟩ := iv_step h h1 h2 (goS_up (go_undo h.2.2) (by omega))
  exact r_icmp_eq 749 dL_law_465 (by decide) (fun _ => go _ _ h3) (fun q => absurd e q)
set_option maxRecDepth 20000 in
theorem lc_keep {l : Launch} {Γ : GmW} {Ω : Om} {σ : Sg} {S : StV} {B b L i : Nat} {xs : Nat → Int32} (hL : gL Γ = l) (hs : ScL Γ b L xs) (hi : i + 7 ≤ L) (hB : B + 200 < 2 ^ 30) (h : ivB B σ S) (go : ∀ σ2 S2, ivB (B + 16) σ2 S2 → AtW mL Γ Ω σ2 749 (lvL Ω b i) []) : AtW mL Γ Ω σ 470 (lvL Ω b i) [] := by
  have hn := isC_n h.1
  have h4 := isMd_4 h.2.1
  have hg := h.2.2.1.1
  have hx0 := nu_x0 h.2.2.1.2 (by omega)
  obtain ⟨m0, hm0, hxm⟩ := nu_m0 h.2.2.1.2 (by omega)
  refine r_aload_n dL_law_470 rfl ?_
  refine r_callVJ 368 (As := []) (rest := []) hL (ctX5_keep l Ω σ S h.1   ) kL_67 (by decide) ⟨_, _, _, rfl, rfl, rfl⟩ rfl rfl (Nat.le_of_ble_eq_true rfl) dL_law_471 (fun r σ1 h1 => ?_)
  refine r_aload_n dL_law_474 rfl ?_
  refine r_callVJ 369 (As := []) (rest := [.int r]) hL (ctX6_keep l Ω σ1 S (isMd_kM h.2.1 h1.2.2)  ) kL_70 (by decide) ⟨_, _, _, rfl, rfl, rfl⟩ rfl rfl (Nat.le_of_ble_eq_true rfl) dL_law_475 (fun r2 σ2 h2 => ?_)
  obtain ⟨e, h3⟩ := iv_step h h1 h2 (goS_up (go_keep h.2.2) (by omega))
  exact r_icmp_eq 749 dL_law_478 (by decide) (fun _ => go _ _ h3) (fun q => absurd e q)
set_option maxRecDepth 20000 in
theorem lc_restore {l : Launch} {Γ : GmW} {Ω : Om} {σ : Sg} {S : StV} {B b L i : Nat} {xs : Nat → Int32} (hL : gL Γ = l) (hs : ScL Γ b L xs) (hi : i + 7 ≤ L) (hB : B + 200 < 2 ^ 30) (h : ivB B σ S) (go : ∀ σ2 S2, ivB (B + 16) σ2 S2 → AtW mL Γ Ω σ2 749 (lvL Ω b i) []) : AtW mL Γ Ω σ 483 (lvL Ω b i) [] := by
  have hn := isC_n h.1
  have h4 := isMd_4 h.2.1
  have hg := h.2.2.1.1
  have hx0 := nu_x0 h.2.2.1.2 (by omega)
  obtain ⟨m0, hm0, hxm⟩ := nu_m0 h.2.2.1.2 (by omega)
  refine r_aload_n dL_law_483 rfl ?_
  refine r_callVJ 368 (As := []) (rest := []) hL (ctX5_restore l Ω σ S h.1   ) kL_71 (by decide) ⟨_, _, _, rfl, rfl, rfl⟩ rfl rfl (Nat.le_of_ble_eq_true rfl) dL_law_484 (fun r σ1 h1 => ?_)
  refine r_aload_n dL_law_487 rfl ?_
  refine r_callVJ 369 (As := []) (rest := [.int r]) hL (ctX6_restore l Ω σ1 S (isMd_kM h.2.1 h1.2.2)  ) kL_74 (by decide) ⟨_, _, _, rfl, rfl, rfl⟩ rfl rfl (Nat.le_of_ble_eq_true rfl) dL_law_488 (fun r2 σ2 h2 => ?_)
  obtain ⟨e, h3⟩ := iv_step h h1 h2 (goS_up (go_restore h.2.2 h4) (by omega))
  exact r_icmp_eq 749 dL_law_491 (by decide) (fun _ => go _ _ h3) (fun q => absurd e q)
set_option maxRecDepth 20000 in
theorem lc_box {l : Launch} {Γ : GmW} {Ω : Om} {σ : Sg} {S : StV} {B b L i : Nat} {xs : Nat → Int32} (hL : gL Γ = l) (hs : ScL Γ b L xs) (hi : i + 7 ≤ L) (hB : B + 200 < 2 ^ 30) (h : ivB B σ S) (go : ∀ σ2 S2, ivB (B + 16) σ2 S2 → AtW mL Γ Ω σ2 749 (lvL Ω b i) []) : AtW mL Γ Ω σ 496 (lvL Ω b i) [] := by
  have hn := isC_n h.1
  have h4 := isMd_4 h.2.1
  have hg := h.2.2.1.1
  have hx0 := nu_x0 h.2.2.1.2 (by omega)
  obtain ⟨m0, hm0, hxm⟩ := nu_m0 h.2.2.1.2 (by omega)
  refine r_aload_n dL_law_496 rfl ?_
  refine r_arg hs 1 (by omega) 1 rfl 1 dL_law_497 dL_law_498 (fun k => r_iconst 1 dL_law_499 (by decide) k) dL_law_500 dL_law_501 ?_
  refine r_callVJ 368 (As := [.int (xs (i + 1))]) (rest := []) hL (ctX5_box l Ω σ S h.1  (xs (i + 1)) ) kL_75 (by decide) ⟨_, _, _, rfl, rfl, rfl⟩ rfl rfl (Nat.le_of_ble_eq_true rfl) dL_law_502 (fun r σ1 h1 => ?_)
  refine r_aload_n dL_law_505 rfl ?_
  refine r_arg hs 1 (by omega) 1 rfl 1 dL_law_506 dL_law_507 (fun k => r_iconst 1 dL_law_508 (by decide) k) dL_law_509 dL_law_510 ?_
  refine r_callVJ 369 (As := [.int (xs (i + 1))]) (rest := [.int r]) hL (ctX6_box l Ω σ1 S (isMd_kM h.2.1 h1.2.2)  (xs (i + 1))) kL_78 (by decide) ⟨_, _, _, rfl, rfl, rfl⟩ rfl rfl (Nat.le_of_ble_eq_true rfl) dL_law_511 (fun r2 σ2 h2 => ?_)
  obtain ⟨e, h3⟩ := iv_step h h1 h2 (goS_up h.2.2 (by omega))
  exact r_icmp_eq 749 dL_law_514 (by decide) (fun _ => go _ _ h3) (fun q => absurd e q)
set_option maxRecDepth 20000 in
theorem lc_end {l : Launch} {Γ : GmW} {Ω : Om} {σ : Sg} {S : StV} {B b L i : Nat} {xs : Nat → Int32} (hL : gL Γ = l) (hs : ScL Γ b L xs) (hi : i + 7 ≤ L) (hB : B + 200 < 2 ^ 30) (h : ivB B σ S) (go : ∀ σ2 S2, ivB (B + 16) σ2 S2 → AtW mL Γ Ω σ2 749 (lvL Ω b i) []) : AtW mL Γ Ω σ 519 (lvL Ω b i) [] := by
  have hn := isC_n h.1
  have h4 := isMd_4 h.2.1
  have hg := h.2.2.1.1
  have hx0 := nu_x0 h.2.2.1.2 (by omega)
  obtain ⟨m0, hm0, hxm⟩ := nu_m0 h.2.2.1.2 (by omega)
  by_cases c : xs (i + 3) = 0
  · refine r_aload_n dL_law_519 rfl ?_
    refine r_arg hs 1 (by omega) 1 rfl 1 dL_law_520 dL_law_521 (fun k => r_iconst 1 dL_law_522 (by decide) k) dL_law_523 dL_law_524 ?_
    refine r_arg hs 2 (by omega) 2 rfl 1 dL_law_525 dL_law_526 (fun k => r_iconst 2 dL_law_527 (by decide) k) dL_law_528 dL_law_529 ?_
    refine r_arg hs 3 (by omega) 3 rfl 1 dL_law_530 dL_law_531 (fun k => r_iconst 3 dL_law_532 (by decide) k) dL_law_533 dL_law_534 ?_
    refine r_if_eq 542 dL_law_535 (by decide) (fun _ => ?_) (fun q => absurd c q)
    refine r_iconst 0 dL_law_542 (by decide) ?_
    refine r_callVJ 368 (As := [.int (xs (i + 1)), .int (xs (i + 2)), .int ((0 : Int32))]) (rest := []) hL (ctX5_end l Ω σ S h.1  (xs (i + 1)) (xs (i + 2)) ((0 : Int32)) ) kL_79 (by decide) ⟨_, _, _, rfl, rfl, rfl⟩ rfl rfl (Nat.le_of_ble_eq_true rfl) dL_law_543 (fun r σ1 h1 => ?_)
    refine r_aload_n dL_law_546 rfl ?_
    refine r_arg hs 1 (by omega) 1 rfl 1 dL_law_547 dL_law_548 (fun k => r_iconst 1 dL_law_549 (by decide) k) dL_law_550 dL_law_551 ?_
    refine r_arg hs 2 (by omega) 2 rfl 1 dL_law_552 dL_law_553 (fun k => r_iconst 2 dL_law_554 (by decide) k) dL_law_555 dL_law_556 ?_
    refine r_arg hs 3 (by omega) 3 rfl 1 dL_law_557 dL_law_558 (fun k => r_iconst 3 dL_law_559 (by decide) k) dL_law_560 dL_law_561 ?_
    refine r_if_eq 569 dL_law_562 (by decide) (fun _ => ?_) (fun q => absurd c q)
    refine r_iconst 0 dL_law_569 (by decide) ?_
    refine r_callVJ 369 (As := [.int (xs (i + 1)), .int (xs (i + 2)), .int ((0 : Int32))]) (rest := [.int r]) hL (ctX6_end l Ω σ1 S (isMd_kM h.2.1 h1.2.2) hg (xs (i + 1)) (xs (i + 2)) ((0 : Int32))) kL_83 (by decide) ⟨_, _, _, rfl, rfl, rfl⟩ rfl rfl (Nat.le_of_ble_eq_true rfl) dL_law_570 (fun r2 σ2 h2 => ?_)
    obtain ⟨e, h3⟩ := iv_step h h1 h2 (goS_up h.2.2 (by omega))
    exact r_icmp_eq 749 dL_law_573 (by decide) (fun _ => go _ _ h3) (fun q => absurd e q)
  · refine r_aload_n dL_law_519 rfl ?_
    refine r_arg hs 1 (by omega) 1 rfl 1 dL_law_520 dL_law_521 (fun k => r_iconst 1 dL_law_522 (by decide) k) dL_law_523 dL_law_524 ?_
    refine r_arg hs 2 (by omega) 2 rfl 1 dL_law_525 dL_law_526 (fun k => r_iconst 2 dL_law_527 (by decide) k) dL_law_528 dL_law_529 ?_
    refine r_arg hs 3 (by omega) 3 rfl 1 dL_law_530 dL_law_531 (fun k => r_iconst 3 dL_law_532 (by decide) k) dL_law_533 dL_law_534 ?_
    refine r_if_eq 542 dL_law_535 (by decide) (fun q => absurd q c) (fun _ => ?_)
    refine r_iconst 1 dL_law_538 (by decide) ?_
    refine r_goto 543 dL_law_539 (by decide) ?_
    refine r_callVJ 368 (As := [.int (xs (i + 1)), .int (xs (i + 2)), .int ((1 : Int32))]) (rest := []) hL (ctX5_end l Ω σ S h.1  (xs (i + 1)) (xs (i + 2)) ((1 : Int32)) ) kL_79 (by decide) ⟨_, _, _, rfl, rfl, rfl⟩ rfl rfl (Nat.le_of_ble_eq_true rfl) dL_law_543 (fun r σ1 h1 => ?_)
    refine r_aload_n dL_law_546 rfl ?_
    refine r_arg hs 1 (by omega) 1 rfl 1 dL_law_547 dL_law_548 (fun k => r_iconst 1 dL_law_549 (by decide) k) dL_law_550 dL_law_551 ?_
    refine r_arg hs 2 (by omega) 2 rfl 1 dL_law_552 dL_law_553 (fun k => r_iconst 2 dL_law_554 (by decide) k) dL_law_555 dL_law_556 ?_
    refine r_arg hs 3 (by omega) 3 rfl 1 dL_law_557 dL_law_558 (fun k => r_iconst 3 dL_law_559 (by decide) k) dL_law_560 dL_law_561 ?_
    refine r_if_eq 569 dL_law_562 (by decide) (fun q => absurd q c) (fun _ => ?_)
    refine r_iconst 1 dL_law_565 (by decide) ?_
    refine r_goto 570 dL_law_566 (by decide) ?_
    refine r_callVJ 369 (As := [.int (xs (i + 1)), .int (xs (i + 2)), .int ((1 : Int32))]) (rest := [.int r]) hL (ctX6_end l Ω σ1 S (isMd_kM h.2.1 h1.2.2) hg (xs (i + 1)) (xs (i + 2)) ((1 : Int32))) kL_83 (by decide) ⟨_, _, _, rfl, rfl, rfl⟩ rfl rfl (Nat.le_of_ble_eq_true rfl) dL_law_570 (fun r2 σ2 h2 => ?_)
    obtain ⟨e, h3⟩ := iv_step h h1 h2 (goS_up h.2.2 (by omega))
    exact r_icmp_eq 749 dL_law_573 (by decide) (fun _ => go _ _ h3) (fun q => absurd e q)
set_option maxRecDepth 20000 in
theorem lc_ofBox {l : Launch} {Γ : GmW} {Ω : Om} {σ : Sg} {S : StV} {B b L i : Nat} {xs : Nat → Int32} (hL : gL Γ = l) (hs : ScL Γ b L xs) (hi : i + 7 ≤ L) (hB : B + 200 < 2 ^ 30) (h : ivB B σ S) (go : ∀ σ2 S2, ivB (B + 16) σ2 S2 → AtW mL Γ Ω σ2 749 (lvL Ω b i) []) : AtW mL Γ Ω σ 578 (lvL Ω b i) [] := by
  have hn := isC_n h.1
  have h4 := isMd_4 h.2.1
  have hg := h.2.2.1.1
  have hx0 := nu_x0 h.2.2.1.2 (by omega)
  obtain ⟨m0, hm0, hxm⟩ := nu_m0 h.2.2.1.2 (by omega)
  refine r_aload_n dL_law_578 rfl ?_
  refine r_arg hs 1 (by omega) 1 rfl 1 dL_law_579 dL_law_580 (fun k => r_iconst 1 dL_law_581 (by decide) k) dL_law_582 dL_law_583 ?_
  refine r_arg hs 2 (by omega) 2 rfl 1 dL_law_584 dL_law_585 (fun k => r_iconst 2 dL_law_586 (by decide) k) dL_law_587 dL_law_588 ?_
  refine r_callVJ 368 (As := [.int (xs (i + 1)), .int (xs (i + 2))]) (rest := []) hL (ctX5_ofBox l Ω σ S h.1 (gd_hY hg) (xs (i + 1)) (xs (i + 2)) ) kL_84 (by decide) ⟨_, _, _, rfl, rfl, rfl⟩ rfl rfl (Nat.le_of_ble_eq_true rfl) dL_law_589 (fun r σ1 h1 => ?_)
  refine r_aload_n dL_law_592 rfl ?_
  refine r_arg hs 1 (by omega) 1 rfl 1 dL_law_593 dL_law_594 (fun k => r_iconst 1 dL_law_595 (by decide) k) dL_law_596 dL_law_597 ?_
  refine r_arg hs 2 (by omega) 2 rfl 1 dL_law_598 dL_law_599 (fun k => r_iconst 2 dL_law_600 (by decide) k) dL_law_601 dL_law_602 ?_
  refine r_callVJ 369 (As := [.int (xs (i + 1)), .int (xs (i + 2))]) (rest := [.int r]) hL (ctX6_ofBox l Ω σ1 S (isMd_kM h.2.1 h1.2.2) hg (pe_on hn) (pe_ly hn) (pe_sr hn) (pe_sh hg hn) (xs (i + 1)) (xs (i + 2))) kL_87 (by decide) ⟨_, _, _, rfl, rfl, rfl⟩ rfl rfl (Nat.le_of_ble_eq_true rfl) dL_law_603 (fun r2 σ2 h2 => ?_)
  obtain ⟨e, h3⟩ := iv_step h h1 h2 (goS_up h.2.2 (by omega))
  exact r_icmp_eq 749 dL_law_606 (by decide) (fun _ => go _ _ h3) (fun q => absurd e q)
set_option maxRecDepth 20000 in
theorem lc_pair {l : Launch} {Γ : GmW} {Ω : Om} {σ : Sg} {S : StV} {B b L i : Nat} {xs : Nat → Int32} (hL : gL Γ = l) (hs : ScL Γ b L xs) (hi : i + 7 ≤ L) (hB : B + 200 < 2 ^ 30) (h : ivB B σ S) (go : ∀ σ2 S2, ivB (B + 16) σ2 S2 → AtW mL Γ Ω σ2 749 (lvL Ω b i) []) : AtW mL Γ Ω σ 611 (lvL Ω b i) [] := by
  have hn := isC_n h.1
  have h4 := isMd_4 h.2.1
  have hg := h.2.2.1.1
  have hx0 := nu_x0 h.2.2.1.2 (by omega)
  obtain ⟨m0, hm0, hxm⟩ := nu_m0 h.2.2.1.2 (by omega)
  refine r_aload_n dL_law_611 rfl ?_
  refine r_arg hs 1 (by omega) 1 rfl 1 dL_law_612 dL_law_613 (fun k => r_iconst 1 dL_law_614 (by decide) k) dL_law_615 dL_law_616 ?_
  refine r_arg hs 2 (by omega) 2 rfl 1 dL_law_617 dL_law_618 (fun k => r_iconst 2 dL_law_619 (by decide) k) dL_law_620 dL_law_621 ?_
  refine r_callVJ 368 (As := [.int (xs (i + 1)), .int (xs (i + 2))]) (rest := []) hL (ctX5_pair l Ω σ S h.1  (xs (i + 1)) (xs (i + 2)) ) kL_88 (by decide) ⟨_, _, _, rfl, rfl, rfl⟩ rfl rfl (Nat.le_of_ble_eq_true rfl) dL_law_622 (fun r σ1 h1 => ?_)
  refine r_aload_n dL_law_625 rfl ?_
  refine r_arg hs 1 (by omega) 1 rfl 1 dL_law_626 dL_law_627 (fun k => r_iconst 1 dL_law_628 (by decide) k) dL_law_629 dL_law_630 ?_
  refine r_arg hs 2 (by omega) 2 rfl 1 dL_law_631 dL_law_632 (fun k => r_iconst 2 dL_law_633 (by decide) k) dL_law_634 dL_law_635 ?_
  refine r_callVJ 369 (As := [.int (xs (i + 1)), .int (xs (i + 2))]) (rest := [.int r]) hL (ctX6_pair l Ω σ1 S (isMd_kM h.2.1 h1.2.2) hg (pr_ex hg) (xs (i + 1)) (xs (i + 2))) kL_91 (by decide) ⟨_, _, _, rfl, rfl, rfl⟩ rfl rfl (Nat.le_of_ble_eq_true rfl) dL_law_636 (fun r2 σ2 h2 => ?_)
  obtain ⟨e, h3⟩ := iv_step h h1 h2 (goS_up h.2.2 (by omega))
  exact r_icmp_eq 749 dL_law_639 (by decide) (fun _ => go _ _ h3) (fun q => absurd e q)
set_option maxRecDepth 20000 in
theorem lc_drawn {l : Launch} {Γ : GmW} {Ω : Om} {σ : Sg} {S : StV} {B b L i : Nat} {xs : Nat → Int32} (hL : gL Γ = l) (hs : ScL Γ b L xs) (hi : i + 7 ≤ L) (hB : B + 200 < 2 ^ 30) (h : ivB B σ S) (go : ∀ σ2 S2, ivB (B + 16) σ2 S2 → AtW mL Γ Ω σ2 749 (lvL Ω b i) []) : AtW mL Γ Ω σ 644 (lvL Ω b i) [] := by
  have hn := isC_n h.1
  have h4 := isMd_4 h.2.1
  have hg := h.2.2.1.1
  have hx0 := nu_x0 h.2.2.1.2 (by omega)
  obtain ⟨m0, hm0, hxm⟩ := nu_m0 h.2.2.1.2 (by omega)
  refine r_aload_n dL_law_644 rfl ?_
  refine r_arg hs 1 (by omega) 1 rfl 1 dL_law_645 dL_law_646 (fun k => r_iconst 1 dL_law_647 (by decide) k) dL_law_648 dL_law_649 ?_
  refine r_callVJ 368 (As := [.int (xs (i + 1))]) (rest := []) hL (ctX5_drawn l Ω σ S h.1  (xs (i + 1)) ) kL_92 (by decide) ⟨_, _, _, rfl, rfl, rfl⟩ rfl rfl (Nat.le_of_ble_eq_true rfl) dL_law_650 (fun r σ1 h1 => ?_)
  refine r_aload_n dL_law_653 rfl ?_
  refine r_arg hs 1 (by omega) 1 rfl 1 dL_law_654 dL_law_655 (fun k => r_iconst 1 dL_law_656 (by decide) k) dL_law_657 dL_law_658 ?_
  refine r_callVJ 369 (As := [.int (xs (i + 1))]) (rest := [.int r]) hL (ctX6_drawn l Ω σ1 S (isMd_kM h.2.1 h1.2.2) hg (pe_dr hn) (xs (i + 1))) kL_95 (by decide) ⟨_, _, _, rfl, rfl, rfl⟩ rfl rfl (Nat.le_of_ble_eq_true rfl) dL_law_659 (fun r2 σ2 h2 => ?_)
  obtain ⟨e, h3⟩ := iv_step h h1 h2 (goS_up h.2.2 (by omega))
  exact r_icmp_eq 749 dL_law_662 (by decide) (fun _ => go _ _ h3) (fun q => absurd e q)
set_option maxRecDepth 20000 in
theorem lc_total {l : Launch} {Γ : GmW} {Ω : Om} {σ : Sg} {S : StV} {B b L i : Nat} {xs : Nat → Int32} (hL : gL Γ = l) (hs : ScL Γ b L xs) (hi : i + 7 ≤ L) (hB : B + 200 < 2 ^ 30) (h : ivB B σ S) (go : ∀ σ2 S2, ivB (B + 16) σ2 S2 → AtW mL Γ Ω σ2 749 (lvL Ω b i) []) : AtW mL Γ Ω σ 667 (lvL Ω b i) [] := by
  have hn := isC_n h.1
  have h4 := isMd_4 h.2.1
  have hg := h.2.2.1.1
  have hx0 := nu_x0 h.2.2.1.2 (by omega)
  obtain ⟨m0, hm0, hxm⟩ := nu_m0 h.2.2.1.2 (by omega)
  refine r_aload_n dL_law_667 rfl ?_
  refine r_arg hs 1 (by omega) 1 rfl 1 dL_law_668 dL_law_669 (fun k => r_iconst 1 dL_law_670 (by decide) k) dL_law_671 dL_law_672 ?_
  refine r_callVJ 368 (As := [.int (xs (i + 1))]) (rest := []) hL (ctX5_total l Ω σ S h.1 (gd_hY hg) (xs (i + 1)) ) kL_96 (by decide) ⟨_, _, _, rfl, rfl, rfl⟩ rfl rfl (Nat.le_of_ble_eq_true rfl) dL_law_673 (fun r σ1 h1 => ?_)
  refine r_aload_n dL_law_676 rfl ?_
  refine r_arg hs 1 (by omega) 1 rfl 1 dL_law_677 dL_law_678 (fun k => r_iconst 1 dL_law_679 (by decide) k) dL_law_680 dL_law_681 ?_
  refine r_callVJ 369 (As := [.int (xs (i + 1))]) (rest := [.int r]) hL (ctX6_total l Ω σ1 S (isMd_kM h.2.1 h1.2.2) hg (pe_on hn) (pe_ly hn) (pe_sr hn) (pe_sa hn) (pe_sh hg hn) (pe_rg hn) (pe_dr hn) (xs (i + 1))) kL_99 (by decide) ⟨_, _, _, rfl, rfl, rfl⟩ rfl rfl (Nat.le_of_ble_eq_true rfl) dL_law_682 (fun r2 σ2 h2 => ?_)
  obtain ⟨e, h3⟩ := iv_step h h1 h2 (goS_up h.2.2 (by omega))
  exact r_icmp_eq 749 dL_law_685 (by decide) (fun _ => go _ _ h3) (fun q => absurd e q)
set_option maxRecDepth 20000 in
theorem lc_waitsFor {l : Launch} {Γ : GmW} {Ω : Om} {σ : Sg} {S : StV} {B b L i : Nat} {xs : Nat → Int32} (hL : gL Γ = l) (hs : ScL Γ b L xs) (hi : i + 7 ≤ L) (hB : B + 200 < 2 ^ 30) (h : ivB B σ S) (go : ∀ σ2 S2, ivB (B + 16) σ2 S2 → AtW mL Γ Ω σ2 749 (lvL Ω b i) []) : AtW mL Γ Ω σ 690 (lvL Ω b i) [] := by
  have hn := isC_n h.1
  have h4 := isMd_4 h.2.1
  have hg := h.2.2.1.1
  have hx0 := nu_x0 h.2.2.1.2 (by omega)
  obtain ⟨m0, hm0, hxm⟩ := nu_m0 h.2.2.1.2 (by omega)
  refine r_aload_n dL_law_690 rfl ?_
  refine r_arg hs 1 (by omega) 1 rfl 1 dL_law_691 dL_law_692 (fun k => r_iconst 1 dL_law_693 (by decide) k) dL_law_694 dL_law_695 ?_
  refine r_callVJ 368 (As := [.int (xs (i + 1))]) (rest := []) hL (ctX5_waitsFor l Ω σ S h.1  (xs (i + 1)) ) kL_100 (by decide) ⟨_, _, _, rfl, rfl, rfl⟩ rfl rfl (Nat.le_of_ble_eq_true rfl) dL_law_696 (fun r σ1 h1 => ?_)
  refine r_aload_n dL_law_699 rfl ?_
  refine r_arg hs 1 (by omega) 1 rfl 1 dL_law_700 dL_law_701 (fun k => r_iconst 1 dL_law_702 (by decide) k) dL_law_703 dL_law_704 ?_
  refine r_callVJ 369 (As := [.int (xs (i + 1))]) (rest := [.int r]) hL (ctX6_waitsFor l Ω σ1 S (isMd_kM h.2.1 h1.2.2) hg (pe_ds hn) (pe_wa hn) (xs (i + 1))) kL_103 (by decide) ⟨_, _, _, rfl, rfl, rfl⟩ rfl rfl (Nat.le_of_ble_eq_true rfl) dL_law_705 (fun r2 σ2 h2 => ?_)
  obtain ⟨e, h3⟩ := iv_step h h1 h2 (goS_up h.2.2 (by omega))
  exact r_icmp_eq 749 dL_law_708 (by decide) (fun _ => go _ _ h3) (fun q => absurd e q)
set_option maxRecDepth 20000 in
theorem lc_breaks {l : Launch} {Γ : GmW} {Ω : Om} {σ : Sg} {S : StV} {B b L i : Nat} {xs : Nat → Int32} (hL : gL Γ = l) (hs : ScL Γ b L xs) (hi : i + 7 ≤ L) (hB : B + 200 < 2 ^ 30) (h : ivB B σ S) (go : ∀ σ2 S2, ivB (B + 16) σ2 S2 → AtW mL Γ Ω σ2 749 (lvL Ω b i) []) : AtW mL Γ Ω σ 713 (lvL Ω b i) [] := by
  have hn := isC_n h.1
  have h4 := isMd_4 h.2.1
  have hg := h.2.2.1.1
  have hx0 := nu_x0 h.2.2.1.2 (by omega)
  obtain ⟨m0, hm0, hxm⟩ := nu_m0 h.2.2.1.2 (by omega)
  refine r_aload_n dL_law_713 rfl ?_
  refine r_callVJ 368 (As := []) (rest := []) hL (ctX5_breaks l Ω σ S h.1 m0 hm0 hxm  ) kL_104 (by decide) ⟨_, _, _, rfl, rfl, rfl⟩ rfl rfl (Nat.le_of_ble_eq_true rfl) dL_law_714 (fun r σ1 h1 => ?_)
  refine r_aload_n dL_law_717 rfl ?_
  refine r_callVJ 369 (As := []) (rest := [.int r]) hL (ctX6_breaks l Ω σ1 S (isMd_kM h.2.1 h1.2.2) hg B (by omega) h.2.2.1.2 ) kL_107 (by decide) ⟨_, _, _, rfl, rfl, rfl⟩ rfl rfl (Nat.le_of_ble_eq_true rfl) dL_law_718 (fun r2 σ2 h2 => ?_)
  obtain ⟨e, h3⟩ := iv_step h h1 h2 (goS_up h.2.2 (by omega))
  exact r_icmp_eq 749 dL_law_721 (by decide) (fun _ => go _ _ h3) (fun q => absurd e q)
set_option maxRecDepth 20000 in
theorem lc_drawnWithout {l : Launch} {Γ : GmW} {Ω : Om} {σ : Sg} {S : StV} {B b L i : Nat} {xs : Nat → Int32} (hL : gL Γ = l) (hs : ScL Γ b L xs) (hi : i + 7 ≤ L) (hB : B + 200 < 2 ^ 30) (h : ivB B σ S) (go : ∀ σ2 S2, ivB (B + 16) σ2 S2 → AtW mL Γ Ω σ2 749 (lvL Ω b i) []) : AtW mL Γ Ω σ 726 (lvL Ω b i) [] := by
  have hn := isC_n h.1
  have h4 := isMd_4 h.2.1
  have hg := h.2.2.1.1
  have hx0 := nu_x0 h.2.2.1.2 (by omega)
  obtain ⟨m0, hm0, hxm⟩ := nu_m0 h.2.2.1.2 (by omega)
  refine r_aload_n dL_law_726 rfl ?_
  refine r_arg hs 1 (by omega) 1 rfl 1 dL_law_727 dL_law_728 (fun k => r_iconst 1 dL_law_729 (by decide) k) dL_law_730 dL_law_731 ?_
  refine r_callVJ 368 (As := [.int (xs (i + 1))]) (rest := []) hL (ctX5_drawnWithout l Ω σ S h.1  (xs (i + 1)) ) kL_108 (by decide) ⟨_, _, _, rfl, rfl, rfl⟩ rfl rfl (Nat.le_of_ble_eq_true rfl) dL_law_732 (fun r σ1 h1 => ?_)
  refine r_aload_n dL_law_735 rfl ?_
  refine r_arg hs 1 (by omega) 1 rfl 1 dL_law_736 dL_law_737 (fun k => r_iconst 1 dL_law_738 (by decide) k) dL_law_739 dL_law_740 ?_
  refine r_callVJ 369 (As := [.int (xs (i + 1))]) (rest := [.int r]) hL (ctX6_drawnWithout l Ω σ1 S (isMd_kM h.2.1 h1.2.2) hg (pe_wo hn) (xs (i + 1))) kL_111 (by decide) ⟨_, _, _, rfl, rfl, rfl⟩ rfl rfl (Nat.le_of_ble_eq_true rfl) dL_law_741 (fun r2 σ2 h2 => ?_)
  obtain ⟨e, h3⟩ := iv_step h h1 h2 (goS_up h.2.2 (by omega))
  exact r_icmp_eq 749 dL_law_744 (by decide) (fun _ => go _ _ h3) (fun q => absurd e q)
