set_option maxRecDepth 100000 in
set_option maxHeartbeats 4000000 in
theorem ctL_act (l : Launch) (Ω : Om) (σ : Sg) (S : StV) (B : Nat) (h : isC σ S) (hgo : goS B S) (hB : B + 200 < 2 ^ 30) (hn : vN (qC S) ≤ 10) (x y : Int32) : CtW l yL_act wsL_act (rmD 8) Ω [.ref (ad Ω 368), .int x, .int y] σ (reJ (acP B)) := by
  refine ct_intro [some (.ref (ad Ω 368)), some (.int (x)), some (.int (y)), none, none, none, none] (by decide) rfl rfl (Nat.le_of_ble_eq_true rfl) (fun Γ hL hQ => ?_)
  show AtW mL_act Γ Ω σ 0 [some (.ref (ad Ω 368)), some (.int (x)), some (.int (y)), none, none, none, none] []
  have hg := hgo.1.1
  have hs : lwS S (σ 369) (σ 370) σ := ⟨h, rfl, rfl⟩
  have hx0 := nu_x0 hgo.1.2 (by omega)
  refine r_aload_n dL_act_0 rfl ?_
  refine r_iconst 0 dL_act_1 (by decide) ?_
  refine r_callVJ (368) hL (ctX5_total l Ω _ S hs.1 (gd_hY hg) _) kL_act_9 (by omega) ⟨_, _, _, rfl, rfl, rfl⟩ rfl rfl (Nat.le_of_ble_eq_true rfl) dL_act_2 ?_
  intro x2 σ2 hσ2
  obtain ⟨e2, hs⟩ := lw_q hs hσ2 rfl
  replace e2 := e2.trans (toA_0 S)
  subst e2
  refine r_istore_n dL_act_5 (by decide) rfl ?_
  have J1 : ∀ (bx0 : Int32) (τ : Sg) (hs : lwS S (σ 369) (σ 370) τ), AtW mL_act Γ Ω τ 25 [some (.ref (ad Ω 368)), some (.int (x)), some (.int (y)), some (.int (nI (vN (qC S)))), some (.int (bx0)), none, none] [] := by
    intro bx0 τ hs
    refine r_iload_n dL_act_25 rfl ?_
    refine r_iconst 4 dL_act_26 (by decide) ?_
    refine r_ishr dL_act_27 ?_
    refine r_iconst 3 dL_act_28 (by decide) ?_
    refine r_callSJ hL (ctL_low l Ω _ _ 3 (by omega) (by omega)) kL_act_76 rfl rfl (Nat.le_of_ble_eq_true rfl) dL_act_29 ?_
    intro z29 σ29 hσ29
    obtain ⟨⟨r29, hr29, ez29⟩, eσ29⟩ := hσ29
    subst ez29
    rw [eσ29]
    refine r_istore dL_act_32 (by decide) rfl ?_
    refine r_iload_n dL_act_34 rfl ?_
    refine r_bipush 12 dL_act_35 (by decide) ?_
    refine r_callSJ hL (ctL_low l Ω _ _ 12 (by omega) (by omega)) kL_act_76 rfl rfl (Nat.le_of_ble_eq_true rfl) dL_act_37 ?_
    intro z37 σ37 hσ37
    obtain ⟨⟨r37, hr37, ez37⟩, eσ37⟩ := hσ37
    subst ez37
    rw [eσ37]
    have J100 : AtW mL_act Γ Ω τ 100 [some (.ref (ad Ω 368)), some (.int (x)), some (.int (y)), some (.int (nI (vN (qC S)))), some (.int (bx0)), some (.int (nI r29)), none] [] := by
      refine r_iload_n dL_act_100 rfl ?_
      refine r_iconst 4 dL_act_101 (by decide) ?_
      refine r_ishr dL_act_102 ?_
      refine r_iconst 4 dL_act_103 (by decide) ?_
      refine r_callSJ hL (ctL_low l Ω _ _ 4 (by omega) (by omega)) kL_act_76 rfl rfl (Nat.le_of_ble_eq_true rfl) dL_act_104 ?_
      intro z104 σ104 hσ104
      obtain ⟨⟨r104, hr104, ez104⟩, eσ104⟩ := hσ104
      subst ez104
      rw [eσ104]
      refine r_istore dL_act_107 (by decide) rfl ?_
      refine r_iload_n dL_act_109 rfl ?_
      refine r_bipush 10 dL_act_110 (by decide) ?_
      refine r_icmp_ne 124 dL_act_112 (by decide) (fun c112 => ?_) (fun c112 => ?_)
      ·
        have n112 : ¬ vN (qC S) = 10 := fun q => c112 ((nI_eq (a := vN (qC S)) (b := 10) (by omega) (by omega)).mpr q)
        refine r_aload_n dL_act_124 rfl ?_
        refine r_iload_n dL_act_125 rfl ?_
        refine r_bipush 7 dL_act_126 (by decide) ?_
        refine r_callSJ hL (ctL_low l Ω _ _ 7 (by omega) (by omega)) kL_act_76 rfl rfl (Nat.le_of_ble_eq_true rfl) dL_act_128 ?_
        intro z128 σ128 hσ128
        obtain ⟨⟨r128, hr128, ez128⟩, eσ128⟩ := hσ128
        subst ez128
        rw [eσ128]
        refine r_iload_n dL_act_131 rfl ?_
        refine r_iconst 3 dL_act_132 (by decide) ?_
        refine r_ishr dL_act_133 ?_
        refine r_bipush 7 dL_act_134 (by decide) ?_
        refine r_callSJ hL (ctL_low l Ω _ _ 7 (by omega) (by omega)) kL_act_76 rfl rfl (Nat.le_of_ble_eq_true rfl) dL_act_136 ?_
        intro z136 σ136 hσ136
        obtain ⟨⟨r136, hr136, ez136⟩, eσ136⟩ := hσ136
        subst ez136
        rw [eσ136]
        refine r_iload_n dL_act_139 rfl ?_
        refine r_bipush 6 dL_act_140 (by decide) ?_
        refine r_ishr dL_act_142 ?_
        refine r_bipush 7 dL_act_143 (by decide) ?_
        refine r_callSJ hL (ctL_low l Ω _ _ 7 (by omega) (by omega)) kL_act_76 rfl rfl (Nat.le_of_ble_eq_true rfl) dL_act_145 ?_
        intro z145 σ145 hσ145
        obtain ⟨⟨r145, hr145, ez145⟩, eσ145⟩ := hσ145
        subst ez145
        rw [eσ145]
        refine r_iload dL_act_148 rfl ?_
        refine r_if_ne 158 dL_act_150 (by decide) (fun c150 => ?_) (fun c150 => ?_)
        ·
          have n150 : ¬ r104 = 0 := fun q => c150 ((nI_eq (a := r104) (b := 0) (by omega) (by omega)).mpr q)
          refine r_iconst 1 dL_act_158 (by decide) ?_
          refine r_iload_n dL_act_159 rfl ?_
          refine r_bipush 9 dL_act_160 (by decide) ?_
          refine r_ishr dL_act_162 ?_
          refine r_iconst 3 dL_act_163 (by decide) ?_
          refine r_callSJ hL (ctL_low l Ω _ _ 3 (by omega) (by omega)) kL_act_76 rfl rfl (Nat.le_of_ble_eq_true rfl) dL_act_164 ?_
          intro z164 σ164 hσ164
          obtain ⟨⟨r164, hr164, ez164⟩, eσ164⟩ := hσ164
          subst ez164
          rw [eσ164]
          refine r_iadd dL_act_167 ?_
          refine r_iload dL_act_168 rfl ?_
          refine r_iconst 1 dL_act_170 (by decide) ?_
          refine r_icmp_ne 179 dL_act_171 (by decide) (fun c171 => ?_) (fun c171 => ?_)
          ·
            have n171 : ¬ r104 = 1 := fun q => c171 ((nI_eq (a := r104) (b := 1) (by omega) (by omega)).mpr q)
            refine r_iconst 1 dL_act_179 (by decide) ?_
            refine r_iload_n dL_act_180 rfl ?_
            refine r_bipush 11 dL_act_181 (by decide) ?_
            refine r_ishr dL_act_183 ?_
            refine r_iconst 3 dL_act_184 (by decide) ?_
            refine r_callSJ hL (ctL_low l Ω _ _ 3 (by omega) (by omega)) kL_act_76 rfl rfl (Nat.le_of_ble_eq_true rfl) dL_act_185 ?_
            intro z185 σ185 hσ185
            obtain ⟨⟨r185, hr185, ez185⟩, eσ185⟩ := hσ185
            subst ez185
            rw [eσ185]
            refine r_iadd dL_act_188 ?_
            refine r_iload dL_act_189 rfl ?_
            refine r_iconst 2 dL_act_191 (by decide) ?_
            refine r_icmp_ne 200 dL_act_192 (by decide) (fun c192 => ?_) (fun c192 => ?_)
            ·
              have n192 : ¬ r104 = 2 := fun q => c192 ((nI_eq (a := r104) (b := 2) (by omega) (by omega)).mpr q)
              refine r_iconst 1 dL_act_200 (by decide) ?_
              refine r_iload_n dL_act_201 rfl ?_
              refine r_bipush 13 dL_act_202 (by decide) ?_
              refine r_ishr dL_act_204 ?_
              refine r_iconst 3 dL_act_205 (by decide) ?_
              refine r_callSJ hL (ctL_low l Ω _ _ 3 (by omega) (by omega)) kL_act_76 rfl rfl (Nat.le_of_ble_eq_true rfl) dL_act_206 ?_
              intro z206 σ206 hσ206
              obtain ⟨⟨r206, hr206, ez206⟩, eσ206⟩ := hσ206
              subst ez206
              rw [eσ206]
              refine r_iadd dL_act_209 ?_
              refine r_callVJ (368) hL (ctX5_add l Ω _ S hs.1 hx0 _ _ _ _ _ _) kL_act_82 (by omega) ⟨_, _, _, rfl, rfl, rfl⟩ rfl rfl (Nat.le_of_ble_eq_true rfl) dL_act_210 ?_
              intro x210 σ210 hσ210
              exact r_iret hQ rfl dL_act_213 (reJ_of (ac_add hs.1 hgo hB (by omega) hσ210))
            ·
              have n192 := (nI_eq (a := r104) (b := 2) (by omega) (by omega)).mp c192
              refine r_bipush 8 dL_act_195 (by decide) ?_
              refine r_goto 210 dL_act_197 (by decide) ?_
              refine r_callVJ (368) hL (ctX5_add l Ω _ S hs.1 hx0 _ _ _ _ _ _) kL_act_82 (by omega) ⟨_, _, _, rfl, rfl, rfl⟩ rfl rfl (Nat.le_of_ble_eq_true rfl) dL_act_210 ?_
              intro x210 σ210 hσ210
              exact r_iret hQ rfl dL_act_213 (reJ_of (ac_add hs.1 hgo hB (by omega) hσ210))
          ·
            have n171 := (nI_eq (a := r104) (b := 1) (by omega) (by omega)).mp c171
            refine r_bipush 8 dL_act_174 (by decide) ?_
            refine r_goto 189 dL_act_176 (by decide) ?_
            refine r_iload dL_act_189 rfl ?_
            refine r_iconst 2 dL_act_191 (by decide) ?_
            refine r_icmp_ne 200 dL_act_192 (by decide) (fun c192 => ?_) (fun c192 => ?_)
            ·
              have n192 : ¬ r104 = 2 := fun q => c192 ((nI_eq (a := r104) (b := 2) (by omega) (by omega)).mpr q)
              refine r_iconst 1 dL_act_200 (by decide) ?_
              refine r_iload_n dL_act_201 rfl ?_
              refine r_bipush 13 dL_act_202 (by decide) ?_
              refine r_ishr dL_act_204 ?_
              refine r_iconst 3 dL_act_205 (by decide) ?_
              refine r_callSJ hL (ctL_low l Ω _ _ 3 (by omega) (by omega)) kL_act_76 rfl rfl (Nat.le_of_ble_eq_true rfl) dL_act_206 ?_
              intro z206 σ206 hσ206
              obtain ⟨⟨r206, hr206, ez206⟩, eσ206⟩ := hσ206
              subst ez206
              rw [eσ206]
              refine r_iadd dL_act_209 ?_
              refine r_callVJ (368) hL (ctX5_add l Ω _ S hs.1 hx0 _ _ _ _ _ _) kL_act_82 (by omega) ⟨_, _, _, rfl, rfl, rfl⟩ rfl rfl (Nat.le_of_ble_eq_true rfl) dL_act_210 ?_
              intro x210 σ210 hσ210
              exact r_iret hQ rfl dL_act_213 (reJ_of (ac_add hs.1 hgo hB (by omega) hσ210))
            ·
              have n192 := (nI_eq (a := r104) (b := 2) (by omega) (by omega)).mp c192
              refine r_bipush 8 dL_act_195 (by decide) ?_
              refine r_goto 210 dL_act_197 (by decide) ?_
              refine r_callVJ (368) hL (ctX5_add l Ω _ S hs.1 hx0 _ _ _ _ _ _) kL_act_82 (by omega) ⟨_, _, _, rfl, rfl, rfl⟩ rfl rfl (Nat.le_of_ble_eq_true rfl) dL_act_210 ?_
              intro x210 σ210 hσ210
              exact r_iret hQ rfl dL_act_213 (reJ_of (ac_add hs.1 hgo hB (by omega) hσ210))
        ·
          have n150 := (nI_eq (a := r104) (b := 0) (by omega) (by omega)).mp c150
          refine r_bipush 8 dL_act_153 (by decide) ?_
          refine r_goto 168 dL_act_155 (by decide) ?_
          refine r_iload dL_act_168 rfl ?_
          refine r_iconst 1 dL_act_170 (by decide) ?_
          refine r_icmp_ne 179 dL_act_171 (by decide) (fun c171 => ?_) (fun c171 => ?_)
          ·
            have n171 : ¬ r104 = 1 := fun q => c171 ((nI_eq (a := r104) (b := 1) (by omega) (by omega)).mpr q)
            refine r_iconst 1 dL_act_179 (by decide) ?_
            refine r_iload_n dL_act_180 rfl ?_
            refine r_bipush 11 dL_act_181 (by decide) ?_
            refine r_ishr dL_act_183 ?_
            refine r_iconst 3 dL_act_184 (by decide) ?_
            refine r_callSJ hL (ctL_low l Ω _ _ 3 (by omega) (by omega)) kL_act_76 rfl rfl (Nat.le_of_ble_eq_true rfl) dL_act_185 ?_
            intro z185 σ185 hσ185
            obtain ⟨⟨r185, hr185, ez185⟩, eσ185⟩ := hσ185
            subst ez185
            rw [eσ185]
            refine r_iadd dL_act_188 ?_
            refine r_iload dL_act_189 rfl ?_
            refine r_iconst 2 dL_act_191 (by decide) ?_
            refine r_icmp_ne 200 dL_act_192 (by decide) (fun c192 => ?_) (fun c192 => ?_)
            ·
              have n192 : ¬ r104 = 2 := fun q => c192 ((nI_eq (a := r104) (b := 2) (by omega) (by omega)).mpr q)
              refine r_iconst 1 dL_act_200 (by decide) ?_
              refine r_iload_n dL_act_201 rfl ?_
              refine r_bipush 13 dL_act_202 (by decide) ?_
              refine r_ishr dL_act_204 ?_
              refine r_iconst 3 dL_act_205 (by decide) ?_
              refine r_callSJ hL (ctL_low l Ω _ _ 3 (by omega) (by omega)) kL_act_76 rfl rfl (Nat.le_of_ble_eq_true rfl) dL_act_206 ?_
              intro z206 σ206 hσ206
              obtain ⟨⟨r206, hr206, ez206⟩, eσ206⟩ := hσ206
              subst ez206
              rw [eσ206]
              refine r_iadd dL_act_209 ?_
              refine r_callVJ (368) hL (ctX5_add l Ω _ S hs.1 hx0 _ _ _ _ _ _) kL_act_82 (by omega) ⟨_, _, _, rfl, rfl, rfl⟩ rfl rfl (Nat.le_of_ble_eq_true rfl) dL_act_210 ?_
              intro x210 σ210 hσ210
              exact r_iret hQ rfl dL_act_213 (reJ_of (ac_add hs.1 hgo hB (by omega) hσ210))
            ·
              have n192 := (nI_eq (a := r104) (b := 2) (by omega) (by omega)).mp c192
              refine r_bipush 8 dL_act_195 (by decide) ?_
              refine r_goto 210 dL_act_197 (by decide) ?_
              refine r_callVJ (368) hL (ctX5_add l Ω _ S hs.1 hx0 _ _ _ _ _ _) kL_act_82 (by omega) ⟨_, _, _, rfl, rfl, rfl⟩ rfl rfl (Nat.le_of_ble_eq_true rfl) dL_act_210 ?_
              intro x210 σ210 hσ210
              exact r_iret hQ rfl dL_act_213 (reJ_of (ac_add hs.1 hgo hB (by omega) hσ210))
          ·
            have n171 := (nI_eq (a := r104) (b := 1) (by omega) (by omega)).mp c171
            refine r_bipush 8 dL_act_174 (by decide) ?_
            refine r_goto 189 dL_act_176 (by decide) ?_
            refine r_iload dL_act_189 rfl ?_
            refine r_iconst 2 dL_act_191 (by decide) ?_
            refine r_icmp_ne 200 dL_act_192 (by decide) (fun c192 => ?_) (fun c192 => ?_)
            ·
              have n192 : ¬ r104 = 2 := fun q => c192 ((nI_eq (a := r104) (b := 2) (by omega) (by omega)).mpr q)
              refine r_iconst 1 dL_act_200 (by decide) ?_
              refine r_iload_n dL_act_201 rfl ?_
              refine r_bipush 13 dL_act_202 (by decide) ?_
              refine r_ishr dL_act_204 ?_
              refine r_iconst 3 dL_act_205 (by decide) ?_
              refine r_callSJ hL (ctL_low l Ω _ _ 3 (by omega) (by omega)) kL_act_76 rfl rfl (Nat.le_of_ble_eq_true rfl) dL_act_206 ?_
              intro z206 σ206 hσ206
              obtain ⟨⟨r206, hr206, ez206⟩, eσ206⟩ := hσ206
              subst ez206
              rw [eσ206]
              refine r_iadd dL_act_209 ?_
              refine r_callVJ (368) hL (ctX5_add l Ω _ S hs.1 hx0 _ _ _ _ _ _) kL_act_82 (by omega) ⟨_, _, _, rfl, rfl, rfl⟩ rfl rfl (Nat.le_of_ble_eq_true rfl) dL_act_210 ?_
              intro x210 σ210 hσ210
              exact r_iret hQ rfl dL_act_213 (reJ_of (ac_add hs.1 hgo hB (by omega) hσ210))
            ·
              have n192 := (nI_eq (a := r104) (b := 2) (by omega) (by omega)).mp c192
              refine r_bipush 8 dL_act_195 (by decide) ?_
              refine r_goto 210 dL_act_197 (by decide) ?_
              refine r_callVJ (368) hL (ctX5_add l Ω _ S hs.1 hx0 _ _ _ _ _ _) kL_act_82 (by omega) ⟨_, _, _, rfl, rfl, rfl⟩ rfl rfl (Nat.le_of_ble_eq_true rfl) dL_act_210 ?_
              intro x210 σ210 hσ210
              exact r_iret hQ rfl dL_act_213 (reJ_of (ac_add hs.1 hgo hB (by omega) hσ210))
      ·
        have n112 := (nI_eq (a := vN (qC S)) (b := 10) (by omega) (by omega)).mp c112
        refine r_aload_n dL_act_115 rfl ?_
        refine r_iload dL_act_116 rfl ?_
        refine r_callVJ (368) hL (ctX5_remove l Ω _ S hs.1 _) kL_act_79 (by omega) ⟨_, _, _, rfl, rfl, rfl⟩ rfl rfl (Nat.le_of_ble_eq_true rfl) dL_act_118 ?_
        intro x118 σ118 hσ118
        refine r_goto 213 dL_act_121 (by decide) ?_
        exact r_iret hQ rfl dL_act_213 (reJ_of (ac_remove hs.1 hgo hB (by omega) hσ118))
    have J221 : AtW mL_act Γ Ω τ 221 [some (.ref (ad Ω 368)), some (.int (x)), some (.int (y)), some (.int (nI (vN (qC S)))), some (.int (bx0)), some (.int (nI r29)), none] [] := by
      refine r_aload_n dL_act_221 rfl ?_
      refine r_iload dL_act_222 rfl ?_
      refine r_iload dL_act_224 rfl ?_
      refine r_iload_n dL_act_226 rfl ?_
      refine r_bipush 6 dL_act_227 (by decide) ?_
      refine r_ishr dL_act_229 ?_
      refine r_bipush 9 dL_act_230 (by decide) ?_
      refine r_callSJ hL (ctL_low l Ω _ _ 9 (by omega) (by omega)) kL_act_76 rfl rfl (Nat.le_of_ble_eq_true rfl) dL_act_232 ?_
      intro z232 σ232 hσ232
      obtain ⟨⟨r232, hr232, ez232⟩, eσ232⟩ := hσ232
      subst ez232
      rw [eσ232]
      refine r_iconst 4 dL_act_235 (by decide) ?_
      refine r_isub dL_act_236 ?_
      refine r_callVJ (368) hL (ctX5_move l Ω _ S hs.1 _ _ _) kL_act_86 (by omega) ⟨_, _, _, rfl, rfl, rfl⟩ rfl rfl (Nat.le_of_ble_eq_true rfl) dL_act_237 ?_
      intro x237 σ237 hσ237
      exact r_iret hQ rfl dL_act_240 (reJ_of (ac_move hs.1 hgo hB (by omega) hσ237))
    rcases (show r37 = 0 ∨ r37 = 1 ∨ r37 = 2 ∨ r37 = 3 ∨ r37 = 4 ∨ r37 = 5 ∨ r37 = 6 ∨ r37 = 7 ∨ r37 = 8 ∨ r37 = 9 ∨ r37 = 10 ∨ r37 = 11 by omega) with rfl | rfl | rfl | rfl | rfl | rfl | rfl | rfl | rfl | rfl | rfl | rfl
    ·
      exact r_tableIn 60 100 dL_act_40 (by decide) (by decide) (by decide) (by decide) J100
    ·
      exact r_tableIn 60 100 dL_act_40 (by decide) (by decide) (by decide) (by decide) J100
    ·
      exact r_tableIn 60 100 dL_act_40 (by decide) (by decide) (by decide) (by decide) J100
    ·
      exact r_tableIn 60 100 dL_act_40 (by decide) (by decide) (by decide) (by decide) J100
    ·
      refine r_tableIn 174 214 dL_act_40 (by decide) (by decide) (by decide) (by decide) ?_
      refine r_aload_n dL_act_214 rfl ?_
      refine r_iload dL_act_215 rfl ?_
      refine r_callVJ (368) hL (ctX5_remove l Ω _ S hs.1 _) kL_act_79 (by omega) ⟨_, _, _, rfl, rfl, rfl⟩ rfl rfl (Nat.le_of_ble_eq_true rfl) dL_act_217 ?_
      intro x217 σ217 hσ217
      exact r_iret hQ rfl dL_act_220 (reJ_of (ac_remove hs.1 hgo hB (by omega) hσ217))
    ·
      exact r_tableIn 181 221 dL_act_40 (by decide) (by decide) (by decide) (by decide) J221
    ·
      exact r_tableIn 181 221 dL_act_40 (by decide) (by decide) (by decide) (by decide) J221
    ·
      refine r_tableIn 201 241 dL_act_40 (by decide) (by decide) (by decide) (by decide) ?_
      refine r_aload_n dL_act_241 rfl ?_
      refine r_iload dL_act_242 rfl ?_
      refine r_callVJ (368) hL (ctX5_fall l Ω _ S hs.1 _) kL_act_90 (by omega) ⟨_, _, _, rfl, rfl, rfl⟩ rfl rfl (Nat.le_of_ble_eq_true rfl) dL_act_244 ?_
      intro x244 σ244 hσ244
      exact r_iret hQ rfl dL_act_247 (reJ_of (ac_fall hs.1 hgo hB (by omega) hσ244))
    ·
      refine r_tableIn 208 248 dL_act_40 (by decide) (by decide) (by decide) (by decide) ?_
      refine r_iload_n dL_act_248 rfl ?_
      refine r_bipush 10 dL_act_249 (by decide) ?_
      refine r_icmp_ne 263 dL_act_251 (by decide) (fun c251 => ?_) (fun c251 => ?_)
      ·
        have n251 : ¬ vN (qC S) = 10 := fun q => c251 ((nI_eq (a := vN (qC S)) (b := 10) (by omega) (by omega)).mpr q)
        refine r_aload_n dL_act_263 rfl ?_
        refine r_iload dL_act_264 rfl ?_
        refine r_iload dL_act_266 rfl ?_
        refine r_iload_n dL_act_268 rfl ?_
        refine r_bipush 6 dL_act_269 (by decide) ?_
        refine r_ishr dL_act_271 ?_
        refine r_bipush 14 dL_act_272 (by decide) ?_
        refine r_callSJ hL (ctL_low l Ω _ _ 14 (by omega) (by omega)) kL_act_76 rfl rfl (Nat.le_of_ble_eq_true rfl) dL_act_274 ?_
        intro z274 σ274 hσ274
        obtain ⟨⟨r274, hr274, ez274⟩, eσ274⟩ := hσ274
        subst ez274
        rw [eσ274]
        refine r_callVJ (368) hL (ctX5_split l Ω _ S hs.1 _ _ _ hx0) kL_act_93 (by omega) ⟨_, _, _, rfl, rfl, rfl⟩ rfl rfl (Nat.le_of_ble_eq_true rfl) dL_act_277 ?_
        intro x277 σ277 hσ277
        exact r_iret hQ rfl dL_act_280 (reJ_of (ac_split hs.1 hgo hB (by omega) hσ277))
      ·
        have n251 := (nI_eq (a := vN (qC S)) (b := 10) (by omega) (by omega)).mp c251
        refine r_aload_n dL_act_254 rfl ?_
        refine r_iload dL_act_255 rfl ?_
        refine r_callVJ (368) hL (ctX5_fall l Ω _ S hs.1 _) kL_act_90 (by omega) ⟨_, _, _, rfl, rfl, rfl⟩ rfl rfl (Nat.le_of_ble_eq_true rfl) dL_act_257 ?_
        intro x257 σ257 hσ257
        refine r_goto 280 dL_act_260 (by decide) ?_
        exact r_iret hQ rfl dL_act_280 (reJ_of (ac_fall hs.1 hgo hB (by omega) hσ257))
    ·
      refine r_tableIn 241 281 dL_act_40 (by decide) (by decide) (by decide) (by decide) ?_
      refine r_iload_n dL_act_281 rfl ?_
      refine r_bipush 10 dL_act_282 (by decide) ?_
      refine r_icmp_ne 291 dL_act_284 (by decide) (fun c284 => ?_) (fun c284 => ?_)
      ·
        have n284 : ¬ vN (qC S) = 10 := fun q => c284 ((nI_eq (a := vN (qC S)) (b := 10) (by omega) (by omega)).mpr q)
        refine r_aload_n dL_act_291 rfl ?_
        refine r_callVJ (368) hL (ctX5_breakRing l Ω _ S hs.1 hx0 ) kL_act_96 (by omega) ⟨_, _, _, rfl, rfl, rfl⟩ rfl rfl (Nat.le_of_ble_eq_true rfl) dL_act_292 ?_
        intro x292 σ292 hσ292
        exact r_iret hQ rfl dL_act_295 (reJ_of (ac_break hs.1 hgo hB (by omega) hσ292))
      ·
        have n284 := (nI_eq (a := vN (qC S)) (b := 10) (by omega) (by omega)).mp c284
        refine r_iconst 0 dL_act_287 (by decide) ?_
        refine r_goto 295 dL_act_288 (by decide) ?_
        exact r_iret hQ rfl dL_act_295 (reJ_of (ac_none hs.1 hgo hn))
    ·
      refine r_tableIn 256 296 dL_act_40 (by decide) (by decide) (by decide) (by decide) ?_
      refine r_aload_n dL_act_296 rfl ?_
      refine r_callVJ (368) hL (ctX5_turn l Ω _ S hs.1 ) kL_act_100 (by omega) ⟨_, _, _, rfl, rfl, rfl⟩ rfl rfl (Nat.le_of_ble_eq_true rfl) dL_act_297 ?_
      intro x297 σ297 hσ297
      exact r_iret hQ rfl dL_act_300 (reJ_of (ac_turn hs.1 hgo hB (by omega) hσ297))
    ·
      refine r_tableOut 301 dL_act_40 (Or.inr (by decide)) (by decide) ?_
      refine r_aload_n dL_act_301 rfl ?_
      refine r_iconst 0 dL_act_302 (by decide) ?_
      refine r_iload_n dL_act_303 rfl ?_
      refine r_iconst 3 dL_act_304 (by decide) ?_
      refine r_callSJ hL (ctL_low l Ω _ _ 3 (by omega) (by omega)) kL_act_76 rfl rfl (Nat.le_of_ble_eq_true rfl) dL_act_305 ?_
      intro z305 σ305 hσ305
      obtain ⟨⟨r305, hr305, ez305⟩, eσ305⟩ := hσ305
      subst ez305
      rw [eσ305]
      refine r_callVJ (368) hL (ctX5_set l Ω _ S hs.1 _ _) kL_act_103 (by omega) ⟨_, _, _, rfl, rfl, rfl⟩ rfl rfl (Nat.le_of_ble_eq_true rfl) dL_act_308 ?_
      intro x308 σ308 hσ308
      exact r_iret hQ rfl dL_act_311 (reJ_of (ac_set hs.1 hgo hB (by omega) hσ308))
  refine r_iload_n dL_act_6 rfl ?_
  refine r_if_ne 14 dL_act_7 (by decide) (fun c7 => ?_) (fun c7 => ?_)
  ·
    have n7 : ¬ vN (qC S) = 0 := fun q => c7 ((nI_eq (a := vN (qC S)) (b := 0) (by omega) (by omega)).mpr q)
    refine r_aload_n dL_act_14 rfl ?_
    refine r_iload_n dL_act_15 rfl ?_
    refine r_iload_n dL_act_16 rfl ?_
    refine r_callSJ hL (ctL_low l Ω _ _ (vN (qC S)) (by omega) (by omega)) kL_act_76 rfl rfl (Nat.le_of_ble_eq_true rfl) dL_act_17 ?_
    intro z17 σ17 hσ17
    obtain ⟨⟨r17, hr17, ez17⟩, eσ17⟩ := hσ17
    subst ez17
    rw [eσ17]
    refine r_callVJ (368) hL (ctX5_box l Ω _ S hs.1 _) kL_act_15 (by omega) ⟨_, _, _, rfl, rfl, rfl⟩ rfl rfl (Nat.le_of_ble_eq_true rfl) dL_act_20 ?_
    intro x20 σ20 hσ20
    obtain ⟨e20, hs⟩ := lw_q hs hσ20 rfl
    replace e20 := e20.trans (box_at (by omega) (show r17 < _ by omega))
    subst e20
    refine r_istore dL_act_23 (by decide) rfl ?_
    exact J1 _ _ hs
  ·
    have n7 := (nI_eq (a := vN (qC S)) (b := 0) (by omega) (by omega)).mp c7
    refine r_iconst 0 dL_act_10 (by decide) ?_
    refine r_goto 23 dL_act_11 (by decide) ?_
    refine r_istore dL_act_23 (by decide) rfl ?_
    exact J1 _ _ hs
