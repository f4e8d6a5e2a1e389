/-! THE REFERENCE's runScript (written by wip/whole/gen_mod7.py) -/
theorem p5 {f : Nat} (h : f ≤ 3) : 1 ≤ 100000 ^ f ∧ 100000 ^ f ≤ 1000000000000000 := ⟨Nat.pow_pos (by omega), Nat.pow_le_pow_right (n := 100000) (by omega) h⟩
section MOD7
variable {E : zE} {l : Launch} {G : zG} {I : zI} {sz d : Nat} {S : zS}
set_option maxRecDepth 20000 in
set_option maxHeartbeats 4000000 in
theorem m_scT (hl : l.stackTraces = false) (hK : ShM E G d) (hM : AbsM I d S) (n : Int32) (s : Int64) (hk : e_script n s = 1) (al : Int64) (j : Int32) : z_V E l mX5_runScript (z_rm 8 0 0) 0 0 (z_q (fun v' G' I' sz' => ∃ y9, v' = some (.int y9) ∧ G' = G ∧ sz' = sz ∧ z_mP d (e_script n s) (v_script S.1 n s) S S I y9 I')) 0 0 G I sz 62 [some (.ref d), some (.int n), some (.long s), none, some (.long al), none, some (.int j), none] [.int 1, .ref d] := by
  obtain ⟨k0, kT, kN, kR, kD, kP, kF⟩ := id hK
  obtain ⟨⟨tn, tl, tc⟩, ⟨nN, nW⟩, ⟨aA, a14, aR⟩, aF, aS⟩ := id hM
  refine v_cVI (pc' := 65) (c5_refused hl k0 _) dX5_runScript_62 lk_X5_99 mwX5_refused miX5_refused k0 rfl rfl rfl rfl (by decide) (Nat.le_of_ble_eq_true rfl) rfl ?_
  rintro _ I1 ⟨rfl, hI1⟩
  have r1 : I1 d 0 = 1 := by rw [hI1, z_up_row, z_row_at, pk_us]
  have hM1 : AbsM I1 d S := by rw [hI1]; exact hM.fld 0 _ (by omega)
  have hF1 : FrM I I1 d := by rw [hI1]; exact FrM.up (by omega)
  obtain ⟨⟨bn, bl, bc⟩, ⟨bN, bW⟩, ⟨bA, b14, bR⟩, bF, bS⟩ := id hM1
  have bW2 : WF (I1 (d + 2)) := by rw [bN]; exact bW
  refine v_if_eq (tgt := 70) (pc' := 68) dX5_runScript_65 (by decide) rfl (fun c_65 => ?_) (fun c_65 => ?_)
  · exact absurd c_65 (by decide)
  · refine v_iconst (pc' := 69) dX5_runScript_68 kc_0 rfl ?_
    exact v_iret dX5_runScript_69 rfl (Nat.le_refl _) (Nat.le_refl _) ⟨_, rfl, rfl, rfl, by rw [hk]; exact r1, fun q => absurd (hk.symm.trans q) (by decide), by rw [hk, if_neg (by decide)]; exact hM1, hF1⟩
set_option maxRecDepth 20000 in
set_option maxHeartbeats 4000000 in
theorem m_scB (hl : l.stackTraces = false) (hK : ShM E G d) (hM : AbsM I d S) (n : Int32) (s : Int64) (hn : z_in n 1 3 = false) (al : Int64) (j : Int32) : z_V E l mX5_runScript (z_rm 8 0 0) 0 0 (z_q (fun v' G' I' sz' => ∃ y9, v' = some (.int y9) ∧ G' = G ∧ sz' = sz ∧ z_mP d (e_script n s) (v_script S.1 n s) S S I y9 I')) 0 0 G I sz 32 [some (.ref d), some (.int n), some (.long s), none, some (.long al), none, some (.int j), none] [] := by
  obtain ⟨k0, kT, kN, kR, kD, kP, kF⟩ := id hK
  obtain ⟨⟨tn, tl, tc⟩, ⟨nN, nW⟩, ⟨aA, a14, aR⟩, aF, aS⟩ := id hM
  refine v_aload_n (pc' := 33) dX5_runScript_32 rfl rfl ?_
  refine v_iload_n (pc' := 34) dX5_runScript_33 rfl rfl ?_
  refine v_i2l (pc' := 35) dX5_runScript_34 rfl ?_
  refine v_lconst (pc' := 36) dX5_runScript_35 kl_1 rfl ?_
  refine v_ldc2 (pc' := 39) dX5_runScript_36 cn_X5_192 rfl ?_
  refine v_cSR (pc' := 42) (c5_in32 hl (n) 1 3 rfl rfl rfl) dX5_runScript_39 lk_X5_37 mwX5_in msX5_in rfl rfl (by decide) (Nat.le_of_ble_eq_true rfl) rfl ?_
  refine v_if_eq (tgt := 61) (pc' := 45) dX5_runScript_42 (by decide) rfl (fun c_42 => ?_) (fun c_42 => ?_)
  · refine v_iconst (pc' := 62) dX5_runScript_61 kc_1 rfl ?_
    exact m_scT hl hK hM n s (by rw [e_script, hn]; rfl) al j
  · rw [hn] at c_42
    exact absurd rfl c_42
set_option maxRecDepth 20000 in
set_option maxHeartbeats 4000000 in
theorem m_scL0 (hl : l.stackTraces = false) (hK : ShM E G d) (hM : AbsM I d S) (n : Int32) (s : Int64) (hn : z_in n 1 3 = false) : ∀ (f k : Nat) (al : Int64), 3 = k + f → z_V E l mX5_runScript (z_rm 8 0 0) 0 0 (z_q (fun v' G' I' sz' => ∃ y9, v' = some (.int y9) ∧ G' = G ∧ sz' = sz ∧ z_mP d (e_script n s) (v_script S.1 n s) S S I y9 I')) 0 0 G I sz 6 [some (.ref d), some (.int n), some (.long s), none, some (.long al), none, some (.int (nI k)), none] [] := by
  obtain ⟨k0, kT, kN, kR, kD, kP, kF⟩ := id hK
  obtain ⟨⟨tn, tl, tc⟩, ⟨nN, nW⟩, ⟨aA, a14, aR⟩, aF, aS⟩ := id hM
  intro f
  induction f with
  | zero =>
    intro k al hk
    refine v_iload (pc' := 8) dX5_runScript_6 rfl rfl ?_
    refine v_iload_n (pc' := 9) dX5_runScript_8 rfl rfl ?_
    refine v_icmp_ge (tgt := 32) (pc' := 12) dX5_runScript_9 (by decide) rfl (fun c_9 => ?_) (fun c_9 => ?_)
    · exact m_scB hl hK hM n s hn _ _
    · refine v_iload (pc' := 14) dX5_runScript_12 rfl rfl ?_
      refine v_iconst (pc' := 15) dX5_runScript_14 kc_3 rfl ?_
      refine v_icmp_ge (tgt := 32) (pc' := 18) dX5_runScript_15 (by decide) rfl (fun c_15 => ?_) (fun c_15 => ?_)
      · exact m_scB hl hK hM n s hn _ _
      · rw [show nI k = 3 by rw [show k = 3 by omega]; rfl] at c_15
        exact absurd (by decide) c_15
  | succ f ih =>
    intro k al hk
    refine v_iload (pc' := 8) dX5_runScript_6 rfl rfl ?_
    refine v_iload_n (pc' := 9) dX5_runScript_8 rfl rfl ?_
    refine v_icmp_ge (tgt := 32) (pc' := 12) dX5_runScript_9 (by decide) rfl (fun c_9 => ?_) (fun c_9 => ?_)
    · exact m_scB hl hK hM n s hn _ _
    · refine v_iload (pc' := 14) dX5_runScript_12 rfl rfl ?_
      refine v_iconst (pc' := 15) dX5_runScript_14 kc_3 rfl ?_
      refine v_icmp_ge (tgt := 32) (pc' := 18) dX5_runScript_15 (by decide) rfl (fun c_15 => ?_) (fun c_15 => ?_)
      · exact m_scB hl hK hM n s hn _ _
      · refine v_lload (pc' := 20) dX5_runScript_18 rfl rfl ?_
        refine v_ldc2 (pc' := 23) dX5_runScript_20 cn_X5_190 rfl ?_
        refine v_lmul (pc' := 24) dX5_runScript_23 rfl ?_
        refine v_lstore4 (pc' := 26) dX5_runScript_24 (by decide) rfl rfl ?_
        refine v_iinc6 (pc' := 29) dX5_runScript_26 (by decide) rfl kc_1 (nI_1 k) rfl ?_
        refine v_goto (tgt := 6) dX5_runScript_29 (by decide) ?_
        exact ih (k + 1) _ (by omega)

set_option maxRecDepth 20000 in
set_option maxHeartbeats 4000000 in
theorem m_scL (hl : l.stackTraces = false) (hK : ShM E G d) (n k : Nat) (n1 : 1 ≤ n) (n3 : n ≤ 3) (hk : k < 2 ^ 63) (I1 : zI) (r1 : I1 d 0 = 0) (hM1 : AbsM I1 d S) (hF1 : FrM I I1 d) (hkz : e_script (nI n) (lN k) = 0) : ∀ (f i : Nat) (r9 : zR) (o : Option Value), z_c1 o = true → n = i + f → WF r9 → q_script k n f i r9 = v_script S.1 (nI n) (lN k) → z_V E l mX5_runScript (z_rm 8 0 0) 0 0 (z_q (fun v' G' I' sz' => ∃ y9, v' = some (.int y9) ∧ G' = G ∧ sz' = sz ∧ z_mP d (e_script (nI n) (lN k)) (v_script S.1 (nI n) (lN k)) S S I y9 I')) 0 0 G (z_row I1 (d + 3) r9) sz 86 [some (.ref d), some (.int (nI n)), some (.long (lN k)), none, some (.long (lN (100000 ^ f))), none, some (.int (nI i)), o] [] := by
  obtain ⟨k0, kT, kN, kR, kD, kP, kF⟩ := id hK
  intro f
  induction f with
  | zero =>
    intro i r9 o ho hi hr hp
    refine v_iload (pc' := 88) dX5_runScript_86 rfl rfl ?_
    refine v_iload_n (pc' := 89) dX5_runScript_88 rfl rfl ?_
    refine v_icmp_ge (tgt := 139) (pc' := 92) dX5_runScript_89 (by decide) rfl (fun c_89 => ?_) (fun c_89 => ?_)
    · refine v_iconst (pc' := 140) dX5_runScript_139 kc_m1 rfl ?_
      exact v_iret dX5_runScript_140 rfl (Nat.le_refl _) (Nat.le_refl _) ⟨_, rfl, rfl, rfl, by rw [hkz, z_row_ne _ _ _ (by omega)]; exact r1, fun _ => by rw [← hp]; rfl, by rw [hkz]; exact hM1.trialr, hF1.tr (FrM.row (by omega))⟩
    · exact absurd (nI_le (by omega) (by omega)) c_89
  | succ f ih =>
    intro i r9 o ho hi hr hp
    refine v_iload (pc' := 88) dX5_runScript_86 rfl rfl ?_
    refine v_iload_n (pc' := 89) dX5_runScript_88 rfl rfl ?_
    refine v_icmp_ge (tgt := 139) (pc' := 92) dX5_runScript_89 (by decide) rfl (fun c_89 => ?_) (fun c_89 => ?_)
    · exact absurd c_89 (nI_ge (by omega) (by omega))
    · refine v_lload (pc' := 94) dX5_runScript_92 rfl rfl ?_
      refine v_ldc2 (pc' := 97) dX5_runScript_94 cn_X5_190 rfl ?_
      refine v_ldiv (pc' := 98) dX5_runScript_97 (by decide) rfl ?_
      have pA := p5 (show f + 1 ≤ 3 by omega)
      have pB := p5 (show f ≤ 3 by omega)
      rw [show (lN (100000 ^ (f + 1)) / 100000 : Int64) = lN (100000 ^ f) by rw [show (100000 : Int64) = lN 100000 from rfl, pk_lDiv (by omega) (by omega) (by omega), Nat.pow_succ, Nat.mul_div_cancel _ (by omega)]]
      refine v_lstore4 (pc' := 100) dX5_runScript_98 (by decide) rfl rfl ?_
      refine v_lload_n (pc' := 101) dX5_runScript_100 rfl rfl ?_
      refine v_lload (pc' := 103) dX5_runScript_101 rfl rfl ?_
      refine v_ldiv (pc' := 104) dX5_runScript_103 (fun q9 => by rw [show (0 : Int64) = lN 0 from rfl, pk_lEQ (by omega) (by omega)] at q9; omega) rfl ?_
      rw [show (lN k / lN (100000 ^ f) : Int64) = lN (k / 100000 ^ f) from pk_lDiv hk (by omega) (by omega)]
      refine v_ldc2 (pc' := 107) dX5_runScript_104 cn_X5_190 rfl ?_
      refine v_lrem (pc' := 108) dX5_runScript_107 (by decide) rfl ?_
      rw [show (lN (k / 100000 ^ f) - lN (k / 100000 ^ f) / 100000 * 100000 : Int64) = lN (q_grp k n i) by rw [show (100000 : Int64) = lN 100000 from rfl, pk_lRem (Nat.lt_of_le_of_lt (Nat.div_le_self _ _) hk) (by omega) (by omega), q_grp, show n - 1 - i = f by omega]]
      refine v_l2i (pc' := 109) dX5_runScript_108 rfl ?_
      rw [lN_i]
      have hg : q_grp k n i < 100000 := Nat.mod_lt _ (by omega)
      refine v_istore7 (pc' := 111) dX5_runScript_109 (by decide) rfl rfl ?_
      refine v_aload_n (pc' := 112) dX5_runScript_111 rfl rfl ?_
      refine v_iload (pc' := 114) dX5_runScript_112 rfl rfl ?_
      refine v_sipush (pc' := 117) dX5_runScript_114 ks_10000 rfl ?_
      refine v_idiv (pc' := 118) dX5_runScript_117 (by decide) rfl ?_
      rw [show nI (q_grp k n i) / (10000 : Int32) = nI ((q_grp k n i) / 10000) from pk_div (d := 10000) (by omega) (by omega) (by omega)]
      refine v_iload (pc' := 120) dX5_runScript_118 rfl rfl ?_
      refine v_sipush (pc' := 123) dX5_runScript_120 ks_10000 rfl ?_
      refine v_irem (pc' := 124) dX5_runScript_123 (by decide) rfl ?_
      rw [show nI (q_grp k n i) - nI (q_grp k n i) / (10000 : Int32) * 10000 = nI ((q_grp k n i) % 10000) from pk_rem (d := 10000) (by omega) (by omega) (by omega)]
      refine v_cVI (pc' := 127) (m_command hl hK (by rw [z_row_at]; exact hr) (q_grp k n i / 10000) (q_grp k n i % 10000) (by omega) (by omega)) dX5_runScript_124 lk_X5_194 mwX5_command miX5_command k0 rfl rfl rfl rfl (by decide) (Nat.le_of_ble_eq_true rfl) rfl ?_
      rintro _ _ ⟨rfl, rfl⟩
      simp only [z_row_row, z_row_at]
      refine v_if_ne (tgt := 133) (pc' := 130) dX5_runScript_127 (by decide) rfl (fun c_127 => ?_) (fun c_127 => ?_)
      · first | rw [z_b_ne0] at c_127 | rw [z_b_eq0] at c_127
        refine v_iinc6 (pc' := 136) dX5_runScript_133 (by decide) rfl kc_1 (nI_1 i) rfl ?_
        refine v_goto (tgt := 86) dX5_runScript_136 (by decide) ?_
        exact ih (i + 1) _ _ (by first | rfl | exact ho) (by omega) (WF_g hr _ _) (by rw [← hp, q_script, if_pos c_127])
      · first | rw [z_b_ne0] at c_127 | rw [z_b_eq0] at c_127
        refine v_iload (pc' := 132) dX5_runScript_130 rfl rfl ?_
        exact v_iret dX5_runScript_132 rfl (Nat.le_refl _) (Nat.le_refl _) ⟨_, rfl, rfl, rfl, by rw [hkz, z_row_ne _ _ _ (by omega)]; exact r1, fun _ => by rw [← hp, q_script, if_neg (by rw [c_127]; decide)], by rw [hkz]; exact hM1.trialr, hF1.tr (FrM.row (by omega))⟩

set_option maxRecDepth 20000 in
set_option maxHeartbeats 4000000 in
theorem m_scM (hl : l.stackTraces = false) (hK : ShM E G d) (hM : AbsM I d S) (n k : Nat) (n1 : 1 ≤ n) (n3 : n ≤ 3) (hk : k < 2 ^ 63) (hke : e_script (nI n) (lN k) = 0) (j : Int32) : z_V E l mX5_runScript (z_rm 8 0 0) 0 0 (z_q (fun v' G' I' sz' => ∃ y9, v' = some (.int y9) ∧ G' = G ∧ sz' = sz ∧ z_mP d (e_script (nI n) (lN k)) (v_script S.1 (nI n) (lN k)) S S I y9 I')) 0 0 G I sz 62 [some (.ref d), some (.int (nI n)), some (.long (lN k)), none, some (.long (lN (100000 ^ n))), none, some (.int j), none] [.int 0, .ref d] := by
  obtain ⟨k0, kT, kN, kR, kD, kP, kF⟩ := id hK
  obtain ⟨⟨tn, tl, tc⟩, ⟨nN, nW⟩, ⟨aA, a14, aR⟩, aF, aS⟩ := id hM
  refine v_cVI (pc' := 65) (c5_refused hl k0 _) dX5_runScript_62 lk_X5_99 mwX5_refused miX5_refused k0 rfl rfl rfl rfl (by decide) (Nat.le_of_ble_eq_true rfl) rfl ?_
  rintro _ I1 ⟨rfl, hI1⟩
  have r1 : I1 d 0 = 0 := by rw [hI1, z_up_row, z_row_at, pk_us]
  have hM1 : AbsM I1 d S := by rw [hI1]; exact hM.fld 0 _ (by omega)
  have hF1 : FrM I I1 d := by rw [hI1]; exact FrM.up (by omega)
  obtain ⟨⟨bn, bl, bc⟩, ⟨bN, bW⟩, ⟨bA, b14, bR⟩, bF, bS⟩ := id hM1
  have bW2 : WF (I1 (d + 2)) := by rw [bN]; exact bW
  have hkz : e_script (nI n) (lN k) = 0 := by exact hke
  refine v_if_eq (tgt := 70) (pc' := 68) dX5_runScript_65 (by decide) rfl (fun c_65 => ?_) (fun c_65 => ?_)
  · refine v_aload_n (pc' := 71) dX5_runScript_70 rfl rfl ?_
    refine g_X5_13 (pc' := 74) rfl dX5_runScript_71 (by assumption) rfl ?_
    refine v_iconst (pc' := 75) dX5_runScript_74 kc_0 rfl ?_
    refine v_aload_n (pc' := 76) dX5_runScript_75 rfl rfl ?_
    refine g_X5_16 (pc' := 79) rfl dX5_runScript_76 (by assumption) rfl ?_
    refine v_iconst (pc' := 80) dX5_runScript_79 kc_0 rfl ?_
    refine v_cSV (pc' := 83) (c5_copyTo hl kN kR (by omega) 0 0 (by omega) (by omega) (by omega) (by omega) rfl rfl) dX5_runScript_80 lk_X5_148 mwX5_copyState msX5_copyState rfl rfl (by decide) (Nat.le_of_ble_eq_true rfl) rfl ?_
    rintro _ rfl
    refine v_ext (I' := z_row I1 (d + 3) S.1) kR (fun q9 h9 => by rw [z_row_ne _ _ _ h9, z_row_ne _ _ _ h9]) (fun j9 h9 => by rw [z_row_at, z_row_at, cpy_in (by omega) (by omega), bN]; exact congrArg S.1 (by omega)) ?_
    refine v_iconst (pc' := 84) dX5_runScript_83 kc_0 rfl ?_
    refine v_istore6 (pc' := 86) dX5_runScript_84 (by decide) rfl rfl ?_
    exact m_scL hl hK n k n1 n3 hk I1 r1 hM1 hF1 hkz n 0 S.1 none rfl (by omega) nW (by rw [v_script, pk_lT hk, nI_clamp (by omega)]; rfl)
  · exact absurd (by decide) c_65
theorem l0 {k : Nat} (h : k < 2 ^ 63) : (0 : Int64) ≤ lN k := (pk_lLE (a := 0) (by omega) h).mpr (by omega)
set_option maxRecDepth 20000 in
set_option maxHeartbeats 4000000 in
theorem m_scI (hl : l.stackTraces = false) (hK : ShM E G d) (hM : AbsM I d S) (n : Nat) (s : Int64) (n1 : 1 ≤ n) (n3 : n ≤ 3) (hn : z_in (nI n) 1 3 = true) (j : Int32) : z_V E l mX5_runScript (z_rm 8 0 0) 0 0 (z_q (fun v' G' I' sz' => ∃ y9, v' = some (.int y9) ∧ G' = G ∧ sz' = sz ∧ z_mP d (e_script (nI n) s) (v_script S.1 (nI n) s) S S I y9 I')) 0 0 G I sz 32 [some (.ref d), some (.int (nI n)), some (.long s), none, some (.long (lN (100000 ^ n))), none, some (.int j), none] [] := by
  obtain ⟨k0, kT, kN, kR, kD, kP, kF⟩ := id hK
  obtain ⟨⟨tn, tl, tc⟩, ⟨nN, nW⟩, ⟨aA, a14, aR⟩, aF, aS⟩ := id hM
  have pA := p5 n3
  refine v_aload_n (pc' := 33) dX5_runScript_32 rfl rfl ?_
  refine v_iload_n (pc' := 34) dX5_runScript_33 rfl rfl ?_
  refine v_i2l (pc' := 35) dX5_runScript_34 rfl ?_
  refine v_lconst (pc' := 36) dX5_runScript_35 kl_1 rfl ?_
  refine v_ldc2 (pc' := 39) dX5_runScript_36 cn_X5_192 rfl ?_
  refine v_cSR (pc' := 42) (c5_in32 hl ((nI n)) 1 3 rfl rfl rfl) dX5_runScript_39 lk_X5_37 mwX5_in msX5_in rfl rfl (by decide) (Nat.le_of_ble_eq_true rfl) rfl ?_
  refine v_if_eq (tgt := 61) (pc' := 45) dX5_runScript_42 (by decide) rfl (fun c_42 => ?_) (fun c_42 => ?_)
  · rw [hn] at c_42
    exact absurd c_42 (by decide)
  · refine v_lload_n (pc' := 46) dX5_runScript_45 rfl rfl ?_
    refine v_lconst (pc' := 47) dX5_runScript_46 kl_0 rfl ?_
    refine v_lload (pc' := 49) dX5_runScript_47 rfl rfl ?_
    refine v_lconst (pc' := 50) dX5_runScript_49 kl_1 rfl ?_
    refine v_lsub (pc' := 51) dX5_runScript_50 rfl ?_
    rw [show (lN (100000 ^ n) - 1 : Int64) = lN (100000 ^ n - 1) from lN_sub pA.1]
    refine v_cSR (pc' := 54) (c5_in hl s 0 (lN (100000 ^ n - 1))) dX5_runScript_51 lk_X5_37 mwX5_in msX5_in rfl rfl (by decide) (Nat.le_of_ble_eq_true rfl) rfl ?_
    refine v_if_eq (tgt := 61) (pc' := 57) dX5_runScript_54 (by decide) rfl (fun c_54 => ?_) (fun c_54 => ?_)
    · rw [z_b_eq0] at c_54
      have hke : e_script (nI n) s = 1 := by
        rw [e_script, hn]
        by_cases h0 : 0 ≤ s
        · obtain ⟨k, hk, rfl, hkt⟩ := l_nonneg h0
          rw [decide_eq_true h0, Bool.true_and, decide_eq_false_iff_not, pk_lLE hk (by omega)] at c_54
          rw [hkt, nI_clamp (by omega), decide_eq_true h0, decide_eq_false (show ¬ k / 100000 ^ n = 0 from fun q => by
            have := (Nat.div_eq_zero_iff).mp q
            omega)]
          rfl
        · rw [decide_eq_false h0]; rfl
      refine v_iconst (pc' := 62) dX5_runScript_61 kc_1 rfl ?_
      first
        | exact m_scM hl hK hM n k n1 n3 hk hke _
        | exact m_scT hl hK hM _ _ hke _ _
    · rw [z_b_ne0] at c_54
      simp only [Bool.and_eq_true, decide_eq_true_eq] at c_54
      obtain ⟨k, hk, rfl, hkt⟩ := l_nonneg c_54.1
      rw [pk_lLE hk (by omega)] at c_54
      have hke : e_script (nI n) (lN k) = 0 := by rw [e_script, hn, decide_eq_true (l0 hk), hkt, nI_clamp (by omega), decide_eq_true (Nat.div_eq_of_lt (by omega))]; rfl
      refine v_iconst (pc' := 58) dX5_runScript_57 kc_0 rfl ?_
      refine v_goto (tgt := 62) dX5_runScript_58 (by decide) ?_
      first
        | exact m_scM hl hK hM n k n1 n3 hk hke _
        | exact m_scT hl hK hM _ _ hke _ _
set_option maxRecDepth 20000 in
set_option maxHeartbeats 4000000 in
theorem m_scL1 (hl : l.stackTraces = false) (hK : ShM E G d) (hM : AbsM I d S) (n : Nat) (s : Int64) (n1 : 1 ≤ n) (n3 : n ≤ 3) (hn : z_in (nI n) 1 3 = true) : ∀ (f k : Nat), n = k + f → z_V E l mX5_runScript (z_rm 8 0 0) 0 0 (z_q (fun v' G' I' sz' => ∃ y9, v' = some (.int y9) ∧ G' = G ∧ sz' = sz ∧ z_mP d (e_script (nI n) s) (v_script S.1 (nI n) s) S S I y9 I')) 0 0 G I sz 6 [some (.ref d), some (.int (nI n)), some (.long s), none, some (.long (lN (100000 ^ k))), none, some (.int (nI k)), none] [] := by
  obtain ⟨k0, kT, kN, kR, kD, kP, kF⟩ := id hK
  obtain ⟨⟨tn, tl, tc⟩, ⟨nN, nW⟩, ⟨aA, a14, aR⟩, aF, aS⟩ := id hM
  intro f
  induction f with
  | zero =>
    intro k hk
    refine v_iload (pc' := 8) dX5_runScript_6 rfl rfl ?_
    refine v_iload_n (pc' := 9) dX5_runScript_8 rfl rfl ?_
    refine v_icmp_ge (tgt := 32) (pc' := 12) dX5_runScript_9 (by decide) rfl (fun c_9 => ?_) (fun c_9 => ?_)
    · rw [show k = n by omega]
      exact m_scI hl hK hM n s n1 n3 hn _
    · exact absurd (nI_le (by omega) (by omega)) c_9
  | succ f ih =>
    intro k hk
    refine v_iload (pc' := 8) dX5_runScript_6 rfl rfl ?_
    refine v_iload_n (pc' := 9) dX5_runScript_8 rfl rfl ?_
    refine v_icmp_ge (tgt := 32) (pc' := 12) dX5_runScript_9 (by decide) rfl (fun c_9 => ?_) (fun c_9 => ?_)
    · exact absurd c_9 (nI_ge (by omega) (by omega))
    · refine v_iload (pc' := 14) dX5_runScript_12 rfl rfl ?_
      refine v_iconst (pc' := 15) dX5_runScript_14 kc_3 rfl ?_
      refine v_icmp_ge (tgt := 32) (pc' := 18) dX5_runScript_15 (by decide) rfl (fun c_15 => ?_) (fun c_15 => ?_)
      · exact absurd c_15 (nI_ge (b := 3) (by omega) (by omega))
      · refine v_lload (pc' := 20) dX5_runScript_18 rfl rfl ?_
        refine v_ldc2 (pc' := 23) dX5_runScript_20 cn_X5_190 rfl ?_
        refine v_lmul (pc' := 24) dX5_runScript_23 rfl ?_
        rw [show (lN (100000 ^ k) * 100000 : Int64) = lN (100000 ^ (k + 1)) by rw [Nat.pow_succ]; exact lN_mul _ 100000]
        refine v_lstore4 (pc' := 26) dX5_runScript_24 (by decide) rfl rfl ?_
        refine v_iinc6 (pc' := 29) dX5_runScript_26 (by decide) rfl kc_1 (nI_1 k) rfl ?_
        refine v_goto (tgt := 6) dX5_runScript_29 (by decide) ?_
        exact ih (k + 1) (by omega)

set_option maxRecDepth 20000 in
set_option maxHeartbeats 4000000 in
theorem m_scX (hl : l.stackTraces = false) (hK : ShM E G d) (hM : AbsM I d S) (n3 : Int32) (s : Int64) (hn : z_in n3 1 3 = false) : z_CM E l mX5_runScript [.ref d, .int n3, .long s] G I sz d (e_script n3 s) (v_script S.1 n3 s) S S := by
  refine z_Ct.of hl pn_X5 [some (.ref d), some (.int n3), some (.long s), none, none, none, none, none] rfl (Nat.le_of_ble_eq_true rfl) ?_
  refine v_lconst (pc' := 1) dX5_runScript_0 kl_1 rfl ?_
  refine v_lstore4 (pc' := 3) dX5_runScript_1 (by decide) rfl rfl ?_
  refine v_iconst (pc' := 4) dX5_runScript_3 kc_0 rfl ?_
  refine v_istore6 (pc' := 6) dX5_runScript_4 (by decide) rfl rfl ?_
  exact m_scL0 hl hK hM n3 s hn 3 0 _ rfl
set_option maxRecDepth 20000 in
set_option maxHeartbeats 4000000 in
theorem m_scY (hl : l.stackTraces = false) (hK : ShM E G d) (hM : AbsM I d S) (n : Nat) (s : Int64) (n1 : 1 ≤ n) (n3 : n ≤ 3) (hn : z_in (nI n) 1 3 = true) : z_CM E l mX5_runScript [.ref d, .int (nI n), .long s] G I sz d (e_script (nI n) s) (v_script S.1 (nI n) s) S S := by
  refine z_Ct.of hl pn_X5 [some (.ref d), some (.int (nI n)), some (.long s), none, none, none, none, none] rfl (Nat.le_of_ble_eq_true rfl) ?_
  refine v_lconst (pc' := 1) dX5_runScript_0 kl_1 rfl ?_
  refine v_lstore4 (pc' := 3) dX5_runScript_1 (by decide) rfl rfl ?_
  refine v_iconst (pc' := 4) dX5_runScript_3 kc_0 rfl ?_
  refine v_istore6 (pc' := 6) dX5_runScript_4 (by decide) rfl rfl ?_
  exact m_scL1 hl hK hM n s n1 n3 hn n 0 (by omega)
theorem m_runScript (hl : l.stackTraces = false) (hK : ShM E G d) (hM : AbsM I d S) (n3 : Int32) (s : Int64) : z_CM E l mX5_runScript [.ref d, .int n3, .long s] G I sz d (e_script n3 s) (v_script S.1 n3 s) S S := by
  cases hn : z_in n3 1 3 with
  | false => exact m_scX hl hK hM n3 s hn
  | true =>
    obtain ⟨n, n1, n2, rfl⟩ := z_in_nI (lo := 1) (hi := 3) (by omega) (by omega) hn
    exact m_scY hl hK hM n s n1 n2 hn
end MOD7
