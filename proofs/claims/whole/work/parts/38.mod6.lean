/-! THE REFERENCE's scripts (written by wip/whole/gen_mod6.py) -/
theorem q_g1 (r : zR) (f : Nat) : q_g r 1 f = if f % 10 = 0 then t_job r (nI (f / 1000)) (nI (f / 10 % 100)) else r := rfl
theorem q_g2 (r : zR) (f : Nat) : q_g r 2 f = if f / 100 = 0 then t_run r (nI (f % 100)) else r := rfl
theorem q_g3 (r : zR) (f : Nat) : q_g r 3 f = if f % 100 = 0 then t_bad r (nI (f / 100)) else r := rfl
theorem q_g4 (r : zR) (f : Nat) : q_g r 4 f = if f % 100 = 0 then t_mend r (nI (f / 100)) else r := rfl
theorem q_g5 (r : zR) (f : Nat) : q_g r 5 f = if f % 1000 = 0 then t_stop r (nI (f / 1000)) else r := rfl
theorem q_g2_out {r : zR} {f : Nat} (h : (decide (f / 100 = 0) && z_in (nI (f % 100)) 1 60) = false) : q_g r 2 f = r := by
  rw [q_g2]
  by_cases h9 : f / 100 = 0
  · rw [decide_eq_true h9, Bool.true_and] at h
    rw [if_pos h9, t_run, if_neg (by rw [h]; decide)]
  · rw [if_neg h9]
theorem q_b1 (r : zR) (f : Nat) : q_gb r 1 f = (decide (f % 10 = 0) && p_canb r (nI (f / 1000)) (nI (f / 10 % 100))) := rfl
theorem q_b2 (r : zR) (f : Nat) : q_gb r 2 f = (decide (f / 100 = 0) && z_in (nI (f % 100)) 1 60) := rfl
theorem q_b3 (r : zR) (f : Nat) : q_gb r 3 f = (decide (f % 100 = 0) && p_isStripe (nI (f / 100))) := rfl
theorem q_b4 (r : zR) (f : Nat) : q_gb r 4 f = (decide (f % 100 = 0) && p_isStripe (nI (f / 100))) := rfl
theorem q_b5 (r : zR) (f : Nat) : q_gb r 5 f = (decide (f % 1000 = 0) && p_cans r (nI (f / 1000))) := rfl
theorem q_b6 (r : zR) (f : Nat) : q_gb r 6 f = (decide (f % 1000 < 10) && (p_isTask r (nI (f / 1000)) && decide (tf r (f / 1000) 4 = nI (f % 10)))) := rfl
theorem q_b7 (r : zR) (f : Nat) : q_gb r 7 f = (p_isTask r (nI (f / 1000)) && decide (tf r (f / 1000) 1 = nI (f % 1000))) := rfl
theorem q_b8 (r : zR) (f : Nat) : q_gb r 8 f = (decide (f % 100 ≤ 9) && (p_isStripe (nI (f / 100)) && decide (p_taker r (nI (f / 100)) = if f % 10 = 9 then -1 else nI (f % 10)))) := rfl
theorem q_b9 (r : zR) (f : Nat) : q_gb r 9 f = (decide (f / 100 = 0) && decide (p_idle r ≤ nI (f % 100))) := rfl
theorem in60 {f : Nat} (hf : f < 10000) : z_in (nI f) 1 60 = (decide (f / 100 = 0) && z_in (nI (f % 100)) 1 60) := by
  by_cases h : f / 100 = 0
  · rw [decide_eq_true h, Bool.true_and, show f % 100 = f by omega]
  · rw [decide_eq_false h, Bool.false_and]
    cases h9 : z_in (nI f) 1 60 with
    | false => rfl
    | true =>
      obtain ⟨c, c1, c2, e⟩ := z_in_nI (lo := 1) (hi := 60) (by omega) (by omega) h9
      have := (nI_eq (by omega) (by omega)).mp e
      omega
section MOD6
variable {E : zE} {l : Launch} {G : zG} {I : zI} {sz d : Nat} {S : zS}
set_option maxRecDepth 20000 in
set_option maxHeartbeats 4000000 in
theorem m_cmd_1 (hl : l.stackTraces = false) (hK : ShM E G d) (hR : WF (I (d + 3))) (f : Nat) (hf : f < 10000) : z_CI E l mX5_command 5 [.ref d, .int (nI 1), .int (nI f)] G I sz (fun y9 I' => y9 = z_b (q_gb (I (d + 3)) 1 f) ∧ I' = z_row I (d + 3) (q_g (I (d + 3)) 1 f)) := by
  obtain ⟨k0, kT, kN, kR, kD, kP, kF⟩ := id hK
  have h6 := hR.1.1
  refine z_Ct.of hl pn_X5 [some (.ref d), some (.int (nI 1)), some (.int (nI f)), none, none, none, none, none, none, none] rfl (Nat.le_of_ble_eq_true rfl) ?_
  refine v_iload_n (pc' := 1) dX5_command_0 rfl rfl ?_
  refine v_sipush (pc' := 4) dX5_command_1 ks_1000 rfl ?_
  refine v_idiv (pc' := 5) dX5_command_4 (by decide) rfl ?_
  rw [show nI (f) / (1000 : Int32) = nI ((f) / 1000) from pk_div (d := 1000) (by omega) (by omega) (by omega)]
  refine v_istore_n3 (pc' := 6) dX5_command_5 (by decide) rfl rfl ?_
  refine v_iload_n (pc' := 7) dX5_command_6 rfl rfl ?_
  refine v_bipush (pc' := 9) dX5_command_7 kb_100 rfl ?_
  refine v_idiv (pc' := 10) dX5_command_9 (by decide) rfl ?_
  rw [show nI (f) / (100 : Int32) = nI ((f) / 100) from pk_div (d := 100) (by omega) (by omega) (by omega)]
  refine v_istore4 (pc' := 12) dX5_command_10 (by decide) rfl rfl ?_
  refine v_iload_n (pc' := 13) dX5_command_12 rfl rfl ?_
  refine v_bipush (pc' := 15) dX5_command_13 kb_10 rfl ?_
  refine v_idiv (pc' := 16) dX5_command_15 (by decide) rfl ?_
  rw [show nI (f) / (10 : Int32) = nI ((f) / 10) from pk_div (d := 10) (by omega) (by omega) (by omega)]
  refine v_bipush (pc' := 18) dX5_command_16 kb_100 rfl ?_
  refine v_irem (pc' := 19) dX5_command_18 (by decide) rfl ?_
  rw [show nI (f / 10) - nI (f / 10) / (100 : Int32) * 100 = nI ((f / 10) % 100) from pk_rem (d := 100) (by omega) (by omega) (by omega)]
  refine v_istore5 (pc' := 21) dX5_command_19 (by decide) rfl rfl ?_
  refine v_iload_n (pc' := 22) dX5_command_21 rfl rfl ?_
  refine v_sipush (pc' := 25) dX5_command_22 ks_1000 rfl ?_
  refine v_irem (pc' := 26) dX5_command_25 (by decide) rfl ?_
  rw [show nI (f) - nI (f) / (1000 : Int32) * 1000 = nI ((f) % 1000) from pk_rem (d := 1000) (by omega) (by omega) (by omega)]
  refine v_istore6 (pc' := 28) dX5_command_26 (by decide) rfl rfl ?_
  refine v_iload_n (pc' := 29) dX5_command_28 rfl rfl ?_
  refine v_bipush (pc' := 31) dX5_command_29 kb_10 rfl ?_
  refine v_irem (pc' := 32) dX5_command_31 (by decide) rfl ?_
  rw [show nI (f) - nI (f) / (10 : Int32) * 10 = nI ((f) % 10) from pk_rem (d := 10) (by omega) (by omega) (by omega)]
  refine v_if_ne (tgt := 39) (pc' := 35) dX5_command_32 (by decide) rfl (fun c_32 => ?_) (fun c_32 => ?_)
  · rw [nI_is0 (by omega)] at c_32
    refine v_iconst (pc' := 40) dX5_command_39 kc_0 rfl ?_
    refine v_istore7 (pc' := 42) dX5_command_40 (by decide) rfl rfl ?_
    refine v_iload_n (pc' := 43) dX5_command_42 rfl rfl ?_
    refine v_bipush (pc' := 45) dX5_command_43 kb_100 rfl ?_
    refine v_irem (pc' := 46) dX5_command_45 (by decide) rfl ?_
    rw [show nI (f) - nI (f) / (100 : Int32) * 100 = nI ((f) % 100) from pk_rem (d := 100) (by omega) (by omega) (by omega)]
    refine v_if_ne (tgt := 53) (pc' := 49) dX5_command_46 (by decide) rfl (fun c_46 => ?_) (fun c_46 => ?_)
    · rw [nI_is0 (by omega)] at c_46
      refine v_iconst (pc' := 54) dX5_command_53 kc_0 rfl ?_
      refine v_istore8 (pc' := 56) dX5_command_54 (by decide) rfl rfl ?_
      refine v_iload_n (pc' := 57) dX5_command_56 rfl rfl ?_
      refine v_tableIn (tgt := 108) 0 dX5_command_57 (by rw [nI_toInt (by omega)]; omega) (by decide) rfl (by decide) ?_
      refine v_iload (pc' := 110) dX5_command_108 rfl rfl ?_
      refine v_if_eq (tgt := 143) (pc' := 113) dX5_command_110 (by decide) rfl (fun c_110 => ?_) (fun c_110 => ?_)
      · refine v_iconst (pc' := 144) dX5_command_143 kc_0 rfl ?_
        exact v_zret dX5_command_144 rfl (Nat.le_refl _) (Nat.le_refl _) rfl ⟨_, rfl, rfl, rfl, (by first | exact absurd c_110 (by decide) | exact absurd rfl c_110 | (rw [q_b1, decide_eq_false c_32]; rfl) | (rw [q_b1, decide_eq_true c_32, c_123]; rfl)), (by first | exact absurd c_110 (by decide) | exact absurd rfl c_110 | (rw [q_g1, if_pos c_32, t_job, if_pos c_123, nI_clamp (by omega)]; done) | (rw [q_g1, if_neg c_32, z_row_self]; done) | (rw [q_g1, if_pos c_32, t_job, if_neg (by rw [c_123]; decide), z_row_self]; done))⟩
      · refine v_aload_n (pc' := 114) dX5_command_113 rfl rfl ?_
        refine g_X5_16 (pc' := 117) rfl dX5_command_114 (by assumption) rfl ?_
        refine v_iload_n (pc' := 118) dX5_command_117 rfl rfl ?_
        refine v_iload (pc' := 120) dX5_command_118 rfl rfl ?_
        refine v_cSR (pc' := 123) (c5_canBring hl kR hR (nI (f / 1000)) (nI (f / 10 % 100))) dX5_command_120 lk_X5_119 mwX5_canBring msX5_canBring rfl rfl (by decide) (Nat.le_of_ble_eq_true rfl) rfl ?_
        refine v_if_eq (tgt := 143) (pc' := 126) dX5_command_123 (by decide) rfl (fun c_123 => ?_) (fun c_123 => ?_)
        · first | rw [z_b_ne0] at c_123 | rw [z_b_eq0] at c_123
          refine v_iconst (pc' := 144) dX5_command_143 kc_0 rfl ?_
          exact v_zret dX5_command_144 rfl (Nat.le_refl _) (Nat.le_refl _) rfl ⟨_, rfl, rfl, rfl, (by first | exact absurd c_110 (by decide) | exact absurd rfl c_110 | (rw [q_b1, decide_eq_false c_32]; rfl) | (rw [q_b1, decide_eq_true c_32, c_123]; rfl)), (by first | exact absurd c_110 (by decide) | exact absurd rfl c_110 | (rw [q_g1, if_pos c_32, t_job, if_pos c_123, nI_clamp (by omega)]; done) | (rw [q_g1, if_neg c_32, z_row_self]; done) | (rw [q_g1, if_pos c_32, t_job, if_neg (by rw [c_123]; decide), z_row_self]; done))⟩
        · first | rw [z_b_ne0] at c_123 | rw [z_b_eq0] at c_123
          obtain ⟨t9, s9, et, es, ht9, -⟩ := canb_of hR c_123
          have e9 : f / 1000 = t9 := (nI_eq (by omega) (by omega)).mp et
          have hbp := bringv_pos hR ht9
          rw [← e9] at hbp
          refine v_aload_n (pc' := 127) dX5_command_126 rfl rfl ?_
          refine g_X5_16 (pc' := 130) rfl dX5_command_127 (by assumption) rfl ?_
          refine v_iload_n (pc' := 131) dX5_command_130 rfl rfl ?_
          refine v_iload (pc' := 133) dX5_command_131 rfl rfl ?_
          refine v_cSI (pc' := 136) (c5_bringOn hl kR (f / 1000) (nI (f / 10 % 100)) (by omega) rfl) dX5_command_133 lk_X5_123 mwX5_bringOn msX5_bringOn rfl rfl (by decide) (Nat.le_of_ble_eq_true rfl) rfl ?_
          rintro _ _ ⟨rfl, rfl⟩
          refine v_if_le (tgt := 143) (pc' := 139) dX5_command_136 (by decide) rfl (fun c_136 => ?_) (fun c_136 => ?_)
          · have : False := by rw [Int32.le_iff_toInt_le, i_0] at c_136; omega
            exact this.elim
          · refine v_iconst (pc' := 140) dX5_command_139 kc_1 rfl ?_
            refine v_goto (tgt := 144) dX5_command_140 (by decide) ?_
            exact v_zret dX5_command_144 rfl (Nat.le_refl _) (Nat.le_refl _) rfl ⟨_, rfl, rfl, rfl, (by first | exact absurd c_110 (by decide) | exact absurd rfl c_110 | (rw [q_b1, decide_eq_false c_32]; rfl) | (rw [q_b1, decide_eq_true c_32, c_123]; rfl)), (by first | exact absurd c_110 (by decide) | exact absurd rfl c_110 | (rw [q_g1, if_pos c_32, t_job, if_pos c_123, nI_clamp (by omega)]; done) | (rw [q_g1, if_neg c_32, z_row_self]; done) | (rw [q_g1, if_pos c_32, t_job, if_neg (by rw [c_123]; decide), z_row_self]; done))⟩
    · rw [nI_is0 (by omega)] at c_46
      refine v_iconst (pc' := 50) dX5_command_49 kc_1 rfl ?_
      refine v_goto (tgt := 54) dX5_command_50 (by decide) ?_
      refine v_istore8 (pc' := 56) dX5_command_54 (by decide) rfl rfl ?_
      refine v_iload_n (pc' := 57) dX5_command_56 rfl rfl ?_
      refine v_tableIn (tgt := 108) 0 dX5_command_57 (by rw [nI_toInt (by omega)]; omega) (by decide) rfl (by decide) ?_
      refine v_iload (pc' := 110) dX5_command_108 rfl rfl ?_
      refine v_if_eq (tgt := 143) (pc' := 113) dX5_command_110 (by decide) rfl (fun c_110 => ?_) (fun c_110 => ?_)
      · refine v_iconst (pc' := 144) dX5_command_143 kc_0 rfl ?_
        exact v_zret dX5_command_144 rfl (Nat.le_refl _) (Nat.le_refl _) rfl ⟨_, rfl, rfl, rfl, (by first | exact absurd c_110 (by decide) | exact absurd rfl c_110 | (rw [q_b1, decide_eq_false c_32]; rfl) | (rw [q_b1, decide_eq_true c_32, c_123]; rfl)), (by first | exact absurd c_110 (by decide) | exact absurd rfl c_110 | (rw [q_g1, if_pos c_32, t_job, if_pos c_123, nI_clamp (by omega)]; done) | (rw [q_g1, if_neg c_32, z_row_self]; done) | (rw [q_g1, if_pos c_32, t_job, if_neg (by rw [c_123]; decide), z_row_self]; done))⟩
      · refine v_aload_n (pc' := 114) dX5_command_113 rfl rfl ?_
        refine g_X5_16 (pc' := 117) rfl dX5_command_114 (by assumption) rfl ?_
        refine v_iload_n (pc' := 118) dX5_command_117 rfl rfl ?_
        refine v_iload (pc' := 120) dX5_command_118 rfl rfl ?_
        refine v_cSR (pc' := 123) (c5_canBring hl kR hR (nI (f / 1000)) (nI (f / 10 % 100))) dX5_command_120 lk_X5_119 mwX5_canBring msX5_canBring rfl rfl (by decide) (Nat.le_of_ble_eq_true rfl) rfl ?_
        refine v_if_eq (tgt := 143) (pc' := 126) dX5_command_123 (by decide) rfl (fun c_123 => ?_) (fun c_123 => ?_)
        · first | rw [z_b_ne0] at c_123 | rw [z_b_eq0] at c_123
          refine v_iconst (pc' := 144) dX5_command_143 kc_0 rfl ?_
          exact v_zret dX5_command_144 rfl (Nat.le_refl _) (Nat.le_refl _) rfl ⟨_, rfl, rfl, rfl, (by first | exact absurd c_110 (by decide) | exact absurd rfl c_110 | (rw [q_b1, decide_eq_false c_32]; rfl) | (rw [q_b1, decide_eq_true c_32, c_123]; rfl)), (by first | exact absurd c_110 (by decide) | exact absurd rfl c_110 | (rw [q_g1, if_pos c_32, t_job, if_pos c_123, nI_clamp (by omega)]; done) | (rw [q_g1, if_neg c_32, z_row_self]; done) | (rw [q_g1, if_pos c_32, t_job, if_neg (by rw [c_123]; decide), z_row_self]; done))⟩
        · first | rw [z_b_ne0] at c_123 | rw [z_b_eq0] at c_123
          obtain ⟨t9, s9, et, es, ht9, -⟩ := canb_of hR c_123
          have e9 : f / 1000 = t9 := (nI_eq (by omega) (by omega)).mp et
          have hbp := bringv_pos hR ht9
          rw [← e9] at hbp
          refine v_aload_n (pc' := 127) dX5_command_126 rfl rfl ?_
          refine g_X5_16 (pc' := 130) rfl dX5_command_127 (by assumption) rfl ?_
          refine v_iload_n (pc' := 131) dX5_command_130 rfl rfl ?_
          refine v_iload (pc' := 133) dX5_command_131 rfl rfl ?_
          refine v_cSI (pc' := 136) (c5_bringOn hl kR (f / 1000) (nI (f / 10 % 100)) (by omega) rfl) dX5_command_133 lk_X5_123 mwX5_bringOn msX5_bringOn rfl rfl (by decide) (Nat.le_of_ble_eq_true rfl) rfl ?_
          rintro _ _ ⟨rfl, rfl⟩
          refine v_if_le (tgt := 143) (pc' := 139) dX5_command_136 (by decide) rfl (fun c_136 => ?_) (fun c_136 => ?_)
          · have : False := by rw [Int32.le_iff_toInt_le, i_0] at c_136; omega
            exact this.elim
          · refine v_iconst (pc' := 140) dX5_command_139 kc_1 rfl ?_
            refine v_goto (tgt := 144) dX5_command_140 (by decide) ?_
            exact v_zret dX5_command_144 rfl (Nat.le_refl _) (Nat.le_refl _) rfl ⟨_, rfl, rfl, rfl, (by first | exact absurd c_110 (by decide) | exact absurd rfl c_110 | (rw [q_b1, decide_eq_false c_32]; rfl) | (rw [q_b1, decide_eq_true c_32, c_123]; rfl)), (by first | exact absurd c_110 (by decide) | exact absurd rfl c_110 | (rw [q_g1, if_pos c_32, t_job, if_pos c_123, nI_clamp (by omega)]; done) | (rw [q_g1, if_neg c_32, z_row_self]; done) | (rw [q_g1, if_pos c_32, t_job, if_neg (by rw [c_123]; decide), z_row_self]; done))⟩
  · rw [nI_is0 (by omega)] at c_32
    refine v_iconst (pc' := 36) dX5_command_35 kc_1 rfl ?_
    refine v_goto (tgt := 40) dX5_command_36 (by decide) ?_
    refine v_istore7 (pc' := 42) dX5_command_40 (by decide) rfl rfl ?_
    refine v_iload_n (pc' := 43) dX5_command_42 rfl rfl ?_
    refine v_bipush (pc' := 45) dX5_command_43 kb_100 rfl ?_
    refine v_irem (pc' := 46) dX5_command_45 (by decide) rfl ?_
    rw [show nI (f) - nI (f) / (100 : Int32) * 100 = nI ((f) % 100) from pk_rem (d := 100) (by omega) (by omega) (by omega)]
    refine v_if_ne (tgt := 53) (pc' := 49) dX5_command_46 (by decide) rfl (fun c_46 => ?_) (fun c_46 => ?_)
    · rw [nI_is0 (by omega)] at c_46
      refine v_iconst (pc' := 54) dX5_command_53 kc_0 rfl ?_
      refine v_istore8 (pc' := 56) dX5_command_54 (by decide) rfl rfl ?_
      refine v_iload_n (pc' := 57) dX5_command_56 rfl rfl ?_
      refine v_tableIn (tgt := 108) 0 dX5_command_57 (by rw [nI_toInt (by omega)]; omega) (by decide) rfl (by decide) ?_
      refine v_iload (pc' := 110) dX5_command_108 rfl rfl ?_
      refine v_if_eq (tgt := 143) (pc' := 113) dX5_command_110 (by decide) rfl (fun c_110 => ?_) (fun c_110 => ?_)
      · refine v_iconst (pc' := 144) dX5_command_143 kc_0 rfl ?_
        exact v_zret dX5_command_144 rfl (Nat.le_refl _) (Nat.le_refl _) rfl ⟨_, rfl, rfl, rfl, (by first | exact absurd c_110 (by decide) | exact absurd rfl c_110 | (rw [q_b1, decide_eq_false c_32]; rfl) | (rw [q_b1, decide_eq_true c_32, c_123]; rfl)), (by first | exact absurd c_110 (by decide) | exact absurd rfl c_110 | (rw [q_g1, if_pos c_32, t_job, if_pos c_123, nI_clamp (by omega)]; done) | (rw [q_g1, if_neg c_32, z_row_self]; done) | (rw [q_g1, if_pos c_32, t_job, if_neg (by rw [c_123]; decide), z_row_self]; done))⟩
      · refine v_aload_n (pc' := 114) dX5_command_113 rfl rfl ?_
        refine g_X5_16 (pc' := 117) rfl dX5_command_114 (by assumption) rfl ?_
        refine v_iload_n (pc' := 118) dX5_command_117 rfl rfl ?_
        refine v_iload (pc' := 120) dX5_command_118 rfl rfl ?_
        refine v_cSR (pc' := 123) (c5_canBring hl kR hR (nI (f / 1000)) (nI (f / 10 % 100))) dX5_command_120 lk_X5_119 mwX5_canBring msX5_canBring rfl rfl (by decide) (Nat.le_of_ble_eq_true rfl) rfl ?_
        refine v_if_eq (tgt := 143) (pc' := 126) dX5_command_123 (by decide) rfl (fun c_123 => ?_) (fun c_123 => ?_)
        · first | rw [z_b_ne0] at c_123 | rw [z_b_eq0] at c_123
          refine v_iconst (pc' := 144) dX5_command_143 kc_0 rfl ?_
          exact v_zret dX5_command_144 rfl (Nat.le_refl _) (Nat.le_refl _) rfl ⟨_, rfl, rfl, rfl, (by first | exact absurd c_110 (by decide) | exact absurd rfl c_110 | (rw [q_b1, decide_eq_false c_32]; rfl) | (rw [q_b1, decide_eq_true c_32, c_123]; rfl)), (by first | exact absurd c_110 (by decide) | exact absurd rfl c_110 | (rw [q_g1, if_pos c_32, t_job, if_pos c_123, nI_clamp (by omega)]; done) | (rw [q_g1, if_neg c_32, z_row_self]; done) | (rw [q_g1, if_pos c_32, t_job, if_neg (by rw [c_123]; decide), z_row_self]; done))⟩
        · first | rw [z_b_ne0] at c_123 | rw [z_b_eq0] at c_123
          obtain ⟨t9, s9, et, es, ht9, -⟩ := canb_of hR c_123
          have e9 : f / 1000 = t9 := (nI_eq (by omega) (by omega)).mp et
          have hbp := bringv_pos hR ht9
          rw [← e9] at hbp
          refine v_aload_n (pc' := 127) dX5_command_126 rfl rfl ?_
          refine g_X5_16 (pc' := 130) rfl dX5_command_127 (by assumption) rfl ?_
          refine v_iload_n (pc' := 131) dX5_command_130 rfl rfl ?_
          refine v_iload (pc' := 133) dX5_command_131 rfl rfl ?_
          refine v_cSI (pc' := 136) (c5_bringOn hl kR (f / 1000) (nI (f / 10 % 100)) (by omega) rfl) dX5_command_133 lk_X5_123 mwX5_bringOn msX5_bringOn rfl rfl (by decide) (Nat.le_of_ble_eq_true rfl) rfl ?_
          rintro _ _ ⟨rfl, rfl⟩
          refine v_if_le (tgt := 143) (pc' := 139) dX5_command_136 (by decide) rfl (fun c_136 => ?_) (fun c_136 => ?_)
          · have : False := by rw [Int32.le_iff_toInt_le, i_0] at c_136; omega
            exact this.elim
          · refine v_iconst (pc' := 140) dX5_command_139 kc_1 rfl ?_
            refine v_goto (tgt := 144) dX5_command_140 (by decide) ?_
            exact v_zret dX5_command_144 rfl (Nat.le_refl _) (Nat.le_refl _) rfl ⟨_, rfl, rfl, rfl, (by first | exact absurd c_110 (by decide) | exact absurd rfl c_110 | (rw [q_b1, decide_eq_false c_32]; rfl) | (rw [q_b1, decide_eq_true c_32, c_123]; rfl)), (by first | exact absurd c_110 (by decide) | exact absurd rfl c_110 | (rw [q_g1, if_pos c_32, t_job, if_pos c_123, nI_clamp (by omega)]; done) | (rw [q_g1, if_neg c_32, z_row_self]; done) | (rw [q_g1, if_pos c_32, t_job, if_neg (by rw [c_123]; decide), z_row_self]; done))⟩
    · rw [nI_is0 (by omega)] at c_46
      refine v_iconst (pc' := 50) dX5_command_49 kc_1 rfl ?_
      refine v_goto (tgt := 54) dX5_command_50 (by decide) ?_
      refine v_istore8 (pc' := 56) dX5_command_54 (by decide) rfl rfl ?_
      refine v_iload_n (pc' := 57) dX5_command_56 rfl rfl ?_
      refine v_tableIn (tgt := 108) 0 dX5_command_57 (by rw [nI_toInt (by omega)]; omega) (by decide) rfl (by decide) ?_
      refine v_iload (pc' := 110) dX5_command_108 rfl rfl ?_
      refine v_if_eq (tgt := 143) (pc' := 113) dX5_command_110 (by decide) rfl (fun c_110 => ?_) (fun c_110 => ?_)
      · refine v_iconst (pc' := 144) dX5_command_143 kc_0 rfl ?_
        exact v_zret dX5_command_144 rfl (Nat.le_refl _) (Nat.le_refl _) rfl ⟨_, rfl, rfl, rfl, (by first | exact absurd c_110 (by decide) | exact absurd rfl c_110 | (rw [q_b1, decide_eq_false c_32]; rfl) | (rw [q_b1, decide_eq_true c_32, c_123]; rfl)), (by first | exact absurd c_110 (by decide) | exact absurd rfl c_110 | (rw [q_g1, if_pos c_32, t_job, if_pos c_123, nI_clamp (by omega)]; done) | (rw [q_g1, if_neg c_32, z_row_self]; done) | (rw [q_g1, if_pos c_32, t_job, if_neg (by rw [c_123]; decide), z_row_self]; done))⟩
      · refine v_aload_n (pc' := 114) dX5_command_113 rfl rfl ?_
        refine g_X5_16 (pc' := 117) rfl dX5_command_114 (by assumption) rfl ?_
        refine v_iload_n (pc' := 118) dX5_command_117 rfl rfl ?_
        refine v_iload (pc' := 120) dX5_command_118 rfl rfl ?_
        refine v_cSR (pc' := 123) (c5_canBring hl kR hR (nI (f / 1000)) (nI (f / 10 % 100))) dX5_command_120 lk_X5_119 mwX5_canBring msX5_canBring rfl rfl (by decide) (Nat.le_of_ble_eq_true rfl) rfl ?_
        refine v_if_eq (tgt := 143) (pc' := 126) dX5_command_123 (by decide) rfl (fun c_123 => ?_) (fun c_123 => ?_)
        · first | rw [z_b_ne0] at c_123 | rw [z_b_eq0] at c_123
          refine v_iconst (pc' := 144) dX5_command_143 kc_0 rfl ?_
          exact v_zret dX5_command_144 rfl (Nat.le_refl _) (Nat.le_refl _) rfl ⟨_, rfl, rfl, rfl, (by first | exact absurd c_110 (by decide) | exact absurd rfl c_110 | (rw [q_b1, decide_eq_false c_32]; rfl) | (rw [q_b1, decide_eq_true c_32, c_123]; rfl)), (by first | exact absurd c_110 (by decide) | exact absurd rfl c_110 | (rw [q_g1, if_pos c_32, t_job, if_pos c_123, nI_clamp (by omega)]; done) | (rw [q_g1, if_neg c_32, z_row_self]; done) | (rw [q_g1, if_pos c_32, t_job, if_neg (by rw [c_123]; decide), z_row_self]; done))⟩
        · first | rw [z_b_ne0] at c_123 | rw [z_b_eq0] at c_123
          obtain ⟨t9, s9, et, es, ht9, -⟩ := canb_of hR c_123
          have e9 : f / 1000 = t9 := (nI_eq (by omega) (by omega)).mp et
          have hbp := bringv_pos hR ht9
          rw [← e9] at hbp
          refine v_aload_n (pc' := 127) dX5_command_126 rfl rfl ?_
          refine g_X5_16 (pc' := 130) rfl dX5_command_127 (by assumption) rfl ?_
          refine v_iload_n (pc' := 131) dX5_command_130 rfl rfl ?_
          refine v_iload (pc' := 133) dX5_command_131 rfl rfl ?_
          refine v_cSI (pc' := 136) (c5_bringOn hl kR (f / 1000) (nI (f / 10 % 100)) (by omega) rfl) dX5_command_133 lk_X5_123 mwX5_bringOn msX5_bringOn rfl rfl (by decide) (Nat.le_of_ble_eq_true rfl) rfl ?_
          rintro _ _ ⟨rfl, rfl⟩
          refine v_if_le (tgt := 143) (pc' := 139) dX5_command_136 (by decide) rfl (fun c_136 => ?_) (fun c_136 => ?_)
          · have : False := by rw [Int32.le_iff_toInt_le, i_0] at c_136; omega
            exact this.elim
          · refine v_iconst (pc' := 140) dX5_command_139 kc_1 rfl ?_
            refine v_goto (tgt := 144) dX5_command_140 (by decide) ?_
            exact v_zret dX5_command_144 rfl (Nat.le_refl _) (Nat.le_refl _) rfl ⟨_, rfl, rfl, rfl, (by first | exact absurd c_110 (by decide) | exact absurd rfl c_110 | (rw [q_b1, decide_eq_false c_32]; rfl) | (rw [q_b1, decide_eq_true c_32, c_123]; rfl)), (by first | exact absurd c_110 (by decide) | exact absurd rfl c_110 | (rw [q_g1, if_pos c_32, t_job, if_pos c_123, nI_clamp (by omega)]; done) | (rw [q_g1, if_neg c_32, z_row_self]; done) | (rw [q_g1, if_pos c_32, t_job, if_neg (by rw [c_123]; decide), z_row_self]; done))⟩
set_option maxRecDepth 20000 in
set_option maxHeartbeats 4000000 in
theorem m_cmd_2 (hl : l.stackTraces = false) (hK : ShM E G d) (hR : WF (I (d + 3))) (f : Nat) (hf : f < 10000) : z_CI E l mX5_command 5 [.ref d, .int (nI 2), .int (nI f)] G I sz (fun y9 I' => y9 = z_b (q_gb (I (d + 3)) 2 f) ∧ I' = z_row I (d + 3) (q_g (I (d + 3)) 2 f)) := by
  obtain ⟨k0, kT, kN, kR, kD, kP, kF⟩ := id hK
  have h6 := hR.1.1
  refine z_Ct.of hl pn_X5 [some (.ref d), some (.int (nI 2)), some (.int (nI f)), none, none, none, none, none, none, none] rfl (Nat.le_of_ble_eq_true rfl) ?_
  refine v_iload_n (pc' := 1) dX5_command_0 rfl rfl ?_
  refine v_sipush (pc' := 4) dX5_command_1 ks_1000 rfl ?_
  refine v_idiv (pc' := 5) dX5_command_4 (by decide) rfl ?_
  rw [show nI (f) / (1000 : Int32) = nI ((f) / 1000) from pk_div (d := 1000) (by omega) (by omega) (by omega)]
  refine v_istore_n3 (pc' := 6) dX5_command_5 (by decide) rfl rfl ?_
  refine v_iload_n (pc' := 7) dX5_command_6 rfl rfl ?_
  refine v_bipush (pc' := 9) dX5_command_7 kb_100 rfl ?_
  refine v_idiv (pc' := 10) dX5_command_9 (by decide) rfl ?_
  rw [show nI (f) / (100 : Int32) = nI ((f) / 100) from pk_div (d := 100) (by omega) (by omega) (by omega)]
  refine v_istore4 (pc' := 12) dX5_command_10 (by decide) rfl rfl ?_
  refine v_iload_n (pc' := 13) dX5_command_12 rfl rfl ?_
  refine v_bipush (pc' := 15) dX5_command_13 kb_10 rfl ?_
  refine v_idiv (pc' := 16) dX5_command_15 (by decide) rfl ?_
  rw [show nI (f) / (10 : Int32) = nI ((f) / 10) from pk_div (d := 10) (by omega) (by omega) (by omega)]
  refine v_bipush (pc' := 18) dX5_command_16 kb_100 rfl ?_
  refine v_irem (pc' := 19) dX5_command_18 (by decide) rfl ?_
  rw [show nI (f / 10) - nI (f / 10) / (100 : Int32) * 100 = nI ((f / 10) % 100) from pk_rem (d := 100) (by omega) (by omega) (by omega)]
  refine v_istore5 (pc' := 21) dX5_command_19 (by decide) rfl rfl ?_
  refine v_iload_n (pc' := 22) dX5_command_21 rfl rfl ?_
  refine v_sipush (pc' := 25) dX5_command_22 ks_1000 rfl ?_
  refine v_irem (pc' := 26) dX5_command_25 (by decide) rfl ?_
  rw [show nI (f) - nI (f) / (1000 : Int32) * 1000 = nI ((f) % 1000) from pk_rem (d := 1000) (by omega) (by omega) (by omega)]
  refine v_istore6 (pc' := 28) dX5_command_26 (by decide) rfl rfl ?_
  refine v_iload_n (pc' := 29) dX5_command_28 rfl rfl ?_
  refine v_bipush (pc' := 31) dX5_command_29 kb_10 rfl ?_
  refine v_irem (pc' := 32) dX5_command_31 (by decide) rfl ?_
  rw [show nI (f) - nI (f) / (10 : Int32) * 10 = nI ((f) % 10) from pk_rem (d := 10) (by omega) (by omega) (by omega)]
  refine v_if_ne (tgt := 39) (pc' := 35) dX5_command_32 (by decide) rfl (fun c_32 => ?_) (fun c_32 => ?_)
  · rw [nI_is0 (by omega)] at c_32
    refine v_iconst (pc' := 40) dX5_command_39 kc_0 rfl ?_
    refine v_istore7 (pc' := 42) dX5_command_40 (by decide) rfl rfl ?_
    refine v_iload_n (pc' := 43) dX5_command_42 rfl rfl ?_
    refine v_bipush (pc' := 45) dX5_command_43 kb_100 rfl ?_
    refine v_irem (pc' := 46) dX5_command_45 (by decide) rfl ?_
    rw [show nI (f) - nI (f) / (100 : Int32) * 100 = nI ((f) % 100) from pk_rem (d := 100) (by omega) (by omega) (by omega)]
    refine v_if_ne (tgt := 53) (pc' := 49) dX5_command_46 (by decide) rfl (fun c_46 => ?_) (fun c_46 => ?_)
    · rw [nI_is0 (by omega)] at c_46
      refine v_iconst (pc' := 54) dX5_command_53 kc_0 rfl ?_
      refine v_istore8 (pc' := 56) dX5_command_54 (by decide) rfl rfl ?_
      refine v_iload_n (pc' := 57) dX5_command_56 rfl rfl ?_
      refine v_tableIn (tgt := 145) 1 dX5_command_57 (by rw [nI_toInt (by omega)]; omega) (by decide) rfl (by decide) ?_
      refine v_iload_n (pc' := 146) dX5_command_145 rfl rfl ?_
      refine v_i2l (pc' := 147) dX5_command_146 rfl ?_
      refine v_lconst (pc' := 148) dX5_command_147 kl_1 rfl ?_
      refine v_ldc2 (pc' := 151) dX5_command_148 cn_X5_174 rfl ?_
      refine v_cSR (pc' := 154) (c5_in32 hl (nI f) 1 60 rfl rfl rfl) dX5_command_151 lk_X5_37 mwX5_in msX5_in rfl rfl (by decide) (Nat.le_of_ble_eq_true rfl) rfl ?_
      refine v_if_eq (tgt := 172) (pc' := 157) dX5_command_154 (by decide) rfl (fun c_154 => ?_) (fun c_154 => ?_)
      · first | rw [z_b_ne0] at c_154 | rw [z_b_eq0] at c_154
        refine v_iconst (pc' := 173) dX5_command_172 kc_0 rfl ?_
        exact v_zret dX5_command_173 rfl (Nat.le_refl _) (Nat.le_refl _) rfl ⟨_, rfl, rfl, rfl, (by first | (rw [q_b2, ← in60 hf, c_154]; rfl)), (by first | (rw [q_g2, if_pos c2.1, t_run, if_pos c2.2, nI_clamp (by omega), show f % 100 = f by omega]; done) | (rw [in60 hf] at c_154; rw [q_g2_out c_154, z_row_self]; done))⟩
      · first | rw [z_b_ne0] at c_154 | rw [z_b_eq0] at c_154
        obtain ⟨w9, hw9, ew9⟩ := run_val (n := f) hR
        have c2 := c_154
        rw [in60 hf] at c2
        simp only [Bool.and_eq_true, decide_eq_true_eq] at c2
        refine v_aload_n (pc' := 158) dX5_command_157 rfl rfl ?_
        refine g_X5_16 (pc' := 161) rfl dX5_command_158 (by assumption) rfl ?_
        refine v_iload_n (pc' := 162) dX5_command_161 rfl rfl ?_
        refine v_cSI (pc' := 165) (c5_runOn hl kR hR f (by omega) rfl) dX5_command_162 lk_X5_138 mwX5_runOn msX5_runOn rfl rfl (by decide) (Nat.le_of_ble_eq_true rfl) rfl ?_
        rintro _ _ ⟨rfl, rfl⟩
        rw [ew9]
        refine v_if_lt (tgt := 172) (pc' := 168) dX5_command_165 (by decide) rfl (fun c_165 => ?_) (fun c_165 => ?_)
        · exact absurd c_165 (nI_pos (by omega))
        · refine v_iconst (pc' := 169) dX5_command_168 kc_1 rfl ?_
          refine v_goto (tgt := 173) dX5_command_169 (by decide) ?_
          exact v_zret dX5_command_173 rfl (Nat.le_refl _) (Nat.le_refl _) rfl ⟨_, rfl, rfl, rfl, (by first | (rw [q_b2, ← in60 hf, c_154]; rfl)), (by first | (rw [q_g2, if_pos c2.1, t_run, if_pos c2.2, nI_clamp (by omega), show f % 100 = f by omega]; done) | (rw [in60 hf] at c_154; rw [q_g2_out c_154, z_row_self]; done))⟩
    · rw [nI_is0 (by omega)] at c_46
      refine v_iconst (pc' := 50) dX5_command_49 kc_1 rfl ?_
      refine v_goto (tgt := 54) dX5_command_50 (by decide) ?_
      refine v_istore8 (pc' := 56) dX5_command_54 (by decide) rfl rfl ?_
      refine v_iload_n (pc' := 57) dX5_command_56 rfl rfl ?_
      refine v_tableIn (tgt := 145) 1 dX5_command_57 (by rw [nI_toInt (by omega)]; omega) (by decide) rfl (by decide) ?_
      refine v_iload_n (pc' := 146) dX5_command_145 rfl rfl ?_
      refine v_i2l (pc' := 147) dX5_command_146 rfl ?_
      refine v_lconst (pc' := 148) dX5_command_147 kl_1 rfl ?_
      refine v_ldc2 (pc' := 151) dX5_command_148 cn_X5_174 rfl ?_
      refine v_cSR (pc' := 154) (c5_in32 hl (nI f) 1 60 rfl rfl rfl) dX5_command_151 lk_X5_37 mwX5_in msX5_in rfl rfl (by decide) (Nat.le_of_ble_eq_true rfl) rfl ?_
      refine v_if_eq (tgt := 172) (pc' := 157) dX5_command_154 (by decide) rfl (fun c_154 => ?_) (fun c_154 => ?_)
      · first | rw [z_b_ne0] at c_154 | rw [z_b_eq0] at c_154
        refine v_iconst (pc' := 173) dX5_command_172 kc_0 rfl ?_
        exact v_zret dX5_command_173 rfl (Nat.le_refl _) (Nat.le_refl _) rfl ⟨_, rfl, rfl, rfl, (by first | (rw [q_b2, ← in60 hf, c_154]; rfl)), (by first | (rw [q_g2, if_pos c2.1, t_run, if_pos c2.2, nI_clamp (by omega), show f % 100 = f by omega]; done) | (rw [in60 hf] at c_154; rw [q_g2_out c_154, z_row_self]; done))⟩
      · first | rw [z_b_ne0] at c_154 | rw [z_b_eq0] at c_154
        obtain ⟨w9, hw9, ew9⟩ := run_val (n := f) hR
        have c2 := c_154
        rw [in60 hf] at c2
        simp only [Bool.and_eq_true, decide_eq_true_eq] at c2
        refine v_aload_n (pc' := 158) dX5_command_157 rfl rfl ?_
        refine g_X5_16 (pc' := 161) rfl dX5_command_158 (by assumption) rfl ?_
        refine v_iload_n (pc' := 162) dX5_command_161 rfl rfl ?_
        refine v_cSI (pc' := 165) (c5_runOn hl kR hR f (by omega) rfl) dX5_command_162 lk_X5_138 mwX5_runOn msX5_runOn rfl rfl (by decide) (Nat.le_of_ble_eq_true rfl) rfl ?_
        rintro _ _ ⟨rfl, rfl⟩
        rw [ew9]
        refine v_if_lt (tgt := 172) (pc' := 168) dX5_command_165 (by decide) rfl (fun c_165 => ?_) (fun c_165 => ?_)
        · exact absurd c_165 (nI_pos (by omega))
        · refine v_iconst (pc' := 169) dX5_command_168 kc_1 rfl ?_
          refine v_goto (tgt := 173) dX5_command_169 (by decide) ?_
          exact v_zret dX5_command_173 rfl (Nat.le_refl _) (Nat.le_refl _) rfl ⟨_, rfl, rfl, rfl, (by first | (rw [q_b2, ← in60 hf, c_154]; rfl)), (by first | (rw [q_g2, if_pos c2.1, t_run, if_pos c2.2, nI_clamp (by omega), show f % 100 = f by omega]; done) | (rw [in60 hf] at c_154; rw [q_g2_out c_154, z_row_self]; done))⟩
  · rw [nI_is0 (by omega)] at c_32
    refine v_iconst (pc' := 36) dX5_command_35 kc_1 rfl ?_
    refine v_goto (tgt := 40) dX5_command_36 (by decide) ?_
    refine v_istore7 (pc' := 42) dX5_command_40 (by decide) rfl rfl ?_
    refine v_iload_n (pc' := 43) dX5_command_42 rfl rfl ?_
    refine v_bipush (pc' := 45) dX5_command_43 kb_100 rfl ?_
    refine v_irem (pc' := 46) dX5_command_45 (by decide) rfl ?_
    rw [show nI (f) - nI (f) / (100 : Int32) * 100 = nI ((f) % 100) from pk_rem (d := 100) (by omega) (by omega) (by omega)]
    refine v_if_ne (tgt := 53) (pc' := 49) dX5_command_46 (by decide) rfl (fun c_46 => ?_) (fun c_46 => ?_)
    · rw [nI_is0 (by omega)] at c_46
      refine v_iconst (pc' := 54) dX5_command_53 kc_0 rfl ?_
      refine v_istore8 (pc' := 56) dX5_command_54 (by decide) rfl rfl ?_
      refine v_iload_n (pc' := 57) dX5_command_56 rfl rfl ?_
      refine v_tableIn (tgt := 145) 1 dX5_command_57 (by rw [nI_toInt (by omega)]; omega) (by decide) rfl (by decide) ?_
      refine v_iload_n (pc' := 146) dX5_command_145 rfl rfl ?_
      refine v_i2l (pc' := 147) dX5_command_146 rfl ?_
      refine v_lconst (pc' := 148) dX5_command_147 kl_1 rfl ?_
      refine v_ldc2 (pc' := 151) dX5_command_148 cn_X5_174 rfl ?_
      refine v_cSR (pc' := 154) (c5_in32 hl (nI f) 1 60 rfl rfl rfl) dX5_command_151 lk_X5_37 mwX5_in msX5_in rfl rfl (by decide) (Nat.le_of_ble_eq_true rfl) rfl ?_
      refine v_if_eq (tgt := 172) (pc' := 157) dX5_command_154 (by decide) rfl (fun c_154 => ?_) (fun c_154 => ?_)
      · first | rw [z_b_ne0] at c_154 | rw [z_b_eq0] at c_154
        refine v_iconst (pc' := 173) dX5_command_172 kc_0 rfl ?_
        exact v_zret dX5_command_173 rfl (Nat.le_refl _) (Nat.le_refl _) rfl ⟨_, rfl, rfl, rfl, (by first | (rw [q_b2, ← in60 hf, c_154]; rfl)), (by first | (rw [q_g2, if_pos c2.1, t_run, if_pos c2.2, nI_clamp (by omega), show f % 100 = f by omega]; done) | (rw [in60 hf] at c_154; rw [q_g2_out c_154, z_row_self]; done))⟩
      · first | rw [z_b_ne0] at c_154 | rw [z_b_eq0] at c_154
        obtain ⟨w9, hw9, ew9⟩ := run_val (n := f) hR
        have c2 := c_154
        rw [in60 hf] at c2
        simp only [Bool.and_eq_true, decide_eq_true_eq] at c2
        refine v_aload_n (pc' := 158) dX5_command_157 rfl rfl ?_
        refine g_X5_16 (pc' := 161) rfl dX5_command_158 (by assumption) rfl ?_
        refine v_iload_n (pc' := 162) dX5_command_161 rfl rfl ?_
        refine v_cSI (pc' := 165) (c5_runOn hl kR hR f (by omega) rfl) dX5_command_162 lk_X5_138 mwX5_runOn msX5_runOn rfl rfl (by decide) (Nat.le_of_ble_eq_true rfl) rfl ?_
        rintro _ _ ⟨rfl, rfl⟩
        rw [ew9]
        refine v_if_lt (tgt := 172) (pc' := 168) dX5_command_165 (by decide) rfl (fun c_165 => ?_) (fun c_165 => ?_)
        · exact absurd c_165 (nI_pos (by omega))
        · refine v_iconst (pc' := 169) dX5_command_168 kc_1 rfl ?_
          refine v_goto (tgt := 173) dX5_command_169 (by decide) ?_
          exact v_zret dX5_command_173 rfl (Nat.le_refl _) (Nat.le_refl _) rfl ⟨_, rfl, rfl, rfl, (by first | (rw [q_b2, ← in60 hf, c_154]; rfl)), (by first | (rw [q_g2, if_pos c2.1, t_run, if_pos c2.2, nI_clamp (by omega), show f % 100 = f by omega]; done) | (rw [in60 hf] at c_154; rw [q_g2_out c_154, z_row_self]; done))⟩
    · rw [nI_is0 (by omega)] at c_46
      refine v_iconst (pc' := 50) dX5_command_49 kc_1 rfl ?_
      refine v_goto (tgt := 54) dX5_command_50 (by decide) ?_
      refine v_istore8 (pc' := 56) dX5_command_54 (by decide) rfl rfl ?_
      refine v_iload_n (pc' := 57) dX5_command_56 rfl rfl ?_
      refine v_tableIn (tgt := 145) 1 dX5_command_57 (by rw [nI_toInt (by omega)]; omega) (by decide) rfl (by decide) ?_
      refine v_iload_n (pc' := 146) dX5_command_145 rfl rfl ?_
      refine v_i2l (pc' := 147) dX5_command_146 rfl ?_
      refine v_lconst (pc' := 148) dX5_command_147 kl_1 rfl ?_
      refine v_ldc2 (pc' := 151) dX5_command_148 cn_X5_174 rfl ?_
      refine v_cSR (pc' := 154) (c5_in32 hl (nI f) 1 60 rfl rfl rfl) dX5_command_151 lk_X5_37 mwX5_in msX5_in rfl rfl (by decide) (Nat.le_of_ble_eq_true rfl) rfl ?_
      refine v_if_eq (tgt := 172) (pc' := 157) dX5_command_154 (by decide) rfl (fun c_154 => ?_) (fun c_154 => ?_)
      · first | rw [z_b_ne0] at c_154 | rw [z_b_eq0] at c_154
        refine v_iconst (pc' := 173) dX5_command_172 kc_0 rfl ?_
        exact v_zret dX5_command_173 rfl (Nat.le_refl _) (Nat.le_refl _) rfl ⟨_, rfl, rfl, rfl, (by first | (rw [q_b2, ← in60 hf, c_154]; rfl)), (by first | (rw [q_g2, if_pos c2.1, t_run, if_pos c2.2, nI_clamp (by omega), show f % 100 = f by omega]; done) | (rw [in60 hf] at c_154; rw [q_g2_out c_154, z_row_self]; done))⟩
      · first | rw [z_b_ne0] at c_154 | rw [z_b_eq0] at c_154
        obtain ⟨w9, hw9, ew9⟩ := run_val (n := f) hR
        have c2 := c_154
        rw [in60 hf] at c2
        simp only [Bool.and_eq_true, decide_eq_true_eq] at c2
        refine v_aload_n (pc' := 158) dX5_command_157 rfl rfl ?_
        refine g_X5_16 (pc' := 161) rfl dX5_command_158 (by assumption) rfl ?_
        refine v_iload_n (pc' := 162) dX5_command_161 rfl rfl ?_
        refine v_cSI (pc' := 165) (c5_runOn hl kR hR f (by omega) rfl) dX5_command_162 lk_X5_138 mwX5_runOn msX5_runOn rfl rfl (by decide) (Nat.le_of_ble_eq_true rfl) rfl ?_
        rintro _ _ ⟨rfl, rfl⟩
        rw [ew9]
        refine v_if_lt (tgt := 172) (pc' := 168) dX5_command_165 (by decide) rfl (fun c_165 => ?_) (fun c_165 => ?_)
        · exact absurd c_165 (nI_pos (by omega))
        · refine v_iconst (pc' := 169) dX5_command_168 kc_1 rfl ?_
          refine v_goto (tgt := 173) dX5_command_169 (by decide) ?_
          exact v_zret dX5_command_173 rfl (Nat.le_refl _) (Nat.le_refl _) rfl ⟨_, rfl, rfl, rfl, (by first | (rw [q_b2, ← in60 hf, c_154]; rfl)), (by first | (rw [q_g2, if_pos c2.1, t_run, if_pos c2.2, nI_clamp (by omega), show f % 100 = f by omega]; done) | (rw [in60 hf] at c_154; rw [q_g2_out c_154, z_row_self]; done))⟩
set_option maxRecDepth 20000 in
set_option maxHeartbeats 4000000 in
theorem m_cmd_3 (hl : l.stackTraces = false) (hK : ShM E G d) (hR : WF (I (d + 3))) (f : Nat) (hf : f < 10000) : z_CI E l mX5_command 5 [.ref d, .int (nI 3), .int (nI f)] G I sz (fun y9 I' => y9 = z_b (q_gb (I (d + 3)) 3 f) ∧ I' = z_row I (d + 3) (q_g (I (d + 3)) 3 f)) := by
  obtain ⟨k0, kT, kN, kR, kD, kP, kF⟩ := id hK
  have h6 := hR.1.1
  refine z_Ct.of hl pn_X5 [some (.ref d), some (.int (nI 3)), some (.int (nI f)), none, none, none, none, none, none, none] rfl (Nat.le_of_ble_eq_true rfl) ?_
  refine v_iload_n (pc' := 1) dX5_command_0 rfl rfl ?_
  refine v_sipush (pc' := 4) dX5_command_1 ks_1000 rfl ?_
  refine v_idiv (pc' := 5) dX5_command_4 (by decide) rfl ?_
  rw [show nI (f) / (1000 : Int32) = nI ((f) / 1000) from pk_div (d := 1000) (by omega) (by omega) (by omega)]
  refine v_istore_n3 (pc' := 6) dX5_command_5 (by decide) rfl rfl ?_
  refine v_iload_n (pc' := 7) dX5_command_6 rfl rfl ?_
  refine v_bipush (pc' := 9) dX5_command_7 kb_100 rfl ?_
  refine v_idiv (pc' := 10) dX5_command_9 (by decide) rfl ?_
  rw [show nI (f) / (100 : Int32) = nI ((f) / 100) from pk_div (d := 100) (by omega) (by omega) (by omega)]
  refine v_istore4 (pc' := 12) dX5_command_10 (by decide) rfl rfl ?_
  refine v_iload_n (pc' := 13) dX5_command_12 rfl rfl ?_
  refine v_bipush (pc' := 15) dX5_command_13 kb_10 rfl ?_
  refine v_idiv (pc' := 16) dX5_command_15 (by decide) rfl ?_
  rw [show nI (f) / (10 : Int32) = nI ((f) / 10) from pk_div (d := 10) (by omega) (by omega) (by omega)]
  refine v_bipush (pc' := 18) dX5_command_16 kb_100 rfl ?_
  refine v_irem (pc' := 19) dX5_command_18 (by decide) rfl ?_
  rw [show nI (f / 10) - nI (f / 10) / (100 : Int32) * 100 = nI ((f / 10) % 100) from pk_rem (d := 100) (by omega) (by omega) (by omega)]
  refine v_istore5 (pc' := 21) dX5_command_19 (by decide) rfl rfl ?_
  refine v_iload_n (pc' := 22) dX5_command_21 rfl rfl ?_
  refine v_sipush (pc' := 25) dX5_command_22 ks_1000 rfl ?_
  refine v_irem (pc' := 26) dX5_command_25 (by decide) rfl ?_
  rw [show nI (f) - nI (f) / (1000 : Int32) * 1000 = nI ((f) % 1000) from pk_rem (d := 1000) (by omega) (by omega) (by omega)]
  refine v_istore6 (pc' := 28) dX5_command_26 (by decide) rfl rfl ?_
  refine v_iload_n (pc' := 29) dX5_command_28 rfl rfl ?_
  refine v_bipush (pc' := 31) dX5_command_29 kb_10 rfl ?_
  refine v_irem (pc' := 32) dX5_command_31 (by decide) rfl ?_
  rw [show nI (f) - nI (f) / (10 : Int32) * 10 = nI ((f) % 10) from pk_rem (d := 10) (by omega) (by omega) (by omega)]
  refine v_if_ne (tgt := 39) (pc' := 35) dX5_command_32 (by decide) rfl (fun c_32 => ?_) (fun c_32 => ?_)
  · rw [nI_is0 (by omega)] at c_32
    refine v_iconst (pc' := 40) dX5_command_39 kc_0 rfl ?_
    refine v_istore7 (pc' := 42) dX5_command_40 (by decide) rfl rfl ?_
    refine v_iload_n (pc' := 43) dX5_command_42 rfl rfl ?_
    refine v_bipush (pc' := 45) dX5_command_43 kb_100 rfl ?_
    refine v_irem (pc' := 46) dX5_command_45 (by decide) rfl ?_
    rw [show nI (f) - nI (f) / (100 : Int32) * 100 = nI ((f) % 100) from pk_rem (d := 100) (by omega) (by omega) (by omega)]
    refine v_if_ne (tgt := 53) (pc' := 49) dX5_command_46 (by decide) rfl (fun c_46 => ?_) (fun c_46 => ?_)
    · rw [nI_is0 (by omega)] at c_46
      refine v_iconst (pc' := 54) dX5_command_53 kc_0 rfl ?_
      refine v_istore8 (pc' := 56) dX5_command_54 (by decide) rfl rfl ?_
      refine v_iload_n (pc' := 57) dX5_command_56 rfl rfl ?_
      refine v_tableIn (tgt := 174) 2 dX5_command_57 (by rw [nI_toInt (by omega)]; omega) (by decide) rfl (by decide) ?_
      refine v_iload (pc' := 176) dX5_command_174 rfl rfl ?_
      refine v_if_eq (tgt := 204) (pc' := 179) dX5_command_176 (by decide) rfl (fun c_176 => ?_) (fun c_176 => ?_)
      · refine v_iconst (pc' := 205) dX5_command_204 kc_0 rfl ?_
        exact v_zret dX5_command_205 rfl (Nat.le_refl _) (Nat.le_refl _) rfl ⟨_, rfl, rfl, rfl, (by first | exact absurd c_176 (by decide) | exact absurd rfl c_176 | (rw [q_b3, decide_eq_false c_46]; rfl) | (rw [q_b3, decide_eq_true c_46, c_184]; rfl)), (by first | exact absurd c_176 (by decide) | exact absurd rfl c_176 | (rw [q_g3, if_pos c_46, t_bad, if_pos c_184, nI_clamp (by omega)]; done) | (rw [q_g3, if_neg c_46, z_row_self]; done) | (rw [q_g3, if_pos c_46, t_bad, if_neg (by rw [c_184]; decide), z_row_self]; done))⟩
      · refine v_iload (pc' := 181) dX5_command_179 rfl rfl ?_
        refine v_cSR (pc' := 184) (c5_isStripe hl (nI (f / 100))) dX5_command_181 lk_X5_65 mwX5_isStripe msX5_isStripe rfl rfl (by decide) (Nat.le_of_ble_eq_true rfl) rfl ?_
        refine v_if_eq (tgt := 204) (pc' := 187) dX5_command_184 (by decide) rfl (fun c_184 => ?_) (fun c_184 => ?_)
        · first | rw [z_b_ne0] at c_184 | rw [z_b_eq0] at c_184
          refine v_iconst (pc' := 205) dX5_command_204 kc_0 rfl ?_
          exact v_zret dX5_command_205 rfl (Nat.le_refl _) (Nat.le_refl _) rfl ⟨_, rfl, rfl, rfl, (by first | exact absurd c_176 (by decide) | exact absurd rfl c_176 | (rw [q_b3, decide_eq_false c_46]; rfl) | (rw [q_b3, decide_eq_true c_46, c_184]; rfl)), (by first | exact absurd c_176 (by decide) | exact absurd rfl c_176 | (rw [q_g3, if_pos c_46, t_bad, if_pos c_184, nI_clamp (by omega)]; done) | (rw [q_g3, if_neg c_46, z_row_self]; done) | (rw [q_g3, if_pos c_46, t_bad, if_neg (by rw [c_184]; decide), z_row_self]; done))⟩
        · first | rw [z_b_ne0] at c_184 | rw [z_b_eq0] at c_184
          obtain ⟨u9, hu9, e9⟩ := p_isStripe_nI c_184
          have e9 := (nI_eq (by omega) (by omega)).mp e9
          have hh := p_hurt_cases hR (nI (f / 100))
          refine v_aload_n (pc' := 188) dX5_command_187 rfl rfl ?_
          refine g_X5_16 (pc' := 191) rfl dX5_command_188 (by assumption) rfl ?_
          refine v_iload (pc' := 193) dX5_command_191 rfl rfl ?_
          refine v_cSI (pc' := 196) (c5_turnOn hl kR hR (f / 100) (by omega) rfl) dX5_command_193 lk_X5_126 mwX5_turnOn msX5_turnOn rfl rfl (by decide) (Nat.le_of_ble_eq_true rfl) rfl ?_
          rintro _ _ ⟨rfl, rfl⟩
          refine v_iconst (pc' := 197) dX5_command_196 kc_m1 rfl ?_
          refine v_icmp_lt (tgt := 204) (pc' := 200) dX5_command_197 (by decide) rfl (fun c_197 => ?_) (fun c_197 => ?_)
          · have : False := by
              rw [Int32.lt_iff_toInt_lt, i_m1] at c_197
              rcases hh with q | ⟨u, -, hu, q⟩
              · rw [q, i_m1] at c_197; omega
              · rw [q, nI_toInt (by omega)] at c_197; omega
            exact this.elim
          · refine v_iconst (pc' := 201) dX5_command_200 kc_1 rfl ?_
            refine v_goto (tgt := 205) dX5_command_201 (by decide) ?_
            exact v_zret dX5_command_205 rfl (Nat.le_refl _) (Nat.le_refl _) rfl ⟨_, rfl, rfl, rfl, (by first | exact absurd c_176 (by decide) | exact absurd rfl c_176 | (rw [q_b3, decide_eq_false c_46]; rfl) | (rw [q_b3, decide_eq_true c_46, c_184]; rfl)), (by first | exact absurd c_176 (by decide) | exact absurd rfl c_176 | (rw [q_g3, if_pos c_46, t_bad, if_pos c_184, nI_clamp (by omega)]; done) | (rw [q_g3, if_neg c_46, z_row_self]; done) | (rw [q_g3, if_pos c_46, t_bad, if_neg (by rw [c_184]; decide), z_row_self]; done))⟩
    · rw [nI_is0 (by omega)] at c_46
      refine v_iconst (pc' := 50) dX5_command_49 kc_1 rfl ?_
      refine v_goto (tgt := 54) dX5_command_50 (by decide) ?_
      refine v_istore8 (pc' := 56) dX5_command_54 (by decide) rfl rfl ?_
      refine v_iload_n (pc' := 57) dX5_command_56 rfl rfl ?_
      refine v_tableIn (tgt := 174) 2 dX5_command_57 (by rw [nI_toInt (by omega)]; omega) (by decide) rfl (by decide) ?_
      refine v_iload (pc' := 176) dX5_command_174 rfl rfl ?_
      refine v_if_eq (tgt := 204) (pc' := 179) dX5_command_176 (by decide) rfl (fun c_176 => ?_) (fun c_176 => ?_)
      · refine v_iconst (pc' := 205) dX5_command_204 kc_0 rfl ?_
        exact v_zret dX5_command_205 rfl (Nat.le_refl _) (Nat.le_refl _) rfl ⟨_, rfl, rfl, rfl, (by first | exact absurd c_176 (by decide) | exact absurd rfl c_176 | (rw [q_b3, decide_eq_false c_46]; rfl) | (rw [q_b3, decide_eq_true c_46, c_184]; rfl)), (by first | exact absurd c_176 (by decide) | exact absurd rfl c_176 | (rw [q_g3, if_pos c_46, t_bad, if_pos c_184, nI_clamp (by omega)]; done) | (rw [q_g3, if_neg c_46, z_row_self]; done) | (rw [q_g3, if_pos c_46, t_bad, if_neg (by rw [c_184]; decide), z_row_self]; done))⟩
      · refine v_iload (pc' := 181) dX5_command_179 rfl rfl ?_
        refine v_cSR (pc' := 184) (c5_isStripe hl (nI (f / 100))) dX5_command_181 lk_X5_65 mwX5_isStripe msX5_isStripe rfl rfl (by decide) (Nat.le_of_ble_eq_true rfl) rfl ?_
        refine v_if_eq (tgt := 204) (pc' := 187) dX5_command_184 (by decide) rfl (fun c_184 => ?_) (fun c_184 => ?_)
        · first | rw [z_b_ne0] at c_184 | rw [z_b_eq0] at c_184
          refine v_iconst (pc' := 205) dX5_command_204 kc_0 rfl ?_
          exact v_zret dX5_command_205 rfl (Nat.le_refl _) (Nat.le_refl _) rfl ⟨_, rfl, rfl, rfl, (by first | exact absurd c_176 (by decide) | exact absurd rfl c_176 | (rw [q_b3, decide_eq_false c_46]; rfl) | (rw [q_b3, decide_eq_true c_46, c_184]; rfl)), (by first | exact absurd c_176 (by decide) | exact absurd rfl c_176 | (rw [q_g3, if_pos c_46, t_bad, if_pos c_184, nI_clamp (by omega)]; done) | (rw [q_g3, if_neg c_46, z_row_self]; done) | (rw [q_g3, if_pos c_46, t_bad, if_neg (by rw [c_184]; decide), z_row_self]; done))⟩
        · first | rw [z_b_ne0] at c_184 | rw [z_b_eq0] at c_184
          obtain ⟨u9, hu9, e9⟩ := p_isStripe_nI c_184
          have e9 := (nI_eq (by omega) (by omega)).mp e9
          have hh := p_hurt_cases hR (nI (f / 100))
          refine v_aload_n (pc' := 188) dX5_command_187 rfl rfl ?_
          refine g_X5_16 (pc' := 191) rfl dX5_command_188 (by assumption) rfl ?_
          refine v_iload (pc' := 193) dX5_command_191 rfl rfl ?_
          refine v_cSI (pc' := 196) (c5_turnOn hl kR hR (f / 100) (by omega) rfl) dX5_command_193 lk_X5_126 mwX5_turnOn msX5_turnOn rfl rfl (by decide) (Nat.le_of_ble_eq_true rfl) rfl ?_
          rintro _ _ ⟨rfl, rfl⟩
          refine v_iconst (pc' := 197) dX5_command_196 kc_m1 rfl ?_
          refine v_icmp_lt (tgt := 204) (pc' := 200) dX5_command_197 (by decide) rfl (fun c_197 => ?_) (fun c_197 => ?_)
          · have : False := by
              rw [Int32.lt_iff_toInt_lt, i_m1] at c_197
              rcases hh with q | ⟨u, -, hu, q⟩
              · rw [q, i_m1] at c_197; omega
              · rw [q, nI_toInt (by omega)] at c_197; omega
            exact this.elim
          · refine v_iconst (pc' := 201) dX5_command_200 kc_1 rfl ?_
            refine v_goto (tgt := 205) dX5_command_201 (by decide) ?_
            exact v_zret dX5_command_205 rfl (Nat.le_refl _) (Nat.le_refl _) rfl ⟨_, rfl, rfl, rfl, (by first | exact absurd c_176 (by decide) | exact absurd rfl c_176 | (rw [q_b3, decide_eq_false c_46]; rfl) | (rw [q_b3, decide_eq_true c_46, c_184]; rfl)), (by first | exact absurd c_176 (by decide) | exact absurd rfl c_176 | (rw [q_g3, if_pos c_46, t_bad, if_pos c_184, nI_clamp (by omega)]; done) | (rw [q_g3, if_neg c_46, z_row_self]; done) | (rw [q_g3, if_pos c_46, t_bad, if_neg (by rw [c_184]; decide), z_row_self]; done))⟩
  · rw [nI_is0 (by omega)] at c_32
    refine v_iconst (pc' := 36) dX5_command_35 kc_1 rfl ?_
    refine v_goto (tgt := 40) dX5_command_36 (by decide) ?_
    refine v_istore7 (pc' := 42) dX5_command_40 (by decide) rfl rfl ?_
    refine v_iload_n (pc' := 43) dX5_command_42 rfl rfl ?_
    refine v_bipush (pc' := 45) dX5_command_43 kb_100 rfl ?_
    refine v_irem (pc' := 46) dX5_command_45 (by decide) rfl ?_
    rw [show nI (f) - nI (f) / (100 : Int32) * 100 = nI ((f) % 100) from pk_rem (d := 100) (by omega) (by omega) (by omega)]
    refine v_if_ne (tgt := 53) (pc' := 49) dX5_command_46 (by decide) rfl (fun c_46 => ?_) (fun c_46 => ?_)
    · rw [nI_is0 (by omega)] at c_46
      refine v_iconst (pc' := 54) dX5_command_53 kc_0 rfl ?_
      refine v_istore8 (pc' := 56) dX5_command_54 (by decide) rfl rfl ?_
      refine v_iload_n (pc' := 57) dX5_command_56 rfl rfl ?_
      refine v_tableIn (tgt := 174) 2 dX5_command_57 (by rw [nI_toInt (by omega)]; omega) (by decide) rfl (by decide) ?_
      refine v_iload (pc' := 176) dX5_command_174 rfl rfl ?_
      refine v_if_eq (tgt := 204) (pc' := 179) dX5_command_176 (by decide) rfl (fun c_176 => ?_) (fun c_176 => ?_)
      · refine v_iconst (pc' := 205) dX5_command_204 kc_0 rfl ?_
        exact v_zret dX5_command_205 rfl (Nat.le_refl _) (Nat.le_refl _) rfl ⟨_, rfl, rfl, rfl, (by first | exact absurd c_176 (by decide) | exact absurd rfl c_176 | (rw [q_b3, decide_eq_false c_46]; rfl) | (rw [q_b3, decide_eq_true c_46, c_184]; rfl)), (by first | exact absurd c_176 (by decide) | exact absurd rfl c_176 | (rw [q_g3, if_pos c_46, t_bad, if_pos c_184, nI_clamp (by omega)]; done) | (rw [q_g3, if_neg c_46, z_row_self]; done) | (rw [q_g3, if_pos c_46, t_bad, if_neg (by rw [c_184]; decide), z_row_self]; done))⟩
      · refine v_iload (pc' := 181) dX5_command_179 rfl rfl ?_
        refine v_cSR (pc' := 184) (c5_isStripe hl (nI (f / 100))) dX5_command_181 lk_X5_65 mwX5_isStripe msX5_isStripe rfl rfl (by decide) (Nat.le_of_ble_eq_true rfl) rfl ?_
        refine v_if_eq (tgt := 204) (pc' := 187) dX5_command_184 (by decide) rfl (fun c_184 => ?_) (fun c_184 => ?_)
        · first | rw [z_b_ne0] at c_184 | rw [z_b_eq0] at c_184
          refine v_iconst (pc' := 205) dX5_command_204 kc_0 rfl ?_
          exact v_zret dX5_command_205 rfl (Nat.le_refl _) (Nat.le_refl _) rfl ⟨_, rfl, rfl, rfl, (by first | exact absurd c_176 (by decide) | exact absurd rfl c_176 | (rw [q_b3, decide_eq_false c_46]; rfl) | (rw [q_b3, decide_eq_true c_46, c_184]; rfl)), (by first | exact absurd c_176 (by decide) | exact absurd rfl c_176 | (rw [q_g3, if_pos c_46, t_bad, if_pos c_184, nI_clamp (by omega)]; done) | (rw [q_g3, if_neg c_46, z_row_self]; done) | (rw [q_g3, if_pos c_46, t_bad, if_neg (by rw [c_184]; decide), z_row_self]; done))⟩
        · first | rw [z_b_ne0] at c_184 | rw [z_b_eq0] at c_184
          obtain ⟨u9, hu9, e9⟩ := p_isStripe_nI c_184
          have e9 := (nI_eq (by omega) (by omega)).mp e9
          have hh := p_hurt_cases hR (nI (f / 100))
          refine v_aload_n (pc' := 188) dX5_command_187 rfl rfl ?_
          refine g_X5_16 (pc' := 191) rfl dX5_command_188 (by assumption) rfl ?_
          refine v_iload (pc' := 193) dX5_command_191 rfl rfl ?_
          refine v_cSI (pc' := 196) (c5_turnOn hl kR hR (f / 100) (by omega) rfl) dX5_command_193 lk_X5_126 mwX5_turnOn msX5_turnOn rfl rfl (by decide) (Nat.le_of_ble_eq_true rfl) rfl ?_
          rintro _ _ ⟨rfl, rfl⟩
          refine v_iconst (pc' := 197) dX5_command_196 kc_m1 rfl ?_
          refine v_icmp_lt (tgt := 204) (pc' := 200) dX5_command_197 (by decide) rfl (fun c_197 => ?_) (fun c_197 => ?_)
          · have : False := by
              rw [Int32.lt_iff_toInt_lt, i_m1] at c_197
              rcases hh with q | ⟨u, -, hu, q⟩
              · rw [q, i_m1] at c_197; omega
              · rw [q, nI_toInt (by omega)] at c_197; omega
            exact this.elim
          · refine v_iconst (pc' := 201) dX5_command_200 kc_1 rfl ?_
            refine v_goto (tgt := 205) dX5_command_201 (by decide) ?_
            exact v_zret dX5_command_205 rfl (Nat.le_refl _) (Nat.le_refl _) rfl ⟨_, rfl, rfl, rfl, (by first | exact absurd c_176 (by decide) | exact absurd rfl c_176 | (rw [q_b3, decide_eq_false c_46]; rfl) | (rw [q_b3, decide_eq_true c_46, c_184]; rfl)), (by first | exact absurd c_176 (by decide) | exact absurd rfl c_176 | (rw [q_g3, if_pos c_46, t_bad, if_pos c_184, nI_clamp (by omega)]; done) | (rw [q_g3, if_neg c_46, z_row_self]; done) | (rw [q_g3, if_pos c_46, t_bad, if_neg (by rw [c_184]; decide), z_row_self]; done))⟩
    · rw [nI_is0 (by omega)] at c_46
      refine v_iconst (pc' := 50) dX5_command_49 kc_1 rfl ?_
      refine v_goto (tgt := 54) dX5_command_50 (by decide) ?_
      refine v_istore8 (pc' := 56) dX5_command_54 (by decide) rfl rfl ?_
      refine v_iload_n (pc' := 57) dX5_command_56 rfl rfl ?_
      refine v_tableIn (tgt := 174) 2 dX5_command_57 (by rw [nI_toInt (by omega)]; omega) (by decide) rfl (by decide) ?_
      refine v_iload (pc' := 176) dX5_command_174 rfl rfl ?_
      refine v_if_eq (tgt := 204) (pc' := 179) dX5_command_176 (by decide) rfl (fun c_176 => ?_) (fun c_176 => ?_)
      · refine v_iconst (pc' := 205) dX5_command_204 kc_0 rfl ?_
        exact v_zret dX5_command_205 rfl (Nat.le_refl _) (Nat.le_refl _) rfl ⟨_, rfl, rfl, rfl, (by first | exact absurd c_176 (by decide) | exact absurd rfl c_176 | (rw [q_b3, decide_eq_false c_46]; rfl) | (rw [q_b3, decide_eq_true c_46, c_184]; rfl)), (by first | exact absurd c_176 (by decide) | exact absurd rfl c_176 | (rw [q_g3, if_pos c_46, t_bad, if_pos c_184, nI_clamp (by omega)]; done) | (rw [q_g3, if_neg c_46, z_row_self]; done) | (rw [q_g3, if_pos c_46, t_bad, if_neg (by rw [c_184]; decide), z_row_self]; done))⟩
      · refine v_iload (pc' := 181) dX5_command_179 rfl rfl ?_
        refine v_cSR (pc' := 184) (c5_isStripe hl (nI (f / 100))) dX5_command_181 lk_X5_65 mwX5_isStripe msX5_isStripe rfl rfl (by decide) (Nat.le_of_ble_eq_true rfl) rfl ?_
        refine v_if_eq (tgt := 204) (pc' := 187) dX5_command_184 (by decide) rfl (fun c_184 => ?_) (fun c_184 => ?_)
        · first | rw [z_b_ne0] at c_184 | rw [z_b_eq0] at c_184
          refine v_iconst (pc' := 205) dX5_command_204 kc_0 rfl ?_
          exact v_zret dX5_command_205 rfl (Nat.le_refl _) (Nat.le_refl _) rfl ⟨_, rfl, rfl, rfl, (by first | exact absurd c_176 (by decide) | exact absurd rfl c_176 | (rw [q_b3, decide_eq_false c_46]; rfl) | (rw [q_b3, decide_eq_true c_46, c_184]; rfl)), (by first | exact absurd c_176 (by decide) | exact absurd rfl c_176 | (rw [q_g3, if_pos c_46, t_bad, if_pos c_184, nI_clamp (by omega)]; done) | (rw [q_g3, if_neg c_46, z_row_self]; done) | (rw [q_g3, if_pos c_46, t_bad, if_neg (by rw [c_184]; decide), z_row_self]; done))⟩
        · first | rw [z_b_ne0] at c_184 | rw [z_b_eq0] at c_184
          obtain ⟨u9, hu9, e9⟩ := p_isStripe_nI c_184
          have e9 := (nI_eq (by omega) (by omega)).mp e9
          have hh := p_hurt_cases hR (nI (f / 100))
          refine v_aload_n (pc' := 188) dX5_command_187 rfl rfl ?_
          refine g_X5_16 (pc' := 191) rfl dX5_command_188 (by assumption) rfl ?_
          refine v_iload (pc' := 193) dX5_command_191 rfl rfl ?_
          refine v_cSI (pc' := 196) (c5_turnOn hl kR hR (f / 100) (by omega) rfl) dX5_command_193 lk_X5_126 mwX5_turnOn msX5_turnOn rfl rfl (by decide) (Nat.le_of_ble_eq_true rfl) rfl ?_
          rintro _ _ ⟨rfl, rfl⟩
          refine v_iconst (pc' := 197) dX5_command_196 kc_m1 rfl ?_
          refine v_icmp_lt (tgt := 204) (pc' := 200) dX5_command_197 (by decide) rfl (fun c_197 => ?_) (fun c_197 => ?_)
          · have : False := by
              rw [Int32.lt_iff_toInt_lt, i_m1] at c_197
              rcases hh with q | ⟨u, -, hu, q⟩
              · rw [q, i_m1] at c_197; omega
              · rw [q, nI_toInt (by omega)] at c_197; omega
            exact this.elim
          · refine v_iconst (pc' := 201) dX5_command_200 kc_1 rfl ?_
            refine v_goto (tgt := 205) dX5_command_201 (by decide) ?_
            exact v_zret dX5_command_205 rfl (Nat.le_refl _) (Nat.le_refl _) rfl ⟨_, rfl, rfl, rfl, (by first | exact absurd c_176 (by decide) | exact absurd rfl c_176 | (rw [q_b3, decide_eq_false c_46]; rfl) | (rw [q_b3, decide_eq_true c_46, c_184]; rfl)), (by first | exact absurd c_176 (by decide) | exact absurd rfl c_176 | (rw [q_g3, if_pos c_46, t_bad, if_pos c_184, nI_clamp (by omega)]; done) | (rw [q_g3, if_neg c_46, z_row_self]; done) | (rw [q_g3, if_pos c_46, t_bad, if_neg (by rw [c_184]; decide), z_row_self]; done))⟩
set_option maxRecDepth 20000 in
set_option maxHeartbeats 4000000 in
theorem m_cmd_4 (hl : l.stackTraces = false) (hK : ShM E G d) (hR : WF (I (d + 3))) (f : Nat) (hf : f < 10000) : z_CI E l mX5_command 5 [.ref d, .int (nI 4), .int (nI f)] G I sz (fun y9 I' => y9 = z_b (q_gb (I (d + 3)) 4 f) ∧ I' = z_row I (d + 3) (q_g (I (d + 3)) 4 f)) := by
  obtain ⟨k0, kT, kN, kR, kD, kP, kF⟩ := id hK
  have h6 := hR.1.1
  refine z_Ct.of hl pn_X5 [some (.ref d), some (.int (nI 4)), some (.int (nI f)), none, none, none, none, none, none, none] rfl (Nat.le_of_ble_eq_true rfl) ?_
  refine v_iload_n (pc' := 1) dX5_command_0 rfl rfl ?_
  refine v_sipush (pc' := 4) dX5_command_1 ks_1000 rfl ?_
  refine v_idiv (pc' := 5) dX5_command_4 (by decide) rfl ?_
  rw [show nI (f) / (1000 : Int32) = nI ((f) / 1000) from pk_div (d := 1000) (by omega) (by omega) (by omega)]
  refine v_istore_n3 (pc' := 6) dX5_command_5 (by decide) rfl rfl ?_
  refine v_iload_n (pc' := 7) dX5_command_6 rfl rfl ?_
  refine v_bipush (pc' := 9) dX5_command_7 kb_100 rfl ?_
  refine v_idiv (pc' := 10) dX5_command_9 (by decide) rfl ?_
  rw [show nI (f) / (100 : Int32) = nI ((f) / 100) from pk_div (d := 100) (by omega) (by omega) (by omega)]
  refine v_istore4 (pc' := 12) dX5_command_10 (by decide) rfl rfl ?_
  refine v_iload_n (pc' := 13) dX5_command_12 rfl rfl ?_
  refine v_bipush (pc' := 15) dX5_command_13 kb_10 rfl ?_
  refine v_idiv (pc' := 16) dX5_command_15 (by decide) rfl ?_
  rw [show nI (f) / (10 : Int32) = nI ((f) / 10) from pk_div (d := 10) (by omega) (by omega) (by omega)]
  refine v_bipush (pc' := 18) dX5_command_16 kb_100 rfl ?_
  refine v_irem (pc' := 19) dX5_command_18 (by decide) rfl ?_
  rw [show nI (f / 10) - nI (f / 10) / (100 : Int32) * 100 = nI ((f / 10) % 100) from pk_rem (d := 100) (by omega) (by omega) (by omega)]
  refine v_istore5 (pc' := 21) dX5_command_19 (by decide) rfl rfl ?_
  refine v_iload_n (pc' := 22) dX5_command_21 rfl rfl ?_
  refine v_sipush (pc' := 25) dX5_command_22 ks_1000 rfl ?_
  refine v_irem (pc' := 26) dX5_command_25 (by decide) rfl ?_
  rw [show nI (f) - nI (f) / (1000 : Int32) * 1000 = nI ((f) % 1000) from pk_rem (d := 1000) (by omega) (by omega) (by omega)]
  refine v_istore6 (pc' := 28) dX5_command_26 (by decide) rfl rfl ?_
  refine v_iload_n (pc' := 29) dX5_command_28 rfl rfl ?_
  refine v_bipush (pc' := 31) dX5_command_29 kb_10 rfl ?_
  refine v_irem (pc' := 32) dX5_command_31 (by decide) rfl ?_
  rw [show nI (f) - nI (f) / (10 : Int32) * 10 = nI ((f) % 10) from pk_rem (d := 10) (by omega) (by omega) (by omega)]
  refine v_if_ne (tgt := 39) (pc' := 35) dX5_command_32 (by decide) rfl (fun c_32 => ?_) (fun c_32 => ?_)
  · rw [nI_is0 (by omega)] at c_32
    refine v_iconst (pc' := 40) dX5_command_39 kc_0 rfl ?_
    refine v_istore7 (pc' := 42) dX5_command_40 (by decide) rfl rfl ?_
    refine v_iload_n (pc' := 43) dX5_command_42 rfl rfl ?_
    refine v_bipush (pc' := 45) dX5_command_43 kb_100 rfl ?_
    refine v_irem (pc' := 46) dX5_command_45 (by decide) rfl ?_
    rw [show nI (f) - nI (f) / (100 : Int32) * 100 = nI ((f) % 100) from pk_rem (d := 100) (by omega) (by omega) (by omega)]
    refine v_if_ne (tgt := 53) (pc' := 49) dX5_command_46 (by decide) rfl (fun c_46 => ?_) (fun c_46 => ?_)
    · rw [nI_is0 (by omega)] at c_46
      refine v_iconst (pc' := 54) dX5_command_53 kc_0 rfl ?_
      refine v_istore8 (pc' := 56) dX5_command_54 (by decide) rfl rfl ?_
      refine v_iload_n (pc' := 57) dX5_command_56 rfl rfl ?_
      refine v_tableIn (tgt := 206) 3 dX5_command_57 (by rw [nI_toInt (by omega)]; omega) (by decide) rfl (by decide) ?_
      refine v_iload (pc' := 208) dX5_command_206 rfl rfl ?_
      refine v_if_eq (tgt := 235) (pc' := 211) dX5_command_208 (by decide) rfl (fun c_208 => ?_) (fun c_208 => ?_)
      · refine v_iconst (pc' := 236) dX5_command_235 kc_0 rfl ?_
        exact v_zret dX5_command_236 rfl (Nat.le_refl _) (Nat.le_refl _) rfl ⟨_, rfl, rfl, rfl, (by first | exact absurd c_208 (by decide) | exact absurd rfl c_208 | (rw [q_b4, decide_eq_false c_46]; rfl) | (rw [q_b4, decide_eq_true c_46, c_216]; rfl)), (by first | exact absurd c_208 (by decide) | exact absurd rfl c_208 | (rw [q_g4, if_pos c_46, t_mend, if_pos c_216, nI_clamp (by omega)]; done) | (rw [q_g4, if_neg c_46, z_row_self]; done) | (rw [q_g4, if_pos c_46, t_mend, if_neg (by rw [c_216]; decide), z_row_self]; done))⟩
      · refine v_iload (pc' := 213) dX5_command_211 rfl rfl ?_
        refine v_cSR (pc' := 216) (c5_isStripe hl (nI (f / 100))) dX5_command_213 lk_X5_65 mwX5_isStripe msX5_isStripe rfl rfl (by decide) (Nat.le_of_ble_eq_true rfl) rfl ?_
        refine v_if_eq (tgt := 235) (pc' := 219) dX5_command_216 (by decide) rfl (fun c_216 => ?_) (fun c_216 => ?_)
        · first | rw [z_b_ne0] at c_216 | rw [z_b_eq0] at c_216
          refine v_iconst (pc' := 236) dX5_command_235 kc_0 rfl ?_
          exact v_zret dX5_command_236 rfl (Nat.le_refl _) (Nat.le_refl _) rfl ⟨_, rfl, rfl, rfl, (by first | exact absurd c_208 (by decide) | exact absurd rfl c_208 | (rw [q_b4, decide_eq_false c_46]; rfl) | (rw [q_b4, decide_eq_true c_46, c_216]; rfl)), (by first | exact absurd c_208 (by decide) | exact absurd rfl c_208 | (rw [q_g4, if_pos c_46, t_mend, if_pos c_216, nI_clamp (by omega)]; done) | (rw [q_g4, if_neg c_46, z_row_self]; done) | (rw [q_g4, if_pos c_46, t_mend, if_neg (by rw [c_216]; decide), z_row_self]; done))⟩
        · first | rw [z_b_ne0] at c_216 | rw [z_b_eq0] at c_216
          obtain ⟨u9, hu9, e9⟩ := p_isStripe_nI c_216
          have e9 := (nI_eq (by omega) (by omega)).mp e9
          have hh := hR.2.2.2.1 (f / 100) (by omega)
          refine v_aload_n (pc' := 220) dX5_command_219 rfl rfl ?_
          refine g_X5_16 (pc' := 223) rfl dX5_command_220 (by assumption) rfl ?_
          refine v_iload (pc' := 225) dX5_command_223 rfl rfl ?_
          refine v_cSI (pc' := 228) (c5_mendOn hl kR (f / 100) (by omega) rfl) dX5_command_225 lk_X5_129 mwX5_mendOn msX5_mendOn rfl rfl (by decide) (Nat.le_of_ble_eq_true rfl) rfl ?_
          rintro _ _ ⟨rfl, rfl⟩
          refine v_if_lt (tgt := 235) (pc' := 231) dX5_command_228 (by decide) rfl (fun c_228 => ?_) (fun c_228 => ?_)
          · have : False := by
              rcases hh with q | q <;> (rw [q] at c_228; exact absurd c_228 (by decide))
            exact this.elim
          · refine v_iconst (pc' := 232) dX5_command_231 kc_1 rfl ?_
            refine v_goto (tgt := 236) dX5_command_232 (by decide) ?_
            exact v_zret dX5_command_236 rfl (Nat.le_refl _) (Nat.le_refl _) rfl ⟨_, rfl, rfl, rfl, (by first | exact absurd c_208 (by decide) | exact absurd rfl c_208 | (rw [q_b4, decide_eq_false c_46]; rfl) | (rw [q_b4, decide_eq_true c_46, c_216]; rfl)), (by first | exact absurd c_208 (by decide) | exact absurd rfl c_208 | (rw [q_g4, if_pos c_46, t_mend, if_pos c_216, nI_clamp (by omega)]; done) | (rw [q_g4, if_neg c_46, z_row_self]; done) | (rw [q_g4, if_pos c_46, t_mend, if_neg (by rw [c_216]; decide), z_row_self]; done))⟩
    · rw [nI_is0 (by omega)] at c_46
      refine v_iconst (pc' := 50) dX5_command_49 kc_1 rfl ?_
      refine v_goto (tgt := 54) dX5_command_50 (by decide) ?_
      refine v_istore8 (pc' := 56) dX5_command_54 (by decide) rfl rfl ?_
      refine v_iload_n (pc' := 57) dX5_command_56 rfl rfl ?_
      refine v_tableIn (tgt := 206) 3 dX5_command_57 (by rw [nI_toInt (by omega)]; omega) (by decide) rfl (by decide) ?_
      refine v_iload (pc' := 208) dX5_command_206 rfl rfl ?_
      refine v_if_eq (tgt := 235) (pc' := 211) dX5_command_208 (by decide) rfl (fun c_208 => ?_) (fun c_208 => ?_)
      · refine v_iconst (pc' := 236) dX5_command_235 kc_0 rfl ?_
        exact v_zret dX5_command_236 rfl (Nat.le_refl _) (Nat.le_refl _) rfl ⟨_, rfl, rfl, rfl, (by first | exact absurd c_208 (by decide) | exact absurd rfl c_208 | (rw [q_b4, decide_eq_false c_46]; rfl) | (rw [q_b4, decide_eq_true c_46, c_216]; rfl)), (by first | exact absurd c_208 (by decide) | exact absurd rfl c_208 | (rw [q_g4, if_pos c_46, t_mend, if_pos c_216, nI_clamp (by omega)]; done) | (rw [q_g4, if_neg c_46, z_row_self]; done) | (rw [q_g4, if_pos c_46, t_mend, if_neg (by rw [c_216]; decide), z_row_self]; done))⟩
      · refine v_iload (pc' := 213) dX5_command_211 rfl rfl ?_
        refine v_cSR (pc' := 216) (c5_isStripe hl (nI (f / 100))) dX5_command_213 lk_X5_65 mwX5_isStripe msX5_isStripe rfl rfl (by decide) (Nat.le_of_ble_eq_true rfl) rfl ?_
        refine v_if_eq (tgt := 235) (pc' := 219) dX5_command_216 (by decide) rfl (fun c_216 => ?_) (fun c_216 => ?_)
        · first | rw [z_b_ne0] at c_216 | rw [z_b_eq0] at c_216
          refine v_iconst (pc' := 236) dX5_command_235 kc_0 rfl ?_
          exact v_zret dX5_command_236 rfl (Nat.le_refl _) (Nat.le_refl _) rfl ⟨_, rfl, rfl, rfl, (by first | exact absurd c_208 (by decide) | exact absurd rfl c_208 | (rw [q_b4, decide_eq_false c_46]; rfl) | (rw [q_b4, decide_eq_true c_46, c_216]; rfl)), (by first | exact absurd c_208 (by decide) | exact absurd rfl c_208 | (rw [q_g4, if_pos c_46, t_mend, if_pos c_216, nI_clamp (by omega)]; done) | (rw [q_g4, if_neg c_46, z_row_self]; done) | (rw [q_g4, if_pos c_46, t_mend, if_neg (by rw [c_216]; decide), z_row_self]; done))⟩
        · first | rw [z_b_ne0] at c_216 | rw [z_b_eq0] at c_216
          obtain ⟨u9, hu9, e9⟩ := p_isStripe_nI c_216
          have e9 := (nI_eq (by omega) (by omega)).mp e9
          have hh := hR.2.2.2.1 (f / 100) (by omega)
          refine v_aload_n (pc' := 220) dX5_command_219 rfl rfl ?_
          refine g_X5_16 (pc' := 223) rfl dX5_command_220 (by assumption) rfl ?_
          refine v_iload (pc' := 225) dX5_command_223 rfl rfl ?_
          refine v_cSI (pc' := 228) (c5_mendOn hl kR (f / 100) (by omega) rfl) dX5_command_225 lk_X5_129 mwX5_mendOn msX5_mendOn rfl rfl (by decide) (Nat.le_of_ble_eq_true rfl) rfl ?_
          rintro _ _ ⟨rfl, rfl⟩
          refine v_if_lt (tgt := 235) (pc' := 231) dX5_command_228 (by decide) rfl (fun c_228 => ?_) (fun c_228 => ?_)
          · have : False := by
              rcases hh with q | q <;> (rw [q] at c_228; exact absurd c_228 (by decide))
            exact this.elim
          · refine v_iconst (pc' := 232) dX5_command_231 kc_1 rfl ?_
            refine v_goto (tgt := 236) dX5_command_232 (by decide) ?_
            exact v_zret dX5_command_236 rfl (Nat.le_refl _) (Nat.le_refl _) rfl ⟨_, rfl, rfl, rfl, (by first | exact absurd c_208 (by decide) | exact absurd rfl c_208 | (rw [q_b4, decide_eq_false c_46]; rfl) | (rw [q_b4, decide_eq_true c_46, c_216]; rfl)), (by first | exact absurd c_208 (by decide) | exact absurd rfl c_208 | (rw [q_g4, if_pos c_46, t_mend, if_pos c_216, nI_clamp (by omega)]; done) | (rw [q_g4, if_neg c_46, z_row_self]; done) | (rw [q_g4, if_pos c_46, t_mend, if_neg (by rw [c_216]; decide), z_row_self]; done))⟩
  · rw [nI_is0 (by omega)] at c_32
    refine v_iconst (pc' := 36) dX5_command_35 kc_1 rfl ?_
    refine v_goto (tgt := 40) dX5_command_36 (by decide) ?_
    refine v_istore7 (pc' := 42) dX5_command_40 (by decide) rfl rfl ?_
    refine v_iload_n (pc' := 43) dX5_command_42 rfl rfl ?_
    refine v_bipush (pc' := 45) dX5_command_43 kb_100 rfl ?_
    refine v_irem (pc' := 46) dX5_command_45 (by decide) rfl ?_
    rw [show nI (f) - nI (f) / (100 : Int32) * 100 = nI ((f) % 100) from pk_rem (d := 100) (by omega) (by omega) (by omega)]
    refine v_if_ne (tgt := 53) (pc' := 49) dX5_command_46 (by decide) rfl (fun c_46 => ?_) (fun c_46 => ?_)
    · rw [nI_is0 (by omega)] at c_46
      refine v_iconst (pc' := 54) dX5_command_53 kc_0 rfl ?_
      refine v_istore8 (pc' := 56) dX5_command_54 (by decide) rfl rfl ?_
      refine v_iload_n (pc' := 57) dX5_command_56 rfl rfl ?_
      refine v_tableIn (tgt := 206) 3 dX5_command_57 (by rw [nI_toInt (by omega)]; omega) (by decide) rfl (by decide) ?_
      refine v_iload (pc' := 208) dX5_command_206 rfl rfl ?_
      refine v_if_eq (tgt := 235) (pc' := 211) dX5_command_208 (by decide) rfl (fun c_208 => ?_) (fun c_208 => ?_)
      · refine v_iconst (pc' := 236) dX5_command_235 kc_0 rfl ?_
        exact v_zret dX5_command_236 rfl (Nat.le_refl _) (Nat.le_refl _) rfl ⟨_, rfl, rfl, rfl, (by first | exact absurd c_208 (by decide) | exact absurd rfl c_208 | (rw [q_b4, decide_eq_false c_46]; rfl) | (rw [q_b4, decide_eq_true c_46, c_216]; rfl)), (by first | exact absurd c_208 (by decide) | exact absurd rfl c_208 | (rw [q_g4, if_pos c_46, t_mend, if_pos c_216, nI_clamp (by omega)]; done) | (rw [q_g4, if_neg c_46, z_row_self]; done) | (rw [q_g4, if_pos c_46, t_mend, if_neg (by rw [c_216]; decide), z_row_self]; done))⟩
      · refine v_iload (pc' := 213) dX5_command_211 rfl rfl ?_
        refine v_cSR (pc' := 216) (c5_isStripe hl (nI (f / 100))) dX5_command_213 lk_X5_65 mwX5_isStripe msX5_isStripe rfl rfl (by decide) (Nat.le_of_ble_eq_true rfl) rfl ?_
        refine v_if_eq (tgt := 235) (pc' := 219) dX5_command_216 (by decide) rfl (fun c_216 => ?_) (fun c_216 => ?_)
        · first | rw [z_b_ne0] at c_216 | rw [z_b_eq0] at c_216
          refine v_iconst (pc' := 236) dX5_command_235 kc_0 rfl ?_
          exact v_zret dX5_command_236 rfl (Nat.le_refl _) (Nat.le_refl _) rfl ⟨_, rfl, rfl, rfl, (by first | exact absurd c_208 (by decide) | exact absurd rfl c_208 | (rw [q_b4, decide_eq_false c_46]; rfl) | (rw [q_b4, decide_eq_true c_46, c_216]; rfl)), (by first | exact absurd c_208 (by decide) | exact absurd rfl c_208 | (rw [q_g4, if_pos c_46, t_mend, if_pos c_216, nI_clamp (by omega)]; done) | (rw [q_g4, if_neg c_46, z_row_self]; done) | (rw [q_g4, if_pos c_46, t_mend, if_neg (by rw [c_216]; decide), z_row_self]; done))⟩
        · first | rw [z_b_ne0] at c_216 | rw [z_b_eq0] at c_216
          obtain ⟨u9, hu9, e9⟩ := p_isStripe_nI c_216
          have e9 := (nI_eq (by omega) (by omega)).mp e9
          have hh := hR.2.2.2.1 (f / 100) (by omega)
          refine v_aload_n (pc' := 220) dX5_command_219 rfl rfl ?_
          refine g_X5_16 (pc' := 223) rfl dX5_command_220 (by assumption) rfl ?_
          refine v_iload (pc' := 225) dX5_command_223 rfl rfl ?_
          refine v_cSI (pc' := 228) (c5_mendOn hl kR (f / 100) (by omega) rfl) dX5_command_225 lk_X5_129 mwX5_mendOn msX5_mendOn rfl rfl (by decide) (Nat.le_of_ble_eq_true rfl) rfl ?_
          rintro _ _ ⟨rfl, rfl⟩
          refine v_if_lt (tgt := 235) (pc' := 231) dX5_command_228 (by decide) rfl (fun c_228 => ?_) (fun c_228 => ?_)
          · have : False := by
              rcases hh with q | q <;> (rw [q] at c_228; exact absurd c_228 (by decide))
            exact this.elim
          · refine v_iconst (pc' := 232) dX5_command_231 kc_1 rfl ?_
            refine v_goto (tgt := 236) dX5_command_232 (by decide) ?_
            exact v_zret dX5_command_236 rfl (Nat.le_refl _) (Nat.le_refl _) rfl ⟨_, rfl, rfl, rfl, (by first | exact absurd c_208 (by decide) | exact absurd rfl c_208 | (rw [q_b4, decide_eq_false c_46]; rfl) | (rw [q_b4, decide_eq_true c_46, c_216]; rfl)), (by first | exact absurd c_208 (by decide) | exact absurd rfl c_208 | (rw [q_g4, if_pos c_46, t_mend, if_pos c_216, nI_clamp (by omega)]; done) | (rw [q_g4, if_neg c_46, z_row_self]; done) | (rw [q_g4, if_pos c_46, t_mend, if_neg (by rw [c_216]; decide), z_row_self]; done))⟩
    · rw [nI_is0 (by omega)] at c_46
      refine v_iconst (pc' := 50) dX5_command_49 kc_1 rfl ?_
      refine v_goto (tgt := 54) dX5_command_50 (by decide) ?_
      refine v_istore8 (pc' := 56) dX5_command_54 (by decide) rfl rfl ?_
      refine v_iload_n (pc' := 57) dX5_command_56 rfl rfl ?_
      refine v_tableIn (tgt := 206) 3 dX5_command_57 (by rw [nI_toInt (by omega)]; omega) (by decide) rfl (by decide) ?_
      refine v_iload (pc' := 208) dX5_command_206 rfl rfl ?_
      refine v_if_eq (tgt := 235) (pc' := 211) dX5_command_208 (by decide) rfl (fun c_208 => ?_) (fun c_208 => ?_)
      · refine v_iconst (pc' := 236) dX5_command_235 kc_0 rfl ?_
        exact v_zret dX5_command_236 rfl (Nat.le_refl _) (Nat.le_refl _) rfl ⟨_, rfl, rfl, rfl, (by first | exact absurd c_208 (by decide) | exact absurd rfl c_208 | (rw [q_b4, decide_eq_false c_46]; rfl) | (rw [q_b4, decide_eq_true c_46, c_216]; rfl)), (by first | exact absurd c_208 (by decide) | exact absurd rfl c_208 | (rw [q_g4, if_pos c_46, t_mend, if_pos c_216, nI_clamp (by omega)]; done) | (rw [q_g4, if_neg c_46, z_row_self]; done) | (rw [q_g4, if_pos c_46, t_mend, if_neg (by rw [c_216]; decide), z_row_self]; done))⟩
      · refine v_iload (pc' := 213) dX5_command_211 rfl rfl ?_
        refine v_cSR (pc' := 216) (c5_isStripe hl (nI (f / 100))) dX5_command_213 lk_X5_65 mwX5_isStripe msX5_isStripe rfl rfl (by decide) (Nat.le_of_ble_eq_true rfl) rfl ?_
        refine v_if_eq (tgt := 235) (pc' := 219) dX5_command_216 (by decide) rfl (fun c_216 => ?_) (fun c_216 => ?_)
        · first | rw [z_b_ne0] at c_216 | rw [z_b_eq0] at c_216
          refine v_iconst (pc' := 236) dX5_command_235 kc_0 rfl ?_
          exact v_zret dX5_command_236 rfl (Nat.le_refl _) (Nat.le_refl _) rfl ⟨_, rfl, rfl, rfl, (by first | exact absurd c_208 (by decide) | exact absurd rfl c_208 | (rw [q_b4, decide_eq_false c_46]; rfl) | (rw [q_b4, decide_eq_true c_46, c_216]; rfl)), (by first | exact absurd c_208 (by decide) | exact absurd rfl c_208 | (rw [q_g4, if_pos c_46, t_mend, if_pos c_216, nI_clamp (by omega)]; done) | (rw [q_g4, if_neg c_46, z_row_self]; done) | (rw [q_g4, if_pos c_46, t_mend, if_neg (by rw [c_216]; decide), z_row_self]; done))⟩
        · first | rw [z_b_ne0] at c_216 | rw [z_b_eq0] at c_216
          obtain ⟨u9, hu9, e9⟩ := p_isStripe_nI c_216
          have e9 := (nI_eq (by omega) (by omega)).mp e9
          have hh := hR.2.2.2.1 (f / 100) (by omega)
          refine v_aload_n (pc' := 220) dX5_command_219 rfl rfl ?_
          refine g_X5_16 (pc' := 223) rfl dX5_command_220 (by assumption) rfl ?_
          refine v_iload (pc' := 225) dX5_command_223 rfl rfl ?_
          refine v_cSI (pc' := 228) (c5_mendOn hl kR (f / 100) (by omega) rfl) dX5_command_225 lk_X5_129 mwX5_mendOn msX5_mendOn rfl rfl (by decide) (Nat.le_of_ble_eq_true rfl) rfl ?_
          rintro _ _ ⟨rfl, rfl⟩
          refine v_if_lt (tgt := 235) (pc' := 231) dX5_command_228 (by decide) rfl (fun c_228 => ?_) (fun c_228 => ?_)
          · have : False := by
              rcases hh with q | q <;> (rw [q] at c_228; exact absurd c_228 (by decide))
            exact this.elim
          · refine v_iconst (pc' := 232) dX5_command_231 kc_1 rfl ?_
            refine v_goto (tgt := 236) dX5_command_232 (by decide) ?_
            exact v_zret dX5_command_236 rfl (Nat.le_refl _) (Nat.le_refl _) rfl ⟨_, rfl, rfl, rfl, (by first | exact absurd c_208 (by decide) | exact absurd rfl c_208 | (rw [q_b4, decide_eq_false c_46]; rfl) | (rw [q_b4, decide_eq_true c_46, c_216]; rfl)), (by first | exact absurd c_208 (by decide) | exact absurd rfl c_208 | (rw [q_g4, if_pos c_46, t_mend, if_pos c_216, nI_clamp (by omega)]; done) | (rw [q_g4, if_neg c_46, z_row_self]; done) | (rw [q_g4, if_pos c_46, t_mend, if_neg (by rw [c_216]; decide), z_row_self]; done))⟩
set_option maxRecDepth 20000 in
set_option maxHeartbeats 4000000 in
theorem m_cmd_5 (hl : l.stackTraces = false) (hK : ShM E G d) (hR : WF (I (d + 3))) (f : Nat) (hf : f < 10000) : z_CI E l mX5_command 5 [.ref d, .int (nI 5), .int (nI f)] G I sz (fun y9 I' => y9 = z_b (q_gb (I (d + 3)) 5 f) ∧ I' = z_row I (d + 3) (q_g (I (d + 3)) 5 f)) := by
  obtain ⟨k0, kT, kN, kR, kD, kP, kF⟩ := id hK
  have h6 := hR.1.1
  refine z_Ct.of hl pn_X5 [some (.ref d), some (.int (nI 5)), some (.int (nI f)), none, none, none, none, none, none, none] rfl (Nat.le_of_ble_eq_true rfl) ?_
  refine v_iload_n (pc' := 1) dX5_command_0 rfl rfl ?_
  refine v_sipush (pc' := 4) dX5_command_1 ks_1000 rfl ?_
  refine v_idiv (pc' := 5) dX5_command_4 (by decide) rfl ?_
  rw [show nI (f) / (1000 : Int32) = nI ((f) / 1000) from pk_div (d := 1000) (by omega) (by omega) (by omega)]
  refine v_istore_n3 (pc' := 6) dX5_command_5 (by decide) rfl rfl ?_
  refine v_iload_n (pc' := 7) dX5_command_6 rfl rfl ?_
  refine v_bipush (pc' := 9) dX5_command_7 kb_100 rfl ?_
  refine v_idiv (pc' := 10) dX5_command_9 (by decide) rfl ?_
  rw [show nI (f) / (100 : Int32) = nI ((f) / 100) from pk_div (d := 100) (by omega) (by omega) (by omega)]
  refine v_istore4 (pc' := 12) dX5_command_10 (by decide) rfl rfl ?_
  refine v_iload_n (pc' := 13) dX5_command_12 rfl rfl ?_
  refine v_bipush (pc' := 15) dX5_command_13 kb_10 rfl ?_
  refine v_idiv (pc' := 16) dX5_command_15 (by decide) rfl ?_
  rw [show nI (f) / (10 : Int32) = nI ((f) / 10) from pk_div (d := 10) (by omega) (by omega) (by omega)]
  refine v_bipush (pc' := 18) dX5_command_16 kb_100 rfl ?_
  refine v_irem (pc' := 19) dX5_command_18 (by decide) rfl ?_
  rw [show nI (f / 10) - nI (f / 10) / (100 : Int32) * 100 = nI ((f / 10) % 100) from pk_rem (d := 100) (by omega) (by omega) (by omega)]
  refine v_istore5 (pc' := 21) dX5_command_19 (by decide) rfl rfl ?_
  refine v_iload_n (pc' := 22) dX5_command_21 rfl rfl ?_
  refine v_sipush (pc' := 25) dX5_command_22 ks_1000 rfl ?_
  refine v_irem (pc' := 26) dX5_command_25 (by decide) rfl ?_
  rw [show nI (f) - nI (f) / (1000 : Int32) * 1000 = nI ((f) % 1000) from pk_rem (d := 1000) (by omega) (by omega) (by omega)]
  refine v_istore6 (pc' := 28) dX5_command_26 (by decide) rfl rfl ?_
  refine v_iload_n (pc' := 29) dX5_command_28 rfl rfl ?_
  refine v_bipush (pc' := 31) dX5_command_29 kb_10 rfl ?_
  refine v_irem (pc' := 32) dX5_command_31 (by decide) rfl ?_
  rw [show nI (f) - nI (f) / (10 : Int32) * 10 = nI ((f) % 10) from pk_rem (d := 10) (by omega) (by omega) (by omega)]
  refine v_if_ne (tgt := 39) (pc' := 35) dX5_command_32 (by decide) rfl (fun c_32 => ?_) (fun c_32 => ?_)
  · rw [nI_is0 (by omega)] at c_32
    refine v_iconst (pc' := 40) dX5_command_39 kc_0 rfl ?_
    refine v_istore7 (pc' := 42) dX5_command_40 (by decide) rfl rfl ?_
    refine v_iload_n (pc' := 43) dX5_command_42 rfl rfl ?_
    refine v_bipush (pc' := 45) dX5_command_43 kb_100 rfl ?_
    refine v_irem (pc' := 46) dX5_command_45 (by decide) rfl ?_
    rw [show nI (f) - nI (f) / (100 : Int32) * 100 = nI ((f) % 100) from pk_rem (d := 100) (by omega) (by omega) (by omega)]
    refine v_if_ne (tgt := 53) (pc' := 49) dX5_command_46 (by decide) rfl (fun c_46 => ?_) (fun c_46 => ?_)
    · rw [nI_is0 (by omega)] at c_46
      refine v_iconst (pc' := 54) dX5_command_53 kc_0 rfl ?_
      refine v_istore8 (pc' := 56) dX5_command_54 (by decide) rfl rfl ?_
      refine v_iload_n (pc' := 57) dX5_command_56 rfl rfl ?_
      refine v_tableIn (tgt := 237) 4 dX5_command_57 (by rw [nI_toInt (by omega)]; omega) (by decide) rfl (by decide) ?_
      refine v_iload (pc' := 239) dX5_command_237 rfl rfl ?_
      refine v_if_ne (tgt := 268) (pc' := 242) dX5_command_239 (by decide) rfl (fun c_239 => ?_) (fun c_239 => ?_)
      · rw [nI_is0 (by omega)] at c_239
        refine v_iconst (pc' := 269) dX5_command_268 kc_0 rfl ?_
        exact v_zret dX5_command_269 rfl (Nat.le_refl _) (Nat.le_refl _) rfl ⟨_, rfl, rfl, rfl, (by first | (rw [q_b5, decide_eq_false c_239]; rfl) | (rw [q_b5, decide_eq_true c_239, c_250]; rfl)), (by first | (rw [q_g5, if_pos c_239, t_stop, if_pos c_250, nI_clamp (by omega)]; done) | (rw [q_g5, if_neg c_239, z_row_self]; done) | (rw [q_g5, if_pos c_239, t_stop, if_neg (by rw [c_250]; decide), z_row_self]; done))⟩
      · rw [nI_is0 (by omega)] at c_239
        refine v_aload_n (pc' := 243) dX5_command_242 rfl rfl ?_
        refine g_X5_16 (pc' := 246) rfl dX5_command_243 (by assumption) rfl ?_
        refine v_iload_n (pc' := 247) dX5_command_246 rfl rfl ?_
        refine v_cSR (pc' := 250) (c5_canStop hl kR hR (nI (f / 1000))) dX5_command_247 lk_X5_132 mwX5_canStop msX5_canStop rfl rfl (by decide) (Nat.le_of_ble_eq_true rfl) rfl ?_
        refine v_if_eq (tgt := 268) (pc' := 253) dX5_command_250 (by decide) rfl (fun c_250 => ?_) (fun c_250 => ?_)
        · first | rw [z_b_ne0] at c_250 | rw [z_b_eq0] at c_250
          refine v_iconst (pc' := 269) dX5_command_268 kc_0 rfl ?_
          exact v_zret dX5_command_269 rfl (Nat.le_refl _) (Nat.le_refl _) rfl ⟨_, rfl, rfl, rfl, (by first | (rw [q_b5, decide_eq_false c_239]; rfl) | (rw [q_b5, decide_eq_true c_239, c_250]; rfl)), (by first | (rw [q_g5, if_pos c_239, t_stop, if_pos c_250, nI_clamp (by omega)]; done) | (rw [q_g5, if_neg c_239, z_row_self]; done) | (rw [q_g5, if_pos c_239, t_stop, if_neg (by rw [c_250]; decide), z_row_self]; done))⟩
        · first | rw [z_b_ne0] at c_250 | rw [z_b_eq0] at c_250
          obtain ⟨u9, hu9, hu6, e9, -, -⟩ := p_cans_nI hR c_250
          have e9 := (nI_eq (by omega) (by omega)).mp e9
          have hh := (hR.2.1 u9 hu9).2.1
          rw [← e9] at hh
          refine v_aload_n (pc' := 254) dX5_command_253 rfl rfl ?_
          refine g_X5_16 (pc' := 257) rfl dX5_command_254 (by assumption) rfl ?_
          refine v_iload_n (pc' := 258) dX5_command_257 rfl rfl ?_
          refine v_cSI (pc' := 261) (c5_stopOn hl kR (f / 1000) (by omega) rfl) dX5_command_258 lk_X5_135 mwX5_stopOn msX5_stopOn rfl rfl (by decide) (Nat.le_of_ble_eq_true rfl) rfl ?_
          rintro _ _ ⟨rfl, rfl⟩
          refine v_if_lt (tgt := 268) (pc' := 264) dX5_command_261 (by decide) rfl (fun c_261 => ?_) (fun c_261 => ?_)
          · have : False := by
              rw [Int32.lt_iff_toInt_lt, i_0] at c_261
              unfold tI at hh
              omega
            exact this.elim
          · refine v_iconst (pc' := 265) dX5_command_264 kc_1 rfl ?_
            refine v_goto (tgt := 269) dX5_command_265 (by decide) ?_
            exact v_zret dX5_command_269 rfl (Nat.le_refl _) (Nat.le_refl _) rfl ⟨_, rfl, rfl, rfl, (by first | (rw [q_b5, decide_eq_false c_239]; rfl) | (rw [q_b5, decide_eq_true c_239, c_250]; rfl)), (by first | (rw [q_g5, if_pos c_239, t_stop, if_pos c_250, nI_clamp (by omega)]; done) | (rw [q_g5, if_neg c_239, z_row_self]; done) | (rw [q_g5, if_pos c_239, t_stop, if_neg (by rw [c_250]; decide), z_row_self]; done))⟩
    · rw [nI_is0 (by omega)] at c_46
      refine v_iconst (pc' := 50) dX5_command_49 kc_1 rfl ?_
      refine v_goto (tgt := 54) dX5_command_50 (by decide) ?_
      refine v_istore8 (pc' := 56) dX5_command_54 (by decide) rfl rfl ?_
      refine v_iload_n (pc' := 57) dX5_command_56 rfl rfl ?_
      refine v_tableIn (tgt := 237) 4 dX5_command_57 (by rw [nI_toInt (by omega)]; omega) (by decide) rfl (by decide) ?_
      refine v_iload (pc' := 239) dX5_command_237 rfl rfl ?_
      refine v_if_ne (tgt := 268) (pc' := 242) dX5_command_239 (by decide) rfl (fun c_239 => ?_) (fun c_239 => ?_)
      · rw [nI_is0 (by omega)] at c_239
        refine v_iconst (pc' := 269) dX5_command_268 kc_0 rfl ?_
        exact v_zret dX5_command_269 rfl (Nat.le_refl _) (Nat.le_refl _) rfl ⟨_, rfl, rfl, rfl, (by first | (rw [q_b5, decide_eq_false c_239]; rfl) | (rw [q_b5, decide_eq_true c_239, c_250]; rfl)), (by first | (rw [q_g5, if_pos c_239, t_stop, if_pos c_250, nI_clamp (by omega)]; done) | (rw [q_g5, if_neg c_239, z_row_self]; done) | (rw [q_g5, if_pos c_239, t_stop, if_neg (by rw [c_250]; decide), z_row_self]; done))⟩
      · rw [nI_is0 (by omega)] at c_239
        refine v_aload_n (pc' := 243) dX5_command_242 rfl rfl ?_
        refine g_X5_16 (pc' := 246) rfl dX5_command_243 (by assumption) rfl ?_
        refine v_iload_n (pc' := 247) dX5_command_246 rfl rfl ?_
        refine v_cSR (pc' := 250) (c5_canStop hl kR hR (nI (f / 1000))) dX5_command_247 lk_X5_132 mwX5_canStop msX5_canStop rfl rfl (by decide) (Nat.le_of_ble_eq_true rfl) rfl ?_
        refine v_if_eq (tgt := 268) (pc' := 253) dX5_command_250 (by decide) rfl (fun c_250 => ?_) (fun c_250 => ?_)
        · first | rw [z_b_ne0] at c_250 | rw [z_b_eq0] at c_250
          refine v_iconst (pc' := 269) dX5_command_268 kc_0 rfl ?_
          exact v_zret dX5_command_269 rfl (Nat.le_refl _) (Nat.le_refl _) rfl ⟨_, rfl, rfl, rfl, (by first | (rw [q_b5, decide_eq_false c_239]; rfl) | (rw [q_b5, decide_eq_true c_239, c_250]; rfl)), (by first | (rw [q_g5, if_pos c_239, t_stop, if_pos c_250, nI_clamp (by omega)]; done) | (rw [q_g5, if_neg c_239, z_row_self]; done) | (rw [q_g5, if_pos c_239, t_stop, if_neg (by rw [c_250]; decide), z_row_self]; done))⟩
        · first | rw [z_b_ne0] at c_250 | rw [z_b_eq0] at c_250
          obtain ⟨u9, hu9, hu6, e9, -, -⟩ := p_cans_nI hR c_250
          have e9 := (nI_eq (by omega) (by omega)).mp e9
          have hh := (hR.2.1 u9 hu9).2.1
          rw [← e9] at hh
          refine v_aload_n (pc' := 254) dX5_command_253 rfl rfl ?_
          refine g_X5_16 (pc' := 257) rfl dX5_command_254 (by assumption) rfl ?_
          refine v_iload_n (pc' := 258) dX5_command_257 rfl rfl ?_
          refine v_cSI (pc' := 261) (c5_stopOn hl kR (f / 1000) (by omega) rfl) dX5_command_258 lk_X5_135 mwX5_stopOn msX5_stopOn rfl rfl (by decide) (Nat.le_of_ble_eq_true rfl) rfl ?_
          rintro _ _ ⟨rfl, rfl⟩
          refine v_if_lt (tgt := 268) (pc' := 264) dX5_command_261 (by decide) rfl (fun c_261 => ?_) (fun c_261 => ?_)
          · have : False := by
              rw [Int32.lt_iff_toInt_lt, i_0] at c_261
              unfold tI at hh
              omega
            exact this.elim
          · refine v_iconst (pc' := 265) dX5_command_264 kc_1 rfl ?_
            refine v_goto (tgt := 269) dX5_command_265 (by decide) ?_
            exact v_zret dX5_command_269 rfl (Nat.le_refl _) (Nat.le_refl _) rfl ⟨_, rfl, rfl, rfl, (by first | (rw [q_b5, decide_eq_false c_239]; rfl) | (rw [q_b5, decide_eq_true c_239, c_250]; rfl)), (by first | (rw [q_g5, if_pos c_239, t_stop, if_pos c_250, nI_clamp (by omega)]; done) | (rw [q_g5, if_neg c_239, z_row_self]; done) | (rw [q_g5, if_pos c_239, t_stop, if_neg (by rw [c_250]; decide), z_row_self]; done))⟩
  · rw [nI_is0 (by omega)] at c_32
    refine v_iconst (pc' := 36) dX5_command_35 kc_1 rfl ?_
    refine v_goto (tgt := 40) dX5_command_36 (by decide) ?_
    refine v_istore7 (pc' := 42) dX5_command_40 (by decide) rfl rfl ?_
    refine v_iload_n (pc' := 43) dX5_command_42 rfl rfl ?_
    refine v_bipush (pc' := 45) dX5_command_43 kb_100 rfl ?_
    refine v_irem (pc' := 46) dX5_command_45 (by decide) rfl ?_
    rw [show nI (f) - nI (f) / (100 : Int32) * 100 = nI ((f) % 100) from pk_rem (d := 100) (by omega) (by omega) (by omega)]
    refine v_if_ne (tgt := 53) (pc' := 49) dX5_command_46 (by decide) rfl (fun c_46 => ?_) (fun c_46 => ?_)
    · rw [nI_is0 (by omega)] at c_46
      refine v_iconst (pc' := 54) dX5_command_53 kc_0 rfl ?_
      refine v_istore8 (pc' := 56) dX5_command_54 (by decide) rfl rfl ?_
      refine v_iload_n (pc' := 57) dX5_command_56 rfl rfl ?_
      refine v_tableIn (tgt := 237) 4 dX5_command_57 (by rw [nI_toInt (by omega)]; omega) (by decide) rfl (by decide) ?_
      refine v_iload (pc' := 239) dX5_command_237 rfl rfl ?_
      refine v_if_ne (tgt := 268) (pc' := 242) dX5_command_239 (by decide) rfl (fun c_239 => ?_) (fun c_239 => ?_)
      · rw [nI_is0 (by omega)] at c_239
        refine v_iconst (pc' := 269) dX5_command_268 kc_0 rfl ?_
        exact v_zret dX5_command_269 rfl (Nat.le_refl _) (Nat.le_refl _) rfl ⟨_, rfl, rfl, rfl, (by first | (rw [q_b5, decide_eq_false c_239]; rfl) | (rw [q_b5, decide_eq_true c_239, c_250]; rfl)), (by first | (rw [q_g5, if_pos c_239, t_stop, if_pos c_250, nI_clamp (by omega)]; done) | (rw [q_g5, if_neg c_239, z_row_self]; done) | (rw [q_g5, if_pos c_239, t_stop, if_neg (by rw [c_250]; decide), z_row_self]; done))⟩
      · rw [nI_is0 (by omega)] at c_239
        refine v_aload_n (pc' := 243) dX5_command_242 rfl rfl ?_
        refine g_X5_16 (pc' := 246) rfl dX5_command_243 (by assumption) rfl ?_
        refine v_iload_n (pc' := 247) dX5_command_246 rfl rfl ?_
        refine v_cSR (pc' := 250) (c5_canStop hl kR hR (nI (f / 1000))) dX5_command_247 lk_X5_132 mwX5_canStop msX5_canStop rfl rfl (by decide) (Nat.le_of_ble_eq_true rfl) rfl ?_
        refine v_if_eq (tgt := 268) (pc' := 253) dX5_command_250 (by decide) rfl (fun c_250 => ?_) (fun c_250 => ?_)
        · first | rw [z_b_ne0] at c_250 | rw [z_b_eq0] at c_250
          refine v_iconst (pc' := 269) dX5_command_268 kc_0 rfl ?_
          exact v_zret dX5_command_269 rfl (Nat.le_refl _) (Nat.le_refl _) rfl ⟨_, rfl, rfl, rfl, (by first | (rw [q_b5, decide_eq_false c_239]; rfl) | (rw [q_b5, decide_eq_true c_239, c_250]; rfl)), (by first | (rw [q_g5, if_pos c_239, t_stop, if_pos c_250, nI_clamp (by omega)]; done) | (rw [q_g5, if_neg c_239, z_row_self]; done) | (rw [q_g5, if_pos c_239, t_stop, if_neg (by rw [c_250]; decide), z_row_self]; done))⟩
        · first | rw [z_b_ne0] at c_250 | rw [z_b_eq0] at c_250
          obtain ⟨u9, hu9, hu6, e9, -, -⟩ := p_cans_nI hR c_250
          have e9 := (nI_eq (by omega) (by omega)).mp e9
          have hh := (hR.2.1 u9 hu9).2.1
          rw [← e9] at hh
          refine v_aload_n (pc' := 254) dX5_command_253 rfl rfl ?_
          refine g_X5_16 (pc' := 257) rfl dX5_command_254 (by assumption) rfl ?_
          refine v_iload_n (pc' := 258) dX5_command_257 rfl rfl ?_
          refine v_cSI (pc' := 261) (c5_stopOn hl kR (f / 1000) (by omega) rfl) dX5_command_258 lk_X5_135 mwX5_stopOn msX5_stopOn rfl rfl (by decide) (Nat.le_of_ble_eq_true rfl) rfl ?_
          rintro _ _ ⟨rfl, rfl⟩
          refine v_if_lt (tgt := 268) (pc' := 264) dX5_command_261 (by decide) rfl (fun c_261 => ?_) (fun c_261 => ?_)
          · have : False := by
              rw [Int32.lt_iff_toInt_lt, i_0] at c_261
              unfold tI at hh
              omega
            exact this.elim
          · refine v_iconst (pc' := 265) dX5_command_264 kc_1 rfl ?_
            refine v_goto (tgt := 269) dX5_command_265 (by decide) ?_
            exact v_zret dX5_command_269 rfl (Nat.le_refl _) (Nat.le_refl _) rfl ⟨_, rfl, rfl, rfl, (by first | (rw [q_b5, decide_eq_false c_239]; rfl) | (rw [q_b5, decide_eq_true c_239, c_250]; rfl)), (by first | (rw [q_g5, if_pos c_239, t_stop, if_pos c_250, nI_clamp (by omega)]; done) | (rw [q_g5, if_neg c_239, z_row_self]; done) | (rw [q_g5, if_pos c_239, t_stop, if_neg (by rw [c_250]; decide), z_row_self]; done))⟩
    · rw [nI_is0 (by omega)] at c_46
      refine v_iconst (pc' := 50) dX5_command_49 kc_1 rfl ?_
      refine v_goto (tgt := 54) dX5_command_50 (by decide) ?_
      refine v_istore8 (pc' := 56) dX5_command_54 (by decide) rfl rfl ?_
      refine v_iload_n (pc' := 57) dX5_command_56 rfl rfl ?_
      refine v_tableIn (tgt := 237) 4 dX5_command_57 (by rw [nI_toInt (by omega)]; omega) (by decide) rfl (by decide) ?_
      refine v_iload (pc' := 239) dX5_command_237 rfl rfl ?_
      refine v_if_ne (tgt := 268) (pc' := 242) dX5_command_239 (by decide) rfl (fun c_239 => ?_) (fun c_239 => ?_)
      · rw [nI_is0 (by omega)] at c_239
        refine v_iconst (pc' := 269) dX5_command_268 kc_0 rfl ?_
        exact v_zret dX5_command_269 rfl (Nat.le_refl _) (Nat.le_refl _) rfl ⟨_, rfl, rfl, rfl, (by first | (rw [q_b5, decide_eq_false c_239]; rfl) | (rw [q_b5, decide_eq_true c_239, c_250]; rfl)), (by first | (rw [q_g5, if_pos c_239, t_stop, if_pos c_250, nI_clamp (by omega)]; done) | (rw [q_g5, if_neg c_239, z_row_self]; done) | (rw [q_g5, if_pos c_239, t_stop, if_neg (by rw [c_250]; decide), z_row_self]; done))⟩
      · rw [nI_is0 (by omega)] at c_239
        refine v_aload_n (pc' := 243) dX5_command_242 rfl rfl ?_
        refine g_X5_16 (pc' := 246) rfl dX5_command_243 (by assumption) rfl ?_
        refine v_iload_n (pc' := 247) dX5_command_246 rfl rfl ?_
        refine v_cSR (pc' := 250) (c5_canStop hl kR hR (nI (f / 1000))) dX5_command_247 lk_X5_132 mwX5_canStop msX5_canStop rfl rfl (by decide) (Nat.le_of_ble_eq_true rfl) rfl ?_
        refine v_if_eq (tgt := 268) (pc' := 253) dX5_command_250 (by decide) rfl (fun c_250 => ?_) (fun c_250 => ?_)
        · first | rw [z_b_ne0] at c_250 | rw [z_b_eq0] at c_250
          refine v_iconst (pc' := 269) dX5_command_268 kc_0 rfl ?_
          exact v_zret dX5_command_269 rfl (Nat.le_refl _) (Nat.le_refl _) rfl ⟨_, rfl, rfl, rfl, (by first | (rw [q_b5, decide_eq_false c_239]; rfl) | (rw [q_b5, decide_eq_true c_239, c_250]; rfl)), (by first | (rw [q_g5, if_pos c_239, t_stop, if_pos c_250, nI_clamp (by omega)]; done) | (rw [q_g5, if_neg c_239, z_row_self]; done) | (rw [q_g5, if_pos c_239, t_stop, if_neg (by rw [c_250]; decide), z_row_self]; done))⟩
        · first | rw [z_b_ne0] at c_250 | rw [z_b_eq0] at c_250
          obtain ⟨u9, hu9, hu6, e9, -, -⟩ := p_cans_nI hR c_250
          have e9 := (nI_eq (by omega) (by omega)).mp e9
          have hh := (hR.2.1 u9 hu9).2.1
          rw [← e9] at hh
          refine v_aload_n (pc' := 254) dX5_command_253 rfl rfl ?_
          refine g_X5_16 (pc' := 257) rfl dX5_command_254 (by assumption) rfl ?_
          refine v_iload_n (pc' := 258) dX5_command_257 rfl rfl ?_
          refine v_cSI (pc' := 261) (c5_stopOn hl kR (f / 1000) (by omega) rfl) dX5_command_258 lk_X5_135 mwX5_stopOn msX5_stopOn rfl rfl (by decide) (Nat.le_of_ble_eq_true rfl) rfl ?_
          rintro _ _ ⟨rfl, rfl⟩
          refine v_if_lt (tgt := 268) (pc' := 264) dX5_command_261 (by decide) rfl (fun c_261 => ?_) (fun c_261 => ?_)
          · have : False := by
              rw [Int32.lt_iff_toInt_lt, i_0] at c_261
              unfold tI at hh
              omega
            exact this.elim
          · refine v_iconst (pc' := 265) dX5_command_264 kc_1 rfl ?_
            refine v_goto (tgt := 269) dX5_command_265 (by decide) ?_
            exact v_zret dX5_command_269 rfl (Nat.le_refl _) (Nat.le_refl _) rfl ⟨_, rfl, rfl, rfl, (by first | (rw [q_b5, decide_eq_false c_239]; rfl) | (rw [q_b5, decide_eq_true c_239, c_250]; rfl)), (by first | (rw [q_g5, if_pos c_239, t_stop, if_pos c_250, nI_clamp (by omega)]; done) | (rw [q_g5, if_neg c_239, z_row_self]; done) | (rw [q_g5, if_pos c_239, t_stop, if_neg (by rw [c_250]; decide), z_row_self]; done))⟩
set_option maxRecDepth 20000 in
set_option maxHeartbeats 4000000 in
theorem m_cmd_6 (hl : l.stackTraces = false) (hK : ShM E G d) (hR : WF (I (d + 3))) (f : Nat) (hf : f < 10000) : z_CI E l mX5_command 5 [.ref d, .int (nI 6), .int (nI f)] G I sz (fun y9 I' => y9 = z_b (q_gb (I (d + 3)) 6 f) ∧ I' = z_row I (d + 3) (q_g (I (d + 3)) 6 f)) := by
  obtain ⟨k0, kT, kN, kR, kD, kP, kF⟩ := id hK
  have h6 := hR.1.1
  refine z_Ct.of hl pn_X5 [some (.ref d), some (.int (nI 6)), some (.int (nI f)), none, none, none, none, none, none, none] rfl (Nat.le_of_ble_eq_true rfl) ?_
  refine v_iload_n (pc' := 1) dX5_command_0 rfl rfl ?_
  refine v_sipush (pc' := 4) dX5_command_1 ks_1000 rfl ?_
  refine v_idiv (pc' := 5) dX5_command_4 (by decide) rfl ?_
  rw [show nI (f) / (1000 : Int32) = nI ((f) / 1000) from pk_div (d := 1000) (by omega) (by omega) (by omega)]
  refine v_istore_n3 (pc' := 6) dX5_command_5 (by decide) rfl rfl ?_
  refine v_iload_n (pc' := 7) dX5_command_6 rfl rfl ?_
  refine v_bipush (pc' := 9) dX5_command_7 kb_100 rfl ?_
  refine v_idiv (pc' := 10) dX5_command_9 (by decide) rfl ?_
  rw [show nI (f) / (100 : Int32) = nI ((f) / 100) from pk_div (d := 100) (by omega) (by omega) (by omega)]
  refine v_istore4 (pc' := 12) dX5_command_10 (by decide) rfl rfl ?_
  refine v_iload_n (pc' := 13) dX5_command_12 rfl rfl ?_
  refine v_bipush (pc' := 15) dX5_command_13 kb_10 rfl ?_
  refine v_idiv (pc' := 16) dX5_command_15 (by decide) rfl ?_
  rw [show nI (f) / (10 : Int32) = nI ((f) / 10) from pk_div (d := 10) (by omega) (by omega) (by omega)]
  refine v_bipush (pc' := 18) dX5_command_16 kb_100 rfl ?_
  refine v_irem (pc' := 19) dX5_command_18 (by decide) rfl ?_
  rw [show nI (f / 10) - nI (f / 10) / (100 : Int32) * 100 = nI ((f / 10) % 100) from pk_rem (d := 100) (by omega) (by omega) (by omega)]
  refine v_istore5 (pc' := 21) dX5_command_19 (by decide) rfl rfl ?_
  refine v_iload_n (pc' := 22) dX5_command_21 rfl rfl ?_
  refine v_sipush (pc' := 25) dX5_command_22 ks_1000 rfl ?_
  refine v_irem (pc' := 26) dX5_command_25 (by decide) rfl ?_
  rw [show nI (f) - nI (f) / (1000 : Int32) * 1000 = nI ((f) % 1000) from pk_rem (d := 1000) (by omega) (by omega) (by omega)]
  refine v_istore6 (pc' := 28) dX5_command_26 (by decide) rfl rfl ?_
  refine v_iload_n (pc' := 29) dX5_command_28 rfl rfl ?_
  refine v_bipush (pc' := 31) dX5_command_29 kb_10 rfl ?_
  refine v_irem (pc' := 32) dX5_command_31 (by decide) rfl ?_
  rw [show nI (f) - nI (f) / (10 : Int32) * 10 = nI ((f) % 10) from pk_rem (d := 10) (by omega) (by omega) (by omega)]
  refine v_if_ne (tgt := 39) (pc' := 35) dX5_command_32 (by decide) rfl (fun c_32 => ?_) (fun c_32 => ?_)
  · rw [nI_is0 (by omega)] at c_32
    refine v_iconst (pc' := 40) dX5_command_39 kc_0 rfl ?_
    refine v_istore7 (pc' := 42) dX5_command_40 (by decide) rfl rfl ?_
    refine v_iload_n (pc' := 43) dX5_command_42 rfl rfl ?_
    refine v_bipush (pc' := 45) dX5_command_43 kb_100 rfl ?_
    refine v_irem (pc' := 46) dX5_command_45 (by decide) rfl ?_
    rw [show nI (f) - nI (f) / (100 : Int32) * 100 = nI ((f) % 100) from pk_rem (d := 100) (by omega) (by omega) (by omega)]
    refine v_if_ne (tgt := 53) (pc' := 49) dX5_command_46 (by decide) rfl (fun c_46 => ?_) (fun c_46 => ?_)
    · rw [nI_is0 (by omega)] at c_46
      refine v_iconst (pc' := 54) dX5_command_53 kc_0 rfl ?_
      refine v_istore8 (pc' := 56) dX5_command_54 (by decide) rfl rfl ?_
      refine v_iload_n (pc' := 57) dX5_command_56 rfl rfl ?_
      refine v_tableIn (tgt := 270) 5 dX5_command_57 (by rw [nI_toInt (by omega)]; omega) (by decide) rfl (by decide) ?_
      refine v_iload (pc' := 272) dX5_command_270 rfl rfl ?_
      refine v_bipush (pc' := 274) dX5_command_272 kb_10 rfl ?_
      refine v_icmp_ge (tgt := 306) (pc' := 277) dX5_command_274 (by decide) rfl (fun c_274 => ?_) (fun c_274 => ?_)
      · rw [show (10 : Int32) = nI 10 from rfl, nI_leI (by omega) (by omega)] at c_274
        have c2 : ¬ f % 1000 < 10 := by omega
        refine v_iconst (pc' := 307) dX5_command_306 kc_0 rfl ?_
        exact v_zret dX5_command_307 rfl (Nat.le_refl _) (Nat.le_refl _) rfl ⟨_, rfl, rfl, rfl, (by first | (rw [q_b6, decide_eq_false c2]; rfl) | (rw [q_b6, decide_eq_true c2, c_285]; rfl) | (rw [q_b6, decide_eq_true c2, c_285]; simp [z_b, c_299]; done)), (by first | exact (z_row_self I (d + 3)).symm)⟩
      · rw [show (10 : Int32) = nI 10 from rfl, nI_leI (by omega) (by omega)] at c_274
        have c2 : f % 1000 < 10 := by omega
        refine v_aload_n (pc' := 278) dX5_command_277 rfl rfl ?_
        refine g_X5_16 (pc' := 281) rfl dX5_command_278 (by assumption) rfl ?_
        refine v_iload_n (pc' := 282) dX5_command_281 rfl rfl ?_
        refine v_cSR (pc' := 285) (c5_isTask hl kR (nI (f / 1000))) dX5_command_282 lk_X5_62 mwX5_isTask msX5_isTask rfl rfl (by decide) (Nat.le_of_ble_eq_true rfl) rfl ?_
        refine v_if_eq (tgt := 306) (pc' := 288) dX5_command_285 (by decide) rfl (fun c_285 => ?_) (fun c_285 => ?_)
        · first | rw [z_b_ne0] at c_285 | rw [z_b_eq0] at c_285
          refine v_iconst (pc' := 307) dX5_command_306 kc_0 rfl ?_
          exact v_zret dX5_command_307 rfl (Nat.le_refl _) (Nat.le_refl _) rfl ⟨_, rfl, rfl, rfl, (by first | (rw [q_b6, decide_eq_false c2]; rfl) | (rw [q_b6, decide_eq_true c2, c_285]; rfl) | (rw [q_b6, decide_eq_true c2, c_285]; simp [z_b, c_299]; done)), (by first | exact (z_row_self I (d + 3)).symm)⟩
        · first | rw [z_b_ne0] at c_285 | rw [z_b_eq0] at c_285
          obtain ⟨u9, hu9, e9⟩ := p_isTask_nI hR c_285
          have e9 := (nI_eq (by omega) (by omega)).mp e9
          refine v_aload_n (pc' := 289) dX5_command_288 rfl rfl ?_
          refine g_X5_16 (pc' := 292) rfl dX5_command_289 (by assumption) rfl ?_
          refine v_iload_n (pc' := 293) dX5_command_292 rfl rfl ?_
          refine v_iconst (pc' := 294) dX5_command_293 kc_4 rfl ?_
          refine v_cSR (pc' := 297) (c5_of hl kR (f / 1000) 4 rfl rfl (by omega)) dX5_command_294 lk_X5_43 mwX5_of msX5_of rfl rfl (by decide) (Nat.le_of_ble_eq_true rfl) rfl ?_
          refine v_iload (pc' := 299) dX5_command_297 rfl rfl ?_
          rw [show f % 1000 = f % 10 by omega]
          refine v_icmp_ne (tgt := 306) (pc' := 302) dX5_command_299 (by decide) rfl (fun c_299 => ?_) (fun c_299 => ?_)
          · refine v_iconst (pc' := 307) dX5_command_306 kc_0 rfl ?_
            exact v_zret dX5_command_307 rfl (Nat.le_refl _) (Nat.le_refl _) rfl ⟨_, rfl, rfl, rfl, (by first | (rw [q_b6, decide_eq_false c2]; rfl) | (rw [q_b6, decide_eq_true c2, c_285]; rfl) | (rw [q_b6, decide_eq_true c2, c_285]; simp [z_b, c_299]; done)), (by first | exact (z_row_self I (d + 3)).symm)⟩
          · refine v_iconst (pc' := 303) dX5_command_302 kc_1 rfl ?_
            refine v_goto (tgt := 307) dX5_command_303 (by decide) ?_
            exact v_zret dX5_command_307 rfl (Nat.le_refl _) (Nat.le_refl _) rfl ⟨_, rfl, rfl, rfl, (by first | (rw [q_b6, decide_eq_false c2]; rfl) | (rw [q_b6, decide_eq_true c2, c_285]; rfl) | (rw [q_b6, decide_eq_true c2, c_285]; simp [z_b, c_299]; done)), (by first | exact (z_row_self I (d + 3)).symm)⟩
    · rw [nI_is0 (by omega)] at c_46
      refine v_iconst (pc' := 50) dX5_command_49 kc_1 rfl ?_
      refine v_goto (tgt := 54) dX5_command_50 (by decide) ?_
      refine v_istore8 (pc' := 56) dX5_command_54 (by decide) rfl rfl ?_
      refine v_iload_n (pc' := 57) dX5_command_56 rfl rfl ?_
      refine v_tableIn (tgt := 270) 5 dX5_command_57 (by rw [nI_toInt (by omega)]; omega) (by decide) rfl (by decide) ?_
      refine v_iload (pc' := 272) dX5_command_270 rfl rfl ?_
      refine v_bipush (pc' := 274) dX5_command_272 kb_10 rfl ?_
      refine v_icmp_ge (tgt := 306) (pc' := 277) dX5_command_274 (by decide) rfl (fun c_274 => ?_) (fun c_274 => ?_)
      · rw [show (10 : Int32) = nI 10 from rfl, nI_leI (by omega) (by omega)] at c_274
        have c2 : ¬ f % 1000 < 10 := by omega
        refine v_iconst (pc' := 307) dX5_command_306 kc_0 rfl ?_
        exact v_zret dX5_command_307 rfl (Nat.le_refl _) (Nat.le_refl _) rfl ⟨_, rfl, rfl, rfl, (by first | (rw [q_b6, decide_eq_false c2]; rfl) | (rw [q_b6, decide_eq_true c2, c_285]; rfl) | (rw [q_b6, decide_eq_true c2, c_285]; simp [z_b, c_299]; done)), (by first | exact (z_row_self I (d + 3)).symm)⟩
      · rw [show (10 : Int32) = nI 10 from rfl, nI_leI (by omega) (by omega)] at c_274
        have c2 : f % 1000 < 10 := by omega
        refine v_aload_n (pc' := 278) dX5_command_277 rfl rfl ?_
        refine g_X5_16 (pc' := 281) rfl dX5_command_278 (by assumption) rfl ?_
        refine v_iload_n (pc' := 282) dX5_command_281 rfl rfl ?_
        refine v_cSR (pc' := 285) (c5_isTask hl kR (nI (f / 1000))) dX5_command_282 lk_X5_62 mwX5_isTask msX5_isTask rfl rfl (by decide) (Nat.le_of_ble_eq_true rfl) rfl ?_
        refine v_if_eq (tgt := 306) (pc' := 288) dX5_command_285 (by decide) rfl (fun c_285 => ?_) (fun c_285 => ?_)
        · first | rw [z_b_ne0] at c_285 | rw [z_b_eq0] at c_285
          refine v_iconst (pc' := 307) dX5_command_306 kc_0 rfl ?_
          exact v_zret dX5_command_307 rfl (Nat.le_refl _) (Nat.le_refl _) rfl ⟨_, rfl, rfl, rfl, (by first | (rw [q_b6, decide_eq_false c2]; rfl) | (rw [q_b6, decide_eq_true c2, c_285]; rfl) | (rw [q_b6, decide_eq_true c2, c_285]; simp [z_b, c_299]; done)), (by first | exact (z_row_self I (d + 3)).symm)⟩
        · first | rw [z_b_ne0] at c_285 | rw [z_b_eq0] at c_285
          obtain ⟨u9, hu9, e9⟩ := p_isTask_nI hR c_285
          have e9 := (nI_eq (by omega) (by omega)).mp e9
          refine v_aload_n (pc' := 289) dX5_command_288 rfl rfl ?_
          refine g_X5_16 (pc' := 292) rfl dX5_command_289 (by assumption) rfl ?_
          refine v_iload_n (pc' := 293) dX5_command_292 rfl rfl ?_
          refine v_iconst (pc' := 294) dX5_command_293 kc_4 rfl ?_
          refine v_cSR (pc' := 297) (c5_of hl kR (f / 1000) 4 rfl rfl (by omega)) dX5_command_294 lk_X5_43 mwX5_of msX5_of rfl rfl (by decide) (Nat.le_of_ble_eq_true rfl) rfl ?_
          refine v_iload (pc' := 299) dX5_command_297 rfl rfl ?_
          rw [show f % 1000 = f % 10 by omega]
          refine v_icmp_ne (tgt := 306) (pc' := 302) dX5_command_299 (by decide) rfl (fun c_299 => ?_) (fun c_299 => ?_)
          · refine v_iconst (pc' := 307) dX5_command_306 kc_0 rfl ?_
            exact v_zret dX5_command_307 rfl (Nat.le_refl _) (Nat.le_refl _) rfl ⟨_, rfl, rfl, rfl, (by first | (rw [q_b6, decide_eq_false c2]; rfl) | (rw [q_b6, decide_eq_true c2, c_285]; rfl) | (rw [q_b6, decide_eq_true c2, c_285]; simp [z_b, c_299]; done)), (by first | exact (z_row_self I (d + 3)).symm)⟩
          · refine v_iconst (pc' := 303) dX5_command_302 kc_1 rfl ?_
            refine v_goto (tgt := 307) dX5_command_303 (by decide) ?_
            exact v_zret dX5_command_307 rfl (Nat.le_refl _) (Nat.le_refl _) rfl ⟨_, rfl, rfl, rfl, (by first | (rw [q_b6, decide_eq_false c2]; rfl) | (rw [q_b6, decide_eq_true c2, c_285]; rfl) | (rw [q_b6, decide_eq_true c2, c_285]; simp [z_b, c_299]; done)), (by first | exact (z_row_self I (d + 3)).symm)⟩
  · rw [nI_is0 (by omega)] at c_32
    refine v_iconst (pc' := 36) dX5_command_35 kc_1 rfl ?_
    refine v_goto (tgt := 40) dX5_command_36 (by decide) ?_
    refine v_istore7 (pc' := 42) dX5_command_40 (by decide) rfl rfl ?_
    refine v_iload_n (pc' := 43) dX5_command_42 rfl rfl ?_
    refine v_bipush (pc' := 45) dX5_command_43 kb_100 rfl ?_
    refine v_irem (pc' := 46) dX5_command_45 (by decide) rfl ?_
    rw [show nI (f) - nI (f) / (100 : Int32) * 100 = nI ((f) % 100) from pk_rem (d := 100) (by omega) (by omega) (by omega)]
    refine v_if_ne (tgt := 53) (pc' := 49) dX5_command_46 (by decide) rfl (fun c_46 => ?_) (fun c_46 => ?_)
    · rw [nI_is0 (by omega)] at c_46
      refine v_iconst (pc' := 54) dX5_command_53 kc_0 rfl ?_
      refine v_istore8 (pc' := 56) dX5_command_54 (by decide) rfl rfl ?_
      refine v_iload_n (pc' := 57) dX5_command_56 rfl rfl ?_
      refine v_tableIn (tgt := 270) 5 dX5_command_57 (by rw [nI_toInt (by omega)]; omega) (by decide) rfl (by decide) ?_
      refine v_iload (pc' := 272) dX5_command_270 rfl rfl ?_
      refine v_bipush (pc' := 274) dX5_command_272 kb_10 rfl ?_
      refine v_icmp_ge (tgt := 306) (pc' := 277) dX5_command_274 (by decide) rfl (fun c_274 => ?_) (fun c_274 => ?_)
      · rw [show (10 : Int32) = nI 10 from rfl, nI_leI (by omega) (by omega)] at c_274
        have c2 : ¬ f % 1000 < 10 := by omega
        refine v_iconst (pc' := 307) dX5_command_306 kc_0 rfl ?_
        exact v_zret dX5_command_307 rfl (Nat.le_refl _) (Nat.le_refl _) rfl ⟨_, rfl, rfl, rfl, (by first | (rw [q_b6, decide_eq_false c2]; rfl) | (rw [q_b6, decide_eq_true c2, c_285]; rfl) | (rw [q_b6, decide_eq_true c2, c_285]; simp [z_b, c_299]; done)), (by first | exact (z_row_self I (d + 3)).symm)⟩
      · rw [show (10 : Int32) = nI 10 from rfl, nI_leI (by omega) (by omega)] at c_274
        have c2 : f % 1000 < 10 := by omega
        refine v_aload_n (pc' := 278) dX5_command_277 rfl rfl ?_
        refine g_X5_16 (pc' := 281) rfl dX5_command_278 (by assumption) rfl ?_
        refine v_iload_n (pc' := 282) dX5_command_281 rfl rfl ?_
        refine v_cSR (pc' := 285) (c5_isTask hl kR (nI (f / 1000))) dX5_command_282 lk_X5_62 mwX5_isTask msX5_isTask rfl rfl (by decide) (Nat.le_of_ble_eq_true rfl) rfl ?_
        refine v_if_eq (tgt := 306) (pc' := 288) dX5_command_285 (by decide) rfl (fun c_285 => ?_) (fun c_285 => ?_)
        · first | rw [z_b_ne0] at c_285 | rw [z_b_eq0] at c_285
          refine v_iconst (pc' := 307) dX5_command_306 kc_0 rfl ?_
          exact v_zret dX5_command_307 rfl (Nat.le_refl _) (Nat.le_refl _) rfl ⟨_, rfl, rfl, rfl, (by first | (rw [q_b6, decide_eq_false c2]; rfl) | (rw [q_b6, decide_eq_true c2, c_285]; rfl) | (rw [q_b6, decide_eq_true c2, c_285]; simp [z_b, c_299]; done)), (by first | exact (z_row_self I (d + 3)).symm)⟩
        · first | rw [z_b_ne0] at c_285 | rw [z_b_eq0] at c_285
          obtain ⟨u9, hu9, e9⟩ := p_isTask_nI hR c_285
          have e9 := (nI_eq (by omega) (by omega)).mp e9
          refine v_aload_n (pc' := 289) dX5_command_288 rfl rfl ?_
          refine g_X5_16 (pc' := 292) rfl dX5_command_289 (by assumption) rfl ?_
          refine v_iload_n (pc' := 293) dX5_command_292 rfl rfl ?_
          refine v_iconst (pc' := 294) dX5_command_293 kc_4 rfl ?_
          refine v_cSR (pc' := 297) (c5_of hl kR (f / 1000) 4 rfl rfl (by omega)) dX5_command_294 lk_X5_43 mwX5_of msX5_of rfl rfl (by decide) (Nat.le_of_ble_eq_true rfl) rfl ?_
          refine v_iload (pc' := 299) dX5_command_297 rfl rfl ?_
          rw [show f % 1000 = f % 10 by omega]
          refine v_icmp_ne (tgt := 306) (pc' := 302) dX5_command_299 (by decide) rfl (fun c_299 => ?_) (fun c_299 => ?_)
          · refine v_iconst (pc' := 307) dX5_command_306 kc_0 rfl ?_
            exact v_zret dX5_command_307 rfl (Nat.le_refl _) (Nat.le_refl _) rfl ⟨_, rfl, rfl, rfl, (by first | (rw [q_b6, decide_eq_false c2]; rfl) | (rw [q_b6, decide_eq_true c2, c_285]; rfl) | (rw [q_b6, decide_eq_true c2, c_285]; simp [z_b, c_299]; done)), (by first | exact (z_row_self I (d + 3)).symm)⟩
          · refine v_iconst (pc' := 303) dX5_command_302 kc_1 rfl ?_
            refine v_goto (tgt := 307) dX5_command_303 (by decide) ?_
            exact v_zret dX5_command_307 rfl (Nat.le_refl _) (Nat.le_refl _) rfl ⟨_, rfl, rfl, rfl, (by first | (rw [q_b6, decide_eq_false c2]; rfl) | (rw [q_b6, decide_eq_true c2, c_285]; rfl) | (rw [q_b6, decide_eq_true c2, c_285]; simp [z_b, c_299]; done)), (by first | exact (z_row_self I (d + 3)).symm)⟩
    · rw [nI_is0 (by omega)] at c_46
      refine v_iconst (pc' := 50) dX5_command_49 kc_1 rfl ?_
      refine v_goto (tgt := 54) dX5_command_50 (by decide) ?_
      refine v_istore8 (pc' := 56) dX5_command_54 (by decide) rfl rfl ?_
      refine v_iload_n (pc' := 57) dX5_command_56 rfl rfl ?_
      refine v_tableIn (tgt := 270) 5 dX5_command_57 (by rw [nI_toInt (by omega)]; omega) (by decide) rfl (by decide) ?_
      refine v_iload (pc' := 272) dX5_command_270 rfl rfl ?_
      refine v_bipush (pc' := 274) dX5_command_272 kb_10 rfl ?_
      refine v_icmp_ge (tgt := 306) (pc' := 277) dX5_command_274 (by decide) rfl (fun c_274 => ?_) (fun c_274 => ?_)
      · rw [show (10 : Int32) = nI 10 from rfl, nI_leI (by omega) (by omega)] at c_274
        have c2 : ¬ f % 1000 < 10 := by omega
        refine v_iconst (pc' := 307) dX5_command_306 kc_0 rfl ?_
        exact v_zret dX5_command_307 rfl (Nat.le_refl _) (Nat.le_refl _) rfl ⟨_, rfl, rfl, rfl, (by first | (rw [q_b6, decide_eq_false c2]; rfl) | (rw [q_b6, decide_eq_true c2, c_285]; rfl) | (rw [q_b6, decide_eq_true c2, c_285]; simp [z_b, c_299]; done)), (by first | exact (z_row_self I (d + 3)).symm)⟩
      · rw [show (10 : Int32) = nI 10 from rfl, nI_leI (by omega) (by omega)] at c_274
        have c2 : f % 1000 < 10 := by omega
        refine v_aload_n (pc' := 278) dX5_command_277 rfl rfl ?_
        refine g_X5_16 (pc' := 281) rfl dX5_command_278 (by assumption) rfl ?_
        refine v_iload_n (pc' := 282) dX5_command_281 rfl rfl ?_
        refine v_cSR (pc' := 285) (c5_isTask hl kR (nI (f / 1000))) dX5_command_282 lk_X5_62 mwX5_isTask msX5_isTask rfl rfl (by decide) (Nat.le_of_ble_eq_true rfl) rfl ?_
        refine v_if_eq (tgt := 306) (pc' := 288) dX5_command_285 (by decide) rfl (fun c_285 => ?_) (fun c_285 => ?_)
        · first | rw [z_b_ne0] at c_285 | rw [z_b_eq0] at c_285
          refine v_iconst (pc' := 307) dX5_command_306 kc_0 rfl ?_
          exact v_zret dX5_command_307 rfl (Nat.le_refl _) (Nat.le_refl _) rfl ⟨_, rfl, rfl, rfl, (by first | (rw [q_b6, decide_eq_false c2]; rfl) | (rw [q_b6, decide_eq_true c2, c_285]; rfl) | (rw [q_b6, decide_eq_true c2, c_285]; simp [z_b, c_299]; done)), (by first | exact (z_row_self I (d + 3)).symm)⟩
        · first | rw [z_b_ne0] at c_285 | rw [z_b_eq0] at c_285
          obtain ⟨u9, hu9, e9⟩ := p_isTask_nI hR c_285
          have e9 := (nI_eq (by omega) (by omega)).mp e9
          refine v_aload_n (pc' := 289) dX5_command_288 rfl rfl ?_
          refine g_X5_16 (pc' := 292) rfl dX5_command_289 (by assumption) rfl ?_
          refine v_iload_n (pc' := 293) dX5_command_292 rfl rfl ?_
          refine v_iconst (pc' := 294) dX5_command_293 kc_4 rfl ?_
          refine v_cSR (pc' := 297) (c5_of hl kR (f / 1000) 4 rfl rfl (by omega)) dX5_command_294 lk_X5_43 mwX5_of msX5_of rfl rfl (by decide) (Nat.le_of_ble_eq_true rfl) rfl ?_
          refine v_iload (pc' := 299) dX5_command_297 rfl rfl ?_
          rw [show f % 1000 = f % 10 by omega]
          refine v_icmp_ne (tgt := 306) (pc' := 302) dX5_command_299 (by decide) rfl (fun c_299 => ?_) (fun c_299 => ?_)
          · refine v_iconst (pc' := 307) dX5_command_306 kc_0 rfl ?_
            exact v_zret dX5_command_307 rfl (Nat.le_refl _) (Nat.le_refl _) rfl ⟨_, rfl, rfl, rfl, (by first | (rw [q_b6, decide_eq_false c2]; rfl) | (rw [q_b6, decide_eq_true c2, c_285]; rfl) | (rw [q_b6, decide_eq_true c2, c_285]; simp [z_b, c_299]; done)), (by first | exact (z_row_self I (d + 3)).symm)⟩
          · refine v_iconst (pc' := 303) dX5_command_302 kc_1 rfl ?_
            refine v_goto (tgt := 307) dX5_command_303 (by decide) ?_
            exact v_zret dX5_command_307 rfl (Nat.le_refl _) (Nat.le_refl _) rfl ⟨_, rfl, rfl, rfl, (by first | (rw [q_b6, decide_eq_false c2]; rfl) | (rw [q_b6, decide_eq_true c2, c_285]; rfl) | (rw [q_b6, decide_eq_true c2, c_285]; simp [z_b, c_299]; done)), (by first | exact (z_row_self I (d + 3)).symm)⟩
set_option maxRecDepth 20000 in
set_option maxHeartbeats 4000000 in
theorem m_cmd_7 (hl : l.stackTraces = false) (hK : ShM E G d) (hR : WF (I (d + 3))) (f : Nat) (hf : f < 10000) : z_CI E l mX5_command 5 [.ref d, .int (nI 7), .int (nI f)] G I sz (fun y9 I' => y9 = z_b (q_gb (I (d + 3)) 7 f) ∧ I' = z_row I (d + 3) (q_g (I (d + 3)) 7 f)) := by
  obtain ⟨k0, kT, kN, kR, kD, kP, kF⟩ := id hK
  have h6 := hR.1.1
  refine z_Ct.of hl pn_X5 [some (.ref d), some (.int (nI 7)), some (.int (nI f)), none, none, none, none, none, none, none] rfl (Nat.le_of_ble_eq_true rfl) ?_
  refine v_iload_n (pc' := 1) dX5_command_0 rfl rfl ?_
  refine v_sipush (pc' := 4) dX5_command_1 ks_1000 rfl ?_
  refine v_idiv (pc' := 5) dX5_command_4 (by decide) rfl ?_
  rw [show nI (f) / (1000 : Int32) = nI ((f) / 1000) from pk_div (d := 1000) (by omega) (by omega) (by omega)]
  refine v_istore_n3 (pc' := 6) dX5_command_5 (by decide) rfl rfl ?_
  refine v_iload_n (pc' := 7) dX5_command_6 rfl rfl ?_
  refine v_bipush (pc' := 9) dX5_command_7 kb_100 rfl ?_
  refine v_idiv (pc' := 10) dX5_command_9 (by decide) rfl ?_
  rw [show nI (f) / (100 : Int32) = nI ((f) / 100) from pk_div (d := 100) (by omega) (by omega) (by omega)]
  refine v_istore4 (pc' := 12) dX5_command_10 (by decide) rfl rfl ?_
  refine v_iload_n (pc' := 13) dX5_command_12 rfl rfl ?_
  refine v_bipush (pc' := 15) dX5_command_13 kb_10 rfl ?_
  refine v_idiv (pc' := 16) dX5_command_15 (by decide) rfl ?_
  rw [show nI (f) / (10 : Int32) = nI ((f) / 10) from pk_div (d := 10) (by omega) (by omega) (by omega)]
  refine v_bipush (pc' := 18) dX5_command_16 kb_100 rfl ?_
  refine v_irem (pc' := 19) dX5_command_18 (by decide) rfl ?_
  rw [show nI (f / 10) - nI (f / 10) / (100 : Int32) * 100 = nI ((f / 10) % 100) from pk_rem (d := 100) (by omega) (by omega) (by omega)]
  refine v_istore5 (pc' := 21) dX5_command_19 (by decide) rfl rfl ?_
  refine v_iload_n (pc' := 22) dX5_command_21 rfl rfl ?_
  refine v_sipush (pc' := 25) dX5_command_22 ks_1000 rfl ?_
  refine v_irem (pc' := 26) dX5_command_25 (by decide) rfl ?_
  rw [show nI (f) - nI (f) / (1000 : Int32) * 1000 = nI ((f) % 1000) from pk_rem (d := 1000) (by omega) (by omega) (by omega)]
  refine v_istore6 (pc' := 28) dX5_command_26 (by decide) rfl rfl ?_
  refine v_iload_n (pc' := 29) dX5_command_28 rfl rfl ?_
  refine v_bipush (pc' := 31) dX5_command_29 kb_10 rfl ?_
  refine v_irem (pc' := 32) dX5_command_31 (by decide) rfl ?_
  rw [show nI (f) - nI (f) / (10 : Int32) * 10 = nI ((f) % 10) from pk_rem (d := 10) (by omega) (by omega) (by omega)]
  refine v_if_ne (tgt := 39) (pc' := 35) dX5_command_32 (by decide) rfl (fun c_32 => ?_) (fun c_32 => ?_)
  · rw [nI_is0 (by omega)] at c_32
    refine v_iconst (pc' := 40) dX5_command_39 kc_0 rfl ?_
    refine v_istore7 (pc' := 42) dX5_command_40 (by decide) rfl rfl ?_
    refine v_iload_n (pc' := 43) dX5_command_42 rfl rfl ?_
    refine v_bipush (pc' := 45) dX5_command_43 kb_100 rfl ?_
    refine v_irem (pc' := 46) dX5_command_45 (by decide) rfl ?_
    rw [show nI (f) - nI (f) / (100 : Int32) * 100 = nI ((f) % 100) from pk_rem (d := 100) (by omega) (by omega) (by omega)]
    refine v_if_ne (tgt := 53) (pc' := 49) dX5_command_46 (by decide) rfl (fun c_46 => ?_) (fun c_46 => ?_)
    · rw [nI_is0 (by omega)] at c_46
      refine v_iconst (pc' := 54) dX5_command_53 kc_0 rfl ?_
      refine v_istore8 (pc' := 56) dX5_command_54 (by decide) rfl rfl ?_
      refine v_iload_n (pc' := 57) dX5_command_56 rfl rfl ?_
      refine v_tableIn (tgt := 308) 6 dX5_command_57 (by rw [nI_toInt (by omega)]; omega) (by decide) rfl (by decide) ?_
      refine v_aload_n (pc' := 309) dX5_command_308 rfl rfl ?_
      refine g_X5_16 (pc' := 312) rfl dX5_command_309 (by assumption) rfl ?_
      refine v_iload_n (pc' := 313) dX5_command_312 rfl rfl ?_
      refine v_cSR (pc' := 316) (c5_isTask hl kR (nI (f / 1000))) dX5_command_313 lk_X5_62 mwX5_isTask msX5_isTask rfl rfl (by decide) (Nat.le_of_ble_eq_true rfl) rfl ?_
      refine v_if_eq (tgt := 337) (pc' := 319) dX5_command_316 (by decide) rfl (fun c_316 => ?_) (fun c_316 => ?_)
      · first | rw [z_b_ne0] at c_316 | rw [z_b_eq0] at c_316
        refine v_iconst (pc' := 338) dX5_command_337 kc_0 rfl ?_
        exact v_zret dX5_command_338 rfl (Nat.le_refl _) (Nat.le_refl _) rfl ⟨_, rfl, rfl, rfl, (by first | (rw [q_b7, c_316]; simp [z_b, c_330]; done) | (rw [q_b7, c_316]; rfl)), (by first | exact (z_row_self I (d + 3)).symm)⟩
      · first | rw [z_b_ne0] at c_316 | rw [z_b_eq0] at c_316
        obtain ⟨u9, hu9, e9⟩ := p_isTask_nI hR c_316
        have e9 := (nI_eq (by omega) (by omega)).mp e9
        refine v_aload_n (pc' := 320) dX5_command_319 rfl rfl ?_
        refine g_X5_16 (pc' := 323) rfl dX5_command_320 (by assumption) rfl ?_
        refine v_iload_n (pc' := 324) dX5_command_323 rfl rfl ?_
        refine v_iconst (pc' := 325) dX5_command_324 kc_1 rfl ?_
        refine v_cSR (pc' := 328) (c5_of hl kR (f / 1000) 1 rfl rfl (by omega)) dX5_command_325 lk_X5_43 mwX5_of msX5_of rfl rfl (by decide) (Nat.le_of_ble_eq_true rfl) rfl ?_
        refine v_iload (pc' := 330) dX5_command_328 rfl rfl ?_
        refine v_icmp_ne (tgt := 337) (pc' := 333) dX5_command_330 (by decide) rfl (fun c_330 => ?_) (fun c_330 => ?_)
        · refine v_iconst (pc' := 338) dX5_command_337 kc_0 rfl ?_
          exact v_zret dX5_command_338 rfl (Nat.le_refl _) (Nat.le_refl _) rfl ⟨_, rfl, rfl, rfl, (by first | (rw [q_b7, c_316]; simp [z_b, c_330]; done) | (rw [q_b7, c_316]; rfl)), (by first | exact (z_row_self I (d + 3)).symm)⟩
        · refine v_iconst (pc' := 334) dX5_command_333 kc_1 rfl ?_
          refine v_goto (tgt := 338) dX5_command_334 (by decide) ?_
          exact v_zret dX5_command_338 rfl (Nat.le_refl _) (Nat.le_refl _) rfl ⟨_, rfl, rfl, rfl, (by first | (rw [q_b7, c_316]; simp [z_b, c_330]; done) | (rw [q_b7, c_316]; rfl)), (by first | exact (z_row_self I (d + 3)).symm)⟩
    · rw [nI_is0 (by omega)] at c_46
      refine v_iconst (pc' := 50) dX5_command_49 kc_1 rfl ?_
      refine v_goto (tgt := 54) dX5_command_50 (by decide) ?_
      refine v_istore8 (pc' := 56) dX5_command_54 (by decide) rfl rfl ?_
      refine v_iload_n (pc' := 57) dX5_command_56 rfl rfl ?_
      refine v_tableIn (tgt := 308) 6 dX5_command_57 (by rw [nI_toInt (by omega)]; omega) (by decide) rfl (by decide) ?_
      refine v_aload_n (pc' := 309) dX5_command_308 rfl rfl ?_
      refine g_X5_16 (pc' := 312) rfl dX5_command_309 (by assumption) rfl ?_
      refine v_iload_n (pc' := 313) dX5_command_312 rfl rfl ?_
      refine v_cSR (pc' := 316) (c5_isTask hl kR (nI (f / 1000))) dX5_command_313 lk_X5_62 mwX5_isTask msX5_isTask rfl rfl (by decide) (Nat.le_of_ble_eq_true rfl) rfl ?_
      refine v_if_eq (tgt := 337) (pc' := 319) dX5_command_316 (by decide) rfl (fun c_316 => ?_) (fun c_316 => ?_)
      · first | rw [z_b_ne0] at c_316 | rw [z_b_eq0] at c_316
        refine v_iconst (pc' := 338) dX5_command_337 kc_0 rfl ?_
        exact v_zret dX5_command_338 rfl (Nat.le_refl _) (Nat.le_refl _) rfl ⟨_, rfl, rfl, rfl, (by first | (rw [q_b7, c_316]; simp [z_b, c_330]; done) | (rw [q_b7, c_316]; rfl)), (by first | exact (z_row_self I (d + 3)).symm)⟩
      · first | rw [z_b_ne0] at c_316 | rw [z_b_eq0] at c_316
        obtain ⟨u9, hu9, e9⟩ := p_isTask_nI hR c_316
        have e9 := (nI_eq (by omega) (by omega)).mp e9
        refine v_aload_n (pc' := 320) dX5_command_319 rfl rfl ?_
        refine g_X5_16 (pc' := 323) rfl dX5_command_320 (by assumption) rfl ?_
        refine v_iload_n (pc' := 324) dX5_command_323 rfl rfl ?_
        refine v_iconst (pc' := 325) dX5_command_324 kc_1 rfl ?_
        refine v_cSR (pc' := 328) (c5_of hl kR (f / 1000) 1 rfl rfl (by omega)) dX5_command_325 lk_X5_43 mwX5_of msX5_of rfl rfl (by decide) (Nat.le_of_ble_eq_true rfl) rfl ?_
        refine v_iload (pc' := 330) dX5_command_328 rfl rfl ?_
        refine v_icmp_ne (tgt := 337) (pc' := 333) dX5_command_330 (by decide) rfl (fun c_330 => ?_) (fun c_330 => ?_)
        · refine v_iconst (pc' := 338) dX5_command_337 kc_0 rfl ?_
          exact v_zret dX5_command_338 rfl (Nat.le_refl _) (Nat.le_refl _) rfl ⟨_, rfl, rfl, rfl, (by first | (rw [q_b7, c_316]; simp [z_b, c_330]; done) | (rw [q_b7, c_316]; rfl)), (by first | exact (z_row_self I (d + 3)).symm)⟩
        · refine v_iconst (pc' := 334) dX5_command_333 kc_1 rfl ?_
          refine v_goto (tgt := 338) dX5_command_334 (by decide) ?_
          exact v_zret dX5_command_338 rfl (Nat.le_refl _) (Nat.le_refl _) rfl ⟨_, rfl, rfl, rfl, (by first | (rw [q_b7, c_316]; simp [z_b, c_330]; done) | (rw [q_b7, c_316]; rfl)), (by first | exact (z_row_self I (d + 3)).symm)⟩
  · rw [nI_is0 (by omega)] at c_32
    refine v_iconst (pc' := 36) dX5_command_35 kc_1 rfl ?_
    refine v_goto (tgt := 40) dX5_command_36 (by decide) ?_
    refine v_istore7 (pc' := 42) dX5_command_40 (by decide) rfl rfl ?_
    refine v_iload_n (pc' := 43) dX5_command_42 rfl rfl ?_
    refine v_bipush (pc' := 45) dX5_command_43 kb_100 rfl ?_
    refine v_irem (pc' := 46) dX5_command_45 (by decide) rfl ?_
    rw [show nI (f) - nI (f) / (100 : Int32) * 100 = nI ((f) % 100) from pk_rem (d := 100) (by omega) (by omega) (by omega)]
    refine v_if_ne (tgt := 53) (pc' := 49) dX5_command_46 (by decide) rfl (fun c_46 => ?_) (fun c_46 => ?_)
    · rw [nI_is0 (by omega)] at c_46
      refine v_iconst (pc' := 54) dX5_command_53 kc_0 rfl ?_
      refine v_istore8 (pc' := 56) dX5_command_54 (by decide) rfl rfl ?_
      refine v_iload_n (pc' := 57) dX5_command_56 rfl rfl ?_
      refine v_tableIn (tgt := 308) 6 dX5_command_57 (by rw [nI_toInt (by omega)]; omega) (by decide) rfl (by decide) ?_
      refine v_aload_n (pc' := 309) dX5_command_308 rfl rfl ?_
      refine g_X5_16 (pc' := 312) rfl dX5_command_309 (by assumption) rfl ?_
      refine v_iload_n (pc' := 313) dX5_command_312 rfl rfl ?_
      refine v_cSR (pc' := 316) (c5_isTask hl kR (nI (f / 1000))) dX5_command_313 lk_X5_62 mwX5_isTask msX5_isTask rfl rfl (by decide) (Nat.le_of_ble_eq_true rfl) rfl ?_
      refine v_if_eq (tgt := 337) (pc' := 319) dX5_command_316 (by decide) rfl (fun c_316 => ?_) (fun c_316 => ?_)
      · first | rw [z_b_ne0] at c_316 | rw [z_b_eq0] at c_316
        refine v_iconst (pc' := 338) dX5_command_337 kc_0 rfl ?_
        exact v_zret dX5_command_338 rfl (Nat.le_refl _) (Nat.le_refl _) rfl ⟨_, rfl, rfl, rfl, (by first | (rw [q_b7, c_316]; simp [z_b, c_330]; done) | (rw [q_b7, c_316]; rfl)), (by first | exact (z_row_self I (d + 3)).symm)⟩
      · first | rw [z_b_ne0] at c_316 | rw [z_b_eq0] at c_316
        obtain ⟨u9, hu9, e9⟩ := p_isTask_nI hR c_316
        have e9 := (nI_eq (by omega) (by omega)).mp e9
        refine v_aload_n (pc' := 320) dX5_command_319 rfl rfl ?_
        refine g_X5_16 (pc' := 323) rfl dX5_command_320 (by assumption) rfl ?_
        refine v_iload_n (pc' := 324) dX5_command_323 rfl rfl ?_
        refine v_iconst (pc' := 325) dX5_command_324 kc_1 rfl ?_
        refine v_cSR (pc' := 328) (c5_of hl kR (f / 1000) 1 rfl rfl (by omega)) dX5_command_325 lk_X5_43 mwX5_of msX5_of rfl rfl (by decide) (Nat.le_of_ble_eq_true rfl) rfl ?_
        refine v_iload (pc' := 330) dX5_command_328 rfl rfl ?_
        refine v_icmp_ne (tgt := 337) (pc' := 333) dX5_command_330 (by decide) rfl (fun c_330 => ?_) (fun c_330 => ?_)
        · refine v_iconst (pc' := 338) dX5_command_337 kc_0 rfl ?_
          exact v_zret dX5_command_338 rfl (Nat.le_refl _) (Nat.le_refl _) rfl ⟨_, rfl, rfl, rfl, (by first | (rw [q_b7, c_316]; simp [z_b, c_330]; done) | (rw [q_b7, c_316]; rfl)), (by first | exact (z_row_self I (d + 3)).symm)⟩
        · refine v_iconst (pc' := 334) dX5_command_333 kc_1 rfl ?_
          refine v_goto (tgt := 338) dX5_command_334 (by decide) ?_
          exact v_zret dX5_command_338 rfl (Nat.le_refl _) (Nat.le_refl _) rfl ⟨_, rfl, rfl, rfl, (by first | (rw [q_b7, c_316]; simp [z_b, c_330]; done) | (rw [q_b7, c_316]; rfl)), (by first | exact (z_row_self I (d + 3)).symm)⟩
    · rw [nI_is0 (by omega)] at c_46
      refine v_iconst (pc' := 50) dX5_command_49 kc_1 rfl ?_
      refine v_goto (tgt := 54) dX5_command_50 (by decide) ?_
      refine v_istore8 (pc' := 56) dX5_command_54 (by decide) rfl rfl ?_
      refine v_iload_n (pc' := 57) dX5_command_56 rfl rfl ?_
      refine v_tableIn (tgt := 308) 6 dX5_command_57 (by rw [nI_toInt (by omega)]; omega) (by decide) rfl (by decide) ?_
      refine v_aload_n (pc' := 309) dX5_command_308 rfl rfl ?_
      refine g_X5_16 (pc' := 312) rfl dX5_command_309 (by assumption) rfl ?_
      refine v_iload_n (pc' := 313) dX5_command_312 rfl rfl ?_
      refine v_cSR (pc' := 316) (c5_isTask hl kR (nI (f / 1000))) dX5_command_313 lk_X5_62 mwX5_isTask msX5_isTask rfl rfl (by decide) (Nat.le_of_ble_eq_true rfl) rfl ?_
      refine v_if_eq (tgt := 337) (pc' := 319) dX5_command_316 (by decide) rfl (fun c_316 => ?_) (fun c_316 => ?_)
      · first | rw [z_b_ne0] at c_316 | rw [z_b_eq0] at c_316
        refine v_iconst (pc' := 338) dX5_command_337 kc_0 rfl ?_
        exact v_zret dX5_command_338 rfl (Nat.le_refl _) (Nat.le_refl _) rfl ⟨_, rfl, rfl, rfl, (by first | (rw [q_b7, c_316]; simp [z_b, c_330]; done) | (rw [q_b7, c_316]; rfl)), (by first | exact (z_row_self I (d + 3)).symm)⟩
      · first | rw [z_b_ne0] at c_316 | rw [z_b_eq0] at c_316
        obtain ⟨u9, hu9, e9⟩ := p_isTask_nI hR c_316
        have e9 := (nI_eq (by omega) (by omega)).mp e9
        refine v_aload_n (pc' := 320) dX5_command_319 rfl rfl ?_
        refine g_X5_16 (pc' := 323) rfl dX5_command_320 (by assumption) rfl ?_
        refine v_iload_n (pc' := 324) dX5_command_323 rfl rfl ?_
        refine v_iconst (pc' := 325) dX5_command_324 kc_1 rfl ?_
        refine v_cSR (pc' := 328) (c5_of hl kR (f / 1000) 1 rfl rfl (by omega)) dX5_command_325 lk_X5_43 mwX5_of msX5_of rfl rfl (by decide) (Nat.le_of_ble_eq_true rfl) rfl ?_
        refine v_iload (pc' := 330) dX5_command_328 rfl rfl ?_
        refine v_icmp_ne (tgt := 337) (pc' := 333) dX5_command_330 (by decide) rfl (fun c_330 => ?_) (fun c_330 => ?_)
        · refine v_iconst (pc' := 338) dX5_command_337 kc_0 rfl ?_
          exact v_zret dX5_command_338 rfl (Nat.le_refl _) (Nat.le_refl _) rfl ⟨_, rfl, rfl, rfl, (by first | (rw [q_b7, c_316]; simp [z_b, c_330]; done) | (rw [q_b7, c_316]; rfl)), (by first | exact (z_row_self I (d + 3)).symm)⟩
        · refine v_iconst (pc' := 334) dX5_command_333 kc_1 rfl ?_
          refine v_goto (tgt := 338) dX5_command_334 (by decide) ?_
          exact v_zret dX5_command_338 rfl (Nat.le_refl _) (Nat.le_refl _) rfl ⟨_, rfl, rfl, rfl, (by first | (rw [q_b7, c_316]; simp [z_b, c_330]; done) | (rw [q_b7, c_316]; rfl)), (by first | exact (z_row_self I (d + 3)).symm)⟩
set_option maxRecDepth 20000 in
set_option maxHeartbeats 4000000 in
theorem m_cmd_8 (hl : l.stackTraces = false) (hK : ShM E G d) (hR : WF (I (d + 3))) (f : Nat) (hf : f < 10000) : z_CI E l mX5_command 5 [.ref d, .int (nI 8), .int (nI f)] G I sz (fun y9 I' => y9 = z_b (q_gb (I (d + 3)) 8 f) ∧ I' = z_row I (d + 3) (q_g (I (d + 3)) 8 f)) := by
  obtain ⟨k0, kT, kN, kR, kD, kP, kF⟩ := id hK
  have h6 := hR.1.1
  refine z_Ct.of hl pn_X5 [some (.ref d), some (.int (nI 8)), some (.int (nI f)), none, none, none, none, none, none, none] rfl (Nat.le_of_ble_eq_true rfl) ?_
  refine v_iload_n (pc' := 1) dX5_command_0 rfl rfl ?_
  refine v_sipush (pc' := 4) dX5_command_1 ks_1000 rfl ?_
  refine v_idiv (pc' := 5) dX5_command_4 (by decide) rfl ?_
  rw [show nI (f) / (1000 : Int32) = nI ((f) / 1000) from pk_div (d := 1000) (by omega) (by omega) (by omega)]
  refine v_istore_n3 (pc' := 6) dX5_command_5 (by decide) rfl rfl ?_
  refine v_iload_n (pc' := 7) dX5_command_6 rfl rfl ?_
  refine v_bipush (pc' := 9) dX5_command_7 kb_100 rfl ?_
  refine v_idiv (pc' := 10) dX5_command_9 (by decide) rfl ?_
  rw [show nI (f) / (100 : Int32) = nI ((f) / 100) from pk_div (d := 100) (by omega) (by omega) (by omega)]
  refine v_istore4 (pc' := 12) dX5_command_10 (by decide) rfl rfl ?_
  refine v_iload_n (pc' := 13) dX5_command_12 rfl rfl ?_
  refine v_bipush (pc' := 15) dX5_command_13 kb_10 rfl ?_
  refine v_idiv (pc' := 16) dX5_command_15 (by decide) rfl ?_
  rw [show nI (f) / (10 : Int32) = nI ((f) / 10) from pk_div (d := 10) (by omega) (by omega) (by omega)]
  refine v_bipush (pc' := 18) dX5_command_16 kb_100 rfl ?_
  refine v_irem (pc' := 19) dX5_command_18 (by decide) rfl ?_
  rw [show nI (f / 10) - nI (f / 10) / (100 : Int32) * 100 = nI ((f / 10) % 100) from pk_rem (d := 100) (by omega) (by omega) (by omega)]
  refine v_istore5 (pc' := 21) dX5_command_19 (by decide) rfl rfl ?_
  refine v_iload_n (pc' := 22) dX5_command_21 rfl rfl ?_
  refine v_sipush (pc' := 25) dX5_command_22 ks_1000 rfl ?_
  refine v_irem (pc' := 26) dX5_command_25 (by decide) rfl ?_
  rw [show nI (f) - nI (f) / (1000 : Int32) * 1000 = nI ((f) % 1000) from pk_rem (d := 1000) (by omega) (by omega) (by omega)]
  refine v_istore6 (pc' := 28) dX5_command_26 (by decide) rfl rfl ?_
  refine v_iload_n (pc' := 29) dX5_command_28 rfl rfl ?_
  refine v_bipush (pc' := 31) dX5_command_29 kb_10 rfl ?_
  refine v_irem (pc' := 32) dX5_command_31 (by decide) rfl ?_
  rw [show nI (f) - nI (f) / (10 : Int32) * 10 = nI ((f) % 10) from pk_rem (d := 10) (by omega) (by omega) (by omega)]
  refine v_if_ne (tgt := 39) (pc' := 35) dX5_command_32 (by decide) rfl (fun c_32 => ?_) (fun c_32 => ?_)
  · rw [nI_is0 (by omega)] at c_32
    refine v_iconst (pc' := 40) dX5_command_39 kc_0 rfl ?_
    refine v_istore7 (pc' := 42) dX5_command_40 (by decide) rfl rfl ?_
    refine v_iload_n (pc' := 43) dX5_command_42 rfl rfl ?_
    refine v_bipush (pc' := 45) dX5_command_43 kb_100 rfl ?_
    refine v_irem (pc' := 46) dX5_command_45 (by decide) rfl ?_
    rw [show nI (f) - nI (f) / (100 : Int32) * 100 = nI ((f) % 100) from pk_rem (d := 100) (by omega) (by omega) (by omega)]
    refine v_if_ne (tgt := 53) (pc' := 49) dX5_command_46 (by decide) rfl (fun c_46 => ?_) (fun c_46 => ?_)
    · rw [nI_is0 (by omega)] at c_46
      refine v_iconst (pc' := 54) dX5_command_53 kc_0 rfl ?_
      refine v_istore8 (pc' := 56) dX5_command_54 (by decide) rfl rfl ?_
      refine v_iload_n (pc' := 57) dX5_command_56 rfl rfl ?_
      refine v_tableIn (tgt := 339) 7 dX5_command_57 (by rw [nI_toInt (by omega)]; omega) (by decide) rfl (by decide) ?_
      refine v_iload_n (pc' := 340) dX5_command_339 rfl rfl ?_
      refine v_bipush (pc' := 342) dX5_command_340 kb_100 rfl ?_
      refine v_irem (pc' := 343) dX5_command_342 (by decide) rfl ?_
      rw [show nI (f) - nI (f) / (100 : Int32) * 100 = nI ((f) % 100) from pk_rem (d := 100) (by omega) (by omega) (by omega)]
      refine v_bipush (pc' := 345) dX5_command_343 kb_9 rfl ?_
      refine v_icmp_gt (tgt := 356) (pc' := 348) dX5_command_345 (by decide) rfl (fun c_345 => ?_) (fun c_345 => ?_)
      · rw [show (9 : Int32) = nI 9 from rfl, nI_ltI (by omega) (by omega)] at c_345
        have c2 : ¬ f % 100 ≤ 9 := by omega
        refine v_iconst (pc' := 357) dX5_command_356 kc_0 rfl ?_
        exact v_zret dX5_command_357 rfl (Nat.le_refl _) (Nat.le_refl _) rfl ⟨_, rfl, rfl, rfl, (by first | (rw [q_b8, decide_eq_false c2]; rfl) | (rw [q_b8, decide_eq_true c2, c_353]; rfl) | (rw [q_b8, decide_eq_true c2, c_353, Bool.true_and, Bool.true_and]; first
              | (rw [show (9 : Int32) = nI 9 from rfl, nI_eq (by omega) (by omega)] at c_386
                 by_cases h9 : f % 10 = 9
                 · first | exact absurd h9.symm c_386 | (rw [if_pos h9, c_372]; rfl)
                 · first | exact absurd c_386.symm h9 | (rw [if_neg h9, c_372, decide_eq_false (fun q => nI_m1 (by omega) q.symm)]; rfl))
              | (by_cases h9 : f % 10 = 9
                 · rw [if_pos h9, decide_eq_false c_372]
                   first
                     | rfl
                     | (exfalso
                        rcases htk with q | ⟨u, hu, q, -⟩
                        · exact c_372 q
                        · rw [q, nI_eq (by omega) (by omega)] at c_386; omega)
                 · rw [if_neg h9]; first | (rw [decide_eq_true c_386]; rfl) | (rw [decide_eq_false c_386]; rfl)))), (by first | exact (z_row_self I (d + 3)).symm)⟩
      · rw [show (9 : Int32) = nI 9 from rfl, nI_ltI (by omega) (by omega)] at c_345
        have c2 : f % 100 ≤ 9 := by omega
        refine v_iload (pc' := 350) dX5_command_348 rfl rfl ?_
        refine v_cSR (pc' := 353) (c5_isStripe hl (nI (f / 100))) dX5_command_350 lk_X5_65 mwX5_isStripe msX5_isStripe rfl rfl (by decide) (Nat.le_of_ble_eq_true rfl) rfl ?_
        refine v_if_ne (tgt := 358) (pc' := 356) dX5_command_353 (by decide) rfl (fun c_353 => ?_) (fun c_353 => ?_)
        · first | rw [z_b_ne0] at c_353 | rw [z_b_eq0] at c_353
          refine v_aload_n (pc' := 359) dX5_command_358 rfl rfl ?_
          refine g_X5_16 (pc' := 362) rfl dX5_command_359 (by assumption) rfl ?_
          refine v_iload (pc' := 364) dX5_command_362 rfl rfl ?_
          refine v_cSR (pc' := 367) (c5_taker hl kR hR (nI (f / 100))) dX5_command_364 lk_X5_51 mwX5_taker msX5_taker rfl rfl (by decide) (Nat.le_of_ble_eq_true rfl) rfl ?_
          have htk := p_taker_cases (I (d + 3)) (nI (f / 100))
          refine v_istore9 (pc' := 369) dX5_command_367 (by decide) rfl rfl ?_
          refine v_iload (pc' := 371) dX5_command_369 rfl rfl ?_
          refine v_iconst (pc' := 372) dX5_command_371 kc_m1 rfl ?_
          refine v_icmp_ne (tgt := 380) (pc' := 375) dX5_command_372 (by decide) rfl (fun c_372 => ?_) (fun c_372 => ?_)
          · refine v_iload (pc' := 382) dX5_command_380 rfl rfl ?_
            refine v_iload_n (pc' := 383) dX5_command_382 rfl rfl ?_
            refine v_bipush (pc' := 385) dX5_command_383 kb_10 rfl ?_
            refine v_irem (pc' := 386) dX5_command_385 (by decide) rfl ?_
            rw [show nI (f) - nI (f) / (10 : Int32) * 10 = nI ((f) % 10) from pk_rem (d := 10) (by omega) (by omega) (by omega)]
            refine v_icmp_ne (tgt := 393) (pc' := 389) dX5_command_386 (by decide) rfl (fun c_386 => ?_) (fun c_386 => ?_)
            · refine v_iconst (pc' := 394) dX5_command_393 kc_0 rfl ?_
              exact v_zret dX5_command_394 rfl (Nat.le_refl _) (Nat.le_refl _) rfl ⟨_, rfl, rfl, rfl, (by first | (rw [q_b8, decide_eq_false c2]; rfl) | (rw [q_b8, decide_eq_true c2, c_353]; rfl) | (rw [q_b8, decide_eq_true c2, c_353, Bool.true_and, Bool.true_and]; first
                    | (rw [show (9 : Int32) = nI 9 from rfl, nI_eq (by omega) (by omega)] at c_386
                       by_cases h9 : f % 10 = 9
                       · first | exact absurd h9.symm c_386 | (rw [if_pos h9, c_372]; rfl)
                       · first | exact absurd c_386.symm h9 | (rw [if_neg h9, c_372, decide_eq_false (fun q => nI_m1 (by omega) q.symm)]; rfl))
                    | (by_cases h9 : f % 10 = 9
                       · rw [if_pos h9, decide_eq_false c_372]
                         first
                           | rfl
                           | (exfalso
                              rcases htk with q | ⟨u, hu, q, -⟩
                              · exact c_372 q
                              · rw [q, nI_eq (by omega) (by omega)] at c_386; omega)
                       · rw [if_neg h9]; first | (rw [decide_eq_true c_386]; rfl) | (rw [decide_eq_false c_386]; rfl)))), (by first | exact (z_row_self I (d + 3)).symm)⟩
            · refine v_iconst (pc' := 390) dX5_command_389 kc_1 rfl ?_
              refine v_goto (tgt := 394) dX5_command_390 (by decide) ?_
              exact v_zret dX5_command_394 rfl (Nat.le_refl _) (Nat.le_refl _) rfl ⟨_, rfl, rfl, rfl, (by first | (rw [q_b8, decide_eq_false c2]; rfl) | (rw [q_b8, decide_eq_true c2, c_353]; rfl) | (rw [q_b8, decide_eq_true c2, c_353, Bool.true_and, Bool.true_and]; first
                    | (rw [show (9 : Int32) = nI 9 from rfl, nI_eq (by omega) (by omega)] at c_386
                       by_cases h9 : f % 10 = 9
                       · first | exact absurd h9.symm c_386 | (rw [if_pos h9, c_372]; rfl)
                       · first | exact absurd c_386.symm h9 | (rw [if_neg h9, c_372, decide_eq_false (fun q => nI_m1 (by omega) q.symm)]; rfl))
                    | (by_cases h9 : f % 10 = 9
                       · rw [if_pos h9, decide_eq_false c_372]
                         first
                           | rfl
                           | (exfalso
                              rcases htk with q | ⟨u, hu, q, -⟩
                              · exact c_372 q
                              · rw [q, nI_eq (by omega) (by omega)] at c_386; omega)
                       · rw [if_neg h9]; first | (rw [decide_eq_true c_386]; rfl) | (rw [decide_eq_false c_386]; rfl)))), (by first | exact (z_row_self I (d + 3)).symm)⟩
          · refine v_bipush (pc' := 377) dX5_command_375 kb_9 rfl ?_
            refine v_goto (tgt := 382) dX5_command_377 (by decide) ?_
            refine v_iload_n (pc' := 383) dX5_command_382 rfl rfl ?_
            refine v_bipush (pc' := 385) dX5_command_383 kb_10 rfl ?_
            refine v_irem (pc' := 386) dX5_command_385 (by decide) rfl ?_
            rw [show nI (f) - nI (f) / (10 : Int32) * 10 = nI ((f) % 10) from pk_rem (d := 10) (by omega) (by omega) (by omega)]
            refine v_icmp_ne (tgt := 393) (pc' := 389) dX5_command_386 (by decide) rfl (fun c_386 => ?_) (fun c_386 => ?_)
            · refine v_iconst (pc' := 394) dX5_command_393 kc_0 rfl ?_
              exact v_zret dX5_command_394 rfl (Nat.le_refl _) (Nat.le_refl _) rfl ⟨_, rfl, rfl, rfl, (by first | (rw [q_b8, decide_eq_false c2]; rfl) | (rw [q_b8, decide_eq_true c2, c_353]; rfl) | (rw [q_b8, decide_eq_true c2, c_353, Bool.true_and, Bool.true_and]; first
                    | (rw [show (9 : Int32) = nI 9 from rfl, nI_eq (by omega) (by omega)] at c_386
                       by_cases h9 : f % 10 = 9
                       · first | exact absurd h9.symm c_386 | (rw [if_pos h9, c_372]; rfl)
                       · first | exact absurd c_386.symm h9 | (rw [if_neg h9, c_372, decide_eq_false (fun q => nI_m1 (by omega) q.symm)]; rfl))
                    | (by_cases h9 : f % 10 = 9
                       · rw [if_pos h9, decide_eq_false c_372]
                         first
                           | rfl
                           | (exfalso
                              rcases htk with q | ⟨u, hu, q, -⟩
                              · exact c_372 q
                              · rw [q, nI_eq (by omega) (by omega)] at c_386; omega)
                       · rw [if_neg h9]; first | (rw [decide_eq_true c_386]; rfl) | (rw [decide_eq_false c_386]; rfl)))), (by first | exact (z_row_self I (d + 3)).symm)⟩
            · refine v_iconst (pc' := 390) dX5_command_389 kc_1 rfl ?_
              refine v_goto (tgt := 394) dX5_command_390 (by decide) ?_
              exact v_zret dX5_command_394 rfl (Nat.le_refl _) (Nat.le_refl _) rfl ⟨_, rfl, rfl, rfl, (by first | (rw [q_b8, decide_eq_false c2]; rfl) | (rw [q_b8, decide_eq_true c2, c_353]; rfl) | (rw [q_b8, decide_eq_true c2, c_353, Bool.true_and, Bool.true_and]; first
                    | (rw [show (9 : Int32) = nI 9 from rfl, nI_eq (by omega) (by omega)] at c_386
                       by_cases h9 : f % 10 = 9
                       · first | exact absurd h9.symm c_386 | (rw [if_pos h9, c_372]; rfl)
                       · first | exact absurd c_386.symm h9 | (rw [if_neg h9, c_372, decide_eq_false (fun q => nI_m1 (by omega) q.symm)]; rfl))
                    | (by_cases h9 : f % 10 = 9
                       · rw [if_pos h9, decide_eq_false c_372]
                         first
                           | rfl
                           | (exfalso
                              rcases htk with q | ⟨u, hu, q, -⟩
                              · exact c_372 q
                              · rw [q, nI_eq (by omega) (by omega)] at c_386; omega)
                       · rw [if_neg h9]; first | (rw [decide_eq_true c_386]; rfl) | (rw [decide_eq_false c_386]; rfl)))), (by first | exact (z_row_self I (d + 3)).symm)⟩
        · first | rw [z_b_ne0] at c_353 | rw [z_b_eq0] at c_353
          refine v_iconst (pc' := 357) dX5_command_356 kc_0 rfl ?_
          exact v_zret dX5_command_357 rfl (Nat.le_refl _) (Nat.le_refl _) rfl ⟨_, rfl, rfl, rfl, (by first | (rw [q_b8, decide_eq_false c2]; rfl) | (rw [q_b8, decide_eq_true c2, c_353]; rfl) | (rw [q_b8, decide_eq_true c2, c_353, Bool.true_and, Bool.true_and]; first
                | (rw [show (9 : Int32) = nI 9 from rfl, nI_eq (by omega) (by omega)] at c_386
                   by_cases h9 : f % 10 = 9
                   · first | exact absurd h9.symm c_386 | (rw [if_pos h9, c_372]; rfl)
                   · first | exact absurd c_386.symm h9 | (rw [if_neg h9, c_372, decide_eq_false (fun q => nI_m1 (by omega) q.symm)]; rfl))
                | (by_cases h9 : f % 10 = 9
                   · rw [if_pos h9, decide_eq_false c_372]
                     first
                       | rfl
                       | (exfalso
                          rcases htk with q | ⟨u, hu, q, -⟩
                          · exact c_372 q
                          · rw [q, nI_eq (by omega) (by omega)] at c_386; omega)
                   · rw [if_neg h9]; first | (rw [decide_eq_true c_386]; rfl) | (rw [decide_eq_false c_386]; rfl)))), (by first | exact (z_row_self I (d + 3)).symm)⟩
    · rw [nI_is0 (by omega)] at c_46
      refine v_iconst (pc' := 50) dX5_command_49 kc_1 rfl ?_
      refine v_goto (tgt := 54) dX5_command_50 (by decide) ?_
      refine v_istore8 (pc' := 56) dX5_command_54 (by decide) rfl rfl ?_
      refine v_iload_n (pc' := 57) dX5_command_56 rfl rfl ?_
      refine v_tableIn (tgt := 339) 7 dX5_command_57 (by rw [nI_toInt (by omega)]; omega) (by decide) rfl (by decide) ?_
      refine v_iload_n (pc' := 340) dX5_command_339 rfl rfl ?_
      refine v_bipush (pc' := 342) dX5_command_340 kb_100 rfl ?_
      refine v_irem (pc' := 343) dX5_command_342 (by decide) rfl ?_
      rw [show nI (f) - nI (f) / (100 : Int32) * 100 = nI ((f) % 100) from pk_rem (d := 100) (by omega) (by omega) (by omega)]
      refine v_bipush (pc' := 345) dX5_command_343 kb_9 rfl ?_
      refine v_icmp_gt (tgt := 356) (pc' := 348) dX5_command_345 (by decide) rfl (fun c_345 => ?_) (fun c_345 => ?_)
      · rw [show (9 : Int32) = nI 9 from rfl, nI_ltI (by omega) (by omega)] at c_345
        have c2 : ¬ f % 100 ≤ 9 := by omega
        refine v_iconst (pc' := 357) dX5_command_356 kc_0 rfl ?_
        exact v_zret dX5_command_357 rfl (Nat.le_refl _) (Nat.le_refl _) rfl ⟨_, rfl, rfl, rfl, (by first | (rw [q_b8, decide_eq_false c2]; rfl) | (rw [q_b8, decide_eq_true c2, c_353]; rfl) | (rw [q_b8, decide_eq_true c2, c_353, Bool.true_and, Bool.true_and]; first
              | (rw [show (9 : Int32) = nI 9 from rfl, nI_eq (by omega) (by omega)] at c_386
                 by_cases h9 : f % 10 = 9
                 · first | exact absurd h9.symm c_386 | (rw [if_pos h9, c_372]; rfl)
                 · first | exact absurd c_386.symm h9 | (rw [if_neg h9, c_372, decide_eq_false (fun q => nI_m1 (by omega) q.symm)]; rfl))
              | (by_cases h9 : f % 10 = 9
                 · rw [if_pos h9, decide_eq_false c_372]
                   first
                     | rfl
                     | (exfalso
                        rcases htk with q | ⟨u, hu, q, -⟩
                        · exact c_372 q
                        · rw [q, nI_eq (by omega) (by omega)] at c_386; omega)
                 · rw [if_neg h9]; first | (rw [decide_eq_true c_386]; rfl) | (rw [decide_eq_false c_386]; rfl)))), (by first | exact (z_row_self I (d + 3)).symm)⟩
      · rw [show (9 : Int32) = nI 9 from rfl, nI_ltI (by omega) (by omega)] at c_345
        have c2 : f % 100 ≤ 9 := by omega
        refine v_iload (pc' := 350) dX5_command_348 rfl rfl ?_
        refine v_cSR (pc' := 353) (c5_isStripe hl (nI (f / 100))) dX5_command_350 lk_X5_65 mwX5_isStripe msX5_isStripe rfl rfl (by decide) (Nat.le_of_ble_eq_true rfl) rfl ?_
        refine v_if_ne (tgt := 358) (pc' := 356) dX5_command_353 (by decide) rfl (fun c_353 => ?_) (fun c_353 => ?_)
        · first | rw [z_b_ne0] at c_353 | rw [z_b_eq0] at c_353
          refine v_aload_n (pc' := 359) dX5_command_358 rfl rfl ?_
          refine g_X5_16 (pc' := 362) rfl dX5_command_359 (by assumption) rfl ?_
          refine v_iload (pc' := 364) dX5_command_362 rfl rfl ?_
          refine v_cSR (pc' := 367) (c5_taker hl kR hR (nI (f / 100))) dX5_command_364 lk_X5_51 mwX5_taker msX5_taker rfl rfl (by decide) (Nat.le_of_ble_eq_true rfl) rfl ?_
          have htk := p_taker_cases (I (d + 3)) (nI (f / 100))
          refine v_istore9 (pc' := 369) dX5_command_367 (by decide) rfl rfl ?_
          refine v_iload (pc' := 371) dX5_command_369 rfl rfl ?_
          refine v_iconst (pc' := 372) dX5_command_371 kc_m1 rfl ?_
          refine v_icmp_ne (tgt := 380) (pc' := 375) dX5_command_372 (by decide) rfl (fun c_372 => ?_) (fun c_372 => ?_)
          · refine v_iload (pc' := 382) dX5_command_380 rfl rfl ?_
            refine v_iload_n (pc' := 383) dX5_command_382 rfl rfl ?_
            refine v_bipush (pc' := 385) dX5_command_383 kb_10 rfl ?_
            refine v_irem (pc' := 386) dX5_command_385 (by decide) rfl ?_
            rw [show nI (f) - nI (f) / (10 : Int32) * 10 = nI ((f) % 10) from pk_rem (d := 10) (by omega) (by omega) (by omega)]
            refine v_icmp_ne (tgt := 393) (pc' := 389) dX5_command_386 (by decide) rfl (fun c_386 => ?_) (fun c_386 => ?_)
            · refine v_iconst (pc' := 394) dX5_command_393 kc_0 rfl ?_
              exact v_zret dX5_command_394 rfl (Nat.le_refl _) (Nat.le_refl _) rfl ⟨_, rfl, rfl, rfl, (by first | (rw [q_b8, decide_eq_false c2]; rfl) | (rw [q_b8, decide_eq_true c2, c_353]; rfl) | (rw [q_b8, decide_eq_true c2, c_353, Bool.true_and, Bool.true_and]; first
                    | (rw [show (9 : Int32) = nI 9 from rfl, nI_eq (by omega) (by omega)] at c_386
                       by_cases h9 : f % 10 = 9
                       · first | exact absurd h9.symm c_386 | (rw [if_pos h9, c_372]; rfl)
                       · first | exact absurd c_386.symm h9 | (rw [if_neg h9, c_372, decide_eq_false (fun q => nI_m1 (by omega) q.symm)]; rfl))
                    | (by_cases h9 : f % 10 = 9
                       · rw [if_pos h9, decide_eq_false c_372]
                         first
                           | rfl
                           | (exfalso
                              rcases htk with q | ⟨u, hu, q, -⟩
                              · exact c_372 q
                              · rw [q, nI_eq (by omega) (by omega)] at c_386; omega)
                       · rw [if_neg h9]; first | (rw [decide_eq_true c_386]; rfl) | (rw [decide_eq_false c_386]; rfl)))), (by first | exact (z_row_self I (d + 3)).symm)⟩
            · refine v_iconst (pc' := 390) dX5_command_389 kc_1 rfl ?_
              refine v_goto (tgt := 394) dX5_command_390 (by decide) ?_
              exact v_zret dX5_command_394 rfl (Nat.le_refl _) (Nat.le_refl _) rfl ⟨_, rfl, rfl, rfl, (by first | (rw [q_b8, decide_eq_false c2]; rfl) | (rw [q_b8, decide_eq_true c2, c_353]; rfl) | (rw [q_b8, decide_eq_true c2, c_353, Bool.true_and, Bool.true_and]; first
                    | (rw [show (9 : Int32) = nI 9 from rfl, nI_eq (by omega) (by omega)] at c_386
                       by_cases h9 : f % 10 = 9
                       · first | exact absurd h9.symm c_386 | (rw [if_pos h9, c_372]; rfl)
                       · first | exact absurd c_386.symm h9 | (rw [if_neg h9, c_372, decide_eq_false (fun q => nI_m1 (by omega) q.symm)]; rfl))
                    | (by_cases h9 : f % 10 = 9
                       · rw [if_pos h9, decide_eq_false c_372]
                         first
                           | rfl
                           | (exfalso
                              rcases htk with q | ⟨u, hu, q, -⟩
                              · exact c_372 q
                              · rw [q, nI_eq (by omega) (by omega)] at c_386; omega)
                       · rw [if_neg h9]; first | (rw [decide_eq_true c_386]; rfl) | (rw [decide_eq_false c_386]; rfl)))), (by first | exact (z_row_self I (d + 3)).symm)⟩
          · refine v_bipush (pc' := 377) dX5_command_375 kb_9 rfl ?_
            refine v_goto (tgt := 382) dX5_command_377 (by decide) ?_
            refine v_iload_n (pc' := 383) dX5_command_382 rfl rfl ?_
            refine v_bipush (pc' := 385) dX5_command_383 kb_10 rfl ?_
            refine v_irem (pc' := 386) dX5_command_385 (by decide) rfl ?_
            rw [show nI (f) - nI (f) / (10 : Int32) * 10 = nI ((f) % 10) from pk_rem (d := 10) (by omega) (by omega) (by omega)]
            refine v_icmp_ne (tgt := 393) (pc' := 389) dX5_command_386 (by decide) rfl (fun c_386 => ?_) (fun c_386 => ?_)
            · refine v_iconst (pc' := 394) dX5_command_393 kc_0 rfl ?_
              exact v_zret dX5_command_394 rfl (Nat.le_refl _) (Nat.le_refl _) rfl ⟨_, rfl, rfl, rfl, (by first | (rw [q_b8, decide_eq_false c2]; rfl) | (rw [q_b8, decide_eq_true c2, c_353]; rfl) | (rw [q_b8, decide_eq_true c2, c_353, Bool.true_and, Bool.true_and]; first
                    | (rw [show (9 : Int32) = nI 9 from rfl, nI_eq (by omega) (by omega)] at c_386
                       by_cases h9 : f % 10 = 9
                       · first | exact absurd h9.symm c_386 | (rw [if_pos h9, c_372]; rfl)
                       · first | exact absurd c_386.symm h9 | (rw [if_neg h9, c_372, decide_eq_false (fun q => nI_m1 (by omega) q.symm)]; rfl))
                    | (by_cases h9 : f % 10 = 9
                       · rw [if_pos h9, decide_eq_false c_372]
                         first
                           | rfl
                           | (exfalso
                              rcases htk with q | ⟨u, hu, q, -⟩
                              · exact c_372 q
                              · rw [q, nI_eq (by omega) (by omega)] at c_386; omega)
                       · rw [if_neg h9]; first | (rw [decide_eq_true c_386]; rfl) | (rw [decide_eq_false c_386]; rfl)))), (by first | exact (z_row_self I (d + 3)).symm)⟩
            · refine v_iconst (pc' := 390) dX5_command_389 kc_1 rfl ?_
              refine v_goto (tgt := 394) dX5_command_390 (by decide) ?_
              exact v_zret dX5_command_394 rfl (Nat.le_refl _) (Nat.le_refl _) rfl ⟨_, rfl, rfl, rfl, (by first | (rw [q_b8, decide_eq_false c2]; rfl) | (rw [q_b8, decide_eq_true c2, c_353]; rfl) | (rw [q_b8, decide_eq_true c2, c_353, Bool.true_and, Bool.true_and]; first
                    | (rw [show (9 : Int32) = nI 9 from rfl, nI_eq (by omega) (by omega)] at c_386
                       by_cases h9 : f % 10 = 9
                       · first | exact absurd h9.symm c_386 | (rw [if_pos h9, c_372]; rfl)
                       · first | exact absurd c_386.symm h9 | (rw [if_neg h9, c_372, decide_eq_false (fun q => nI_m1 (by omega) q.symm)]; rfl))
                    | (by_cases h9 : f % 10 = 9
                       · rw [if_pos h9, decide_eq_false c_372]
                         first
                           | rfl
                           | (exfalso
                              rcases htk with q | ⟨u, hu, q, -⟩
                              · exact c_372 q
                              · rw [q, nI_eq (by omega) (by omega)] at c_386; omega)
                       · rw [if_neg h9]; first | (rw [decide_eq_true c_386]; rfl) | (rw [decide_eq_false c_386]; rfl)))), (by first | exact (z_row_self I (d + 3)).symm)⟩
        · first | rw [z_b_ne0] at c_353 | rw [z_b_eq0] at c_353
          refine v_iconst (pc' := 357) dX5_command_356 kc_0 rfl ?_
          exact v_zret dX5_command_357 rfl (Nat.le_refl _) (Nat.le_refl _) rfl ⟨_, rfl, rfl, rfl, (by first | (rw [q_b8, decide_eq_false c2]; rfl) | (rw [q_b8, decide_eq_true c2, c_353]; rfl) | (rw [q_b8, decide_eq_true c2, c_353, Bool.true_and, Bool.true_and]; first
                | (rw [show (9 : Int32) = nI 9 from rfl, nI_eq (by omega) (by omega)] at c_386
                   by_cases h9 : f % 10 = 9
                   · first | exact absurd h9.symm c_386 | (rw [if_pos h9, c_372]; rfl)
                   · first | exact absurd c_386.symm h9 | (rw [if_neg h9, c_372, decide_eq_false (fun q => nI_m1 (by omega) q.symm)]; rfl))
                | (by_cases h9 : f % 10 = 9
                   · rw [if_pos h9, decide_eq_false c_372]
                     first
                       | rfl
                       | (exfalso
                          rcases htk with q | ⟨u, hu, q, -⟩
                          · exact c_372 q
                          · rw [q, nI_eq (by omega) (by omega)] at c_386; omega)
                   · rw [if_neg h9]; first | (rw [decide_eq_true c_386]; rfl) | (rw [decide_eq_false c_386]; rfl)))), (by first | exact (z_row_self I (d + 3)).symm)⟩
  · rw [nI_is0 (by omega)] at c_32
    refine v_iconst (pc' := 36) dX5_command_35 kc_1 rfl ?_
    refine v_goto (tgt := 40) dX5_command_36 (by decide) ?_
    refine v_istore7 (pc' := 42) dX5_command_40 (by decide) rfl rfl ?_
    refine v_iload_n (pc' := 43) dX5_command_42 rfl rfl ?_
    refine v_bipush (pc' := 45) dX5_command_43 kb_100 rfl ?_
    refine v_irem (pc' := 46) dX5_command_45 (by decide) rfl ?_
    rw [show nI (f) - nI (f) / (100 : Int32) * 100 = nI ((f) % 100) from pk_rem (d := 100) (by omega) (by omega) (by omega)]
    refine v_if_ne (tgt := 53) (pc' := 49) dX5_command_46 (by decide) rfl (fun c_46 => ?_) (fun c_46 => ?_)
    · rw [nI_is0 (by omega)] at c_46
      refine v_iconst (pc' := 54) dX5_command_53 kc_0 rfl ?_
      refine v_istore8 (pc' := 56) dX5_command_54 (by decide) rfl rfl ?_
      refine v_iload_n (pc' := 57) dX5_command_56 rfl rfl ?_
      refine v_tableIn (tgt := 339) 7 dX5_command_57 (by rw [nI_toInt (by omega)]; omega) (by decide) rfl (by decide) ?_
      refine v_iload_n (pc' := 340) dX5_command_339 rfl rfl ?_
      refine v_bipush (pc' := 342) dX5_command_340 kb_100 rfl ?_
      refine v_irem (pc' := 343) dX5_command_342 (by decide) rfl ?_
      rw [show nI (f) - nI (f) / (100 : Int32) * 100 = nI ((f) % 100) from pk_rem (d := 100) (by omega) (by omega) (by omega)]
      refine v_bipush (pc' := 345) dX5_command_343 kb_9 rfl ?_
      refine v_icmp_gt (tgt := 356) (pc' := 348) dX5_command_345 (by decide) rfl (fun c_345 => ?_) (fun c_345 => ?_)
      · rw [show (9 : Int32) = nI 9 from rfl, nI_ltI (by omega) (by omega)] at c_345
        have c2 : ¬ f % 100 ≤ 9 := by omega
        refine v_iconst (pc' := 357) dX5_command_356 kc_0 rfl ?_
        exact v_zret dX5_command_357 rfl (Nat.le_refl _) (Nat.le_refl _) rfl ⟨_, rfl, rfl, rfl, (by first | (rw [q_b8, decide_eq_false c2]; rfl) | (rw [q_b8, decide_eq_true c2, c_353]; rfl) | (rw [q_b8, decide_eq_true c2, c_353, Bool.true_and, Bool.true_and]; first
              | (rw [show (9 : Int32) = nI 9 from rfl, nI_eq (by omega) (by omega)] at c_386
                 by_cases h9 : f % 10 = 9
                 · first | exact absurd h9.symm c_386 | (rw [if_pos h9, c_372]; rfl)
                 · first | exact absurd c_386.symm h9 | (rw [if_neg h9, c_372, decide_eq_false (fun q => nI_m1 (by omega) q.symm)]; rfl))
              | (by_cases h9 : f % 10 = 9
                 · rw [if_pos h9, decide_eq_false c_372]
                   first
                     | rfl
                     | (exfalso
                        rcases htk with q | ⟨u, hu, q, -⟩
                        · exact c_372 q
                        · rw [q, nI_eq (by omega) (by omega)] at c_386; omega)
                 · rw [if_neg h9]; first | (rw [decide_eq_true c_386]; rfl) | (rw [decide_eq_false c_386]; rfl)))), (by first | exact (z_row_self I (d + 3)).symm)⟩
      · rw [show (9 : Int32) = nI 9 from rfl, nI_ltI (by omega) (by omega)] at c_345
        have c2 : f % 100 ≤ 9 := by omega
        refine v_iload (pc' := 350) dX5_command_348 rfl rfl ?_
        refine v_cSR (pc' := 353) (c5_isStripe hl (nI (f / 100))) dX5_command_350 lk_X5_65 mwX5_isStripe msX5_isStripe rfl rfl (by decide) (Nat.le_of_ble_eq_true rfl) rfl ?_
        refine v_if_ne (tgt := 358) (pc' := 356) dX5_command_353 (by decide) rfl (fun c_353 => ?_) (fun c_353 => ?_)
        · first | rw [z_b_ne0] at c_353 | rw [z_b_eq0] at c_353
          refine v_aload_n (pc' := 359) dX5_command_358 rfl rfl ?_
          refine g_X5_16 (pc' := 362) rfl dX5_command_359 (by assumption) rfl ?_
          refine v_iload (pc' := 364) dX5_command_362 rfl rfl ?_
          refine v_cSR (pc' := 367) (c5_taker hl kR hR (nI (f / 100))) dX5_command_364 lk_X5_51 mwX5_taker msX5_taker rfl rfl (by decide) (Nat.le_of_ble_eq_true rfl) rfl ?_
          have htk := p_taker_cases (I (d + 3)) (nI (f / 100))
          refine v_istore9 (pc' := 369) dX5_command_367 (by decide) rfl rfl ?_
          refine v_iload (pc' := 371) dX5_command_369 rfl rfl ?_
          refine v_iconst (pc' := 372) dX5_command_371 kc_m1 rfl ?_
          refine v_icmp_ne (tgt := 380) (pc' := 375) dX5_command_372 (by decide) rfl (fun c_372 => ?_) (fun c_372 => ?_)
          · refine v_iload (pc' := 382) dX5_command_380 rfl rfl ?_
            refine v_iload_n (pc' := 383) dX5_command_382 rfl rfl ?_
            refine v_bipush (pc' := 385) dX5_command_383 kb_10 rfl ?_
            refine v_irem (pc' := 386) dX5_command_385 (by decide) rfl ?_
            rw [show nI (f) - nI (f) / (10 : Int32) * 10 = nI ((f) % 10) from pk_rem (d := 10) (by omega) (by omega) (by omega)]
            refine v_icmp_ne (tgt := 393) (pc' := 389) dX5_command_386 (by decide) rfl (fun c_386 => ?_) (fun c_386 => ?_)
            · refine v_iconst (pc' := 394) dX5_command_393 kc_0 rfl ?_
              exact v_zret dX5_command_394 rfl (Nat.le_refl _) (Nat.le_refl _) rfl ⟨_, rfl, rfl, rfl, (by first | (rw [q_b8, decide_eq_false c2]; rfl) | (rw [q_b8, decide_eq_true c2, c_353]; rfl) | (rw [q_b8, decide_eq_true c2, c_353, Bool.true_and, Bool.true_and]; first
                    | (rw [show (9 : Int32) = nI 9 from rfl, nI_eq (by omega) (by omega)] at c_386
                       by_cases h9 : f % 10 = 9
                       · first | exact absurd h9.symm c_386 | (rw [if_pos h9, c_372]; rfl)
                       · first | exact absurd c_386.symm h9 | (rw [if_neg h9, c_372, decide_eq_false (fun q => nI_m1 (by omega) q.symm)]; rfl))
                    | (by_cases h9 : f % 10 = 9
                       · rw [if_pos h9, decide_eq_false c_372]
                         first
                           | rfl
                           | (exfalso
                              rcases htk with q | ⟨u, hu, q, -⟩
                              · exact c_372 q
                              · rw [q, nI_eq (by omega) (by omega)] at c_386; omega)
                       · rw [if_neg h9]; first | (rw [decide_eq_true c_386]; rfl) | (rw [decide_eq_false c_386]; rfl)))), (by first | exact (z_row_self I (d + 3)).symm)⟩
            · refine v_iconst (pc' := 390) dX5_command_389 kc_1 rfl ?_
              refine v_goto (tgt := 394) dX5_command_390 (by decide) ?_
              exact v_zret dX5_command_394 rfl (Nat.le_refl _) (Nat.le_refl _) rfl ⟨_, rfl, rfl, rfl, (by first | (rw [q_b8, decide_eq_false c2]; rfl) | (rw [q_b8, decide_eq_true c2, c_353]; rfl) | (rw [q_b8, decide_eq_true c2, c_353, Bool.true_and, Bool.true_and]; first
                    | (rw [show (9 : Int32) = nI 9 from rfl, nI_eq (by omega) (by omega)] at c_386
                       by_cases h9 : f % 10 = 9
                       · first | exact absurd h9.symm c_386 | (rw [if_pos h9, c_372]; rfl)
                       · first | exact absurd c_386.symm h9 | (rw [if_neg h9, c_372, decide_eq_false (fun q => nI_m1 (by omega) q.symm)]; rfl))
                    | (by_cases h9 : f % 10 = 9
                       · rw [if_pos h9, decide_eq_false c_372]
                         first
                           | rfl
                           | (exfalso
                              rcases htk with q | ⟨u, hu, q, -⟩
                              · exact c_372 q
                              · rw [q, nI_eq (by omega) (by omega)] at c_386; omega)
                       · rw [if_neg h9]; first | (rw [decide_eq_true c_386]; rfl) | (rw [decide_eq_false c_386]; rfl)))), (by first | exact (z_row_self I (d + 3)).symm)⟩
          · refine v_bipush (pc' := 377) dX5_command_375 kb_9 rfl ?_
            refine v_goto (tgt := 382) dX5_command_377 (by decide) ?_
            refine v_iload_n (pc' := 383) dX5_command_382 rfl rfl ?_
            refine v_bipush (pc' := 385) dX5_command_383 kb_10 rfl ?_
            refine v_irem (pc' := 386) dX5_command_385 (by decide) rfl ?_
            rw [show nI (f) - nI (f) / (10 : Int32) * 10 = nI ((f) % 10) from pk_rem (d := 10) (by omega) (by omega) (by omega)]
            refine v_icmp_ne (tgt := 393) (pc' := 389) dX5_command_386 (by decide) rfl (fun c_386 => ?_) (fun c_386 => ?_)
            · refine v_iconst (pc' := 394) dX5_command_393 kc_0 rfl ?_
              exact v_zret dX5_command_394 rfl (Nat.le_refl _) (Nat.le_refl _) rfl ⟨_, rfl, rfl, rfl, (by first | (rw [q_b8, decide_eq_false c2]; rfl) | (rw [q_b8, decide_eq_true c2, c_353]; rfl) | (rw [q_b8, decide_eq_true c2, c_353, Bool.true_and, Bool.true_and]; first
                    | (rw [show (9 : Int32) = nI 9 from rfl, nI_eq (by omega) (by omega)] at c_386
                       by_cases h9 : f % 10 = 9
                       · first | exact absurd h9.symm c_386 | (rw [if_pos h9, c_372]; rfl)
                       · first | exact absurd c_386.symm h9 | (rw [if_neg h9, c_372, decide_eq_false (fun q => nI_m1 (by omega) q.symm)]; rfl))
                    | (by_cases h9 : f % 10 = 9
                       · rw [if_pos h9, decide_eq_false c_372]
                         first
                           | rfl
                           | (exfalso
                              rcases htk with q | ⟨u, hu, q, -⟩
                              · exact c_372 q
                              · rw [q, nI_eq (by omega) (by omega)] at c_386; omega)
                       · rw [if_neg h9]; first | (rw [decide_eq_true c_386]; rfl) | (rw [decide_eq_false c_386]; rfl)))), (by first | exact (z_row_self I (d + 3)).symm)⟩
            · refine v_iconst (pc' := 390) dX5_command_389 kc_1 rfl ?_
              refine v_goto (tgt := 394) dX5_command_390 (by decide) ?_
              exact v_zret dX5_command_394 rfl (Nat.le_refl _) (Nat.le_refl _) rfl ⟨_, rfl, rfl, rfl, (by first | (rw [q_b8, decide_eq_false c2]; rfl) | (rw [q_b8, decide_eq_true c2, c_353]; rfl) | (rw [q_b8, decide_eq_true c2, c_353, Bool.true_and, Bool.true_and]; first
                    | (rw [show (9 : Int32) = nI 9 from rfl, nI_eq (by omega) (by omega)] at c_386
                       by_cases h9 : f % 10 = 9
                       · first | exact absurd h9.symm c_386 | (rw [if_pos h9, c_372]; rfl)
                       · first | exact absurd c_386.symm h9 | (rw [if_neg h9, c_372, decide_eq_false (fun q => nI_m1 (by omega) q.symm)]; rfl))
                    | (by_cases h9 : f % 10 = 9
                       · rw [if_pos h9, decide_eq_false c_372]
                         first
                           | rfl
                           | (exfalso
                              rcases htk with q | ⟨u, hu, q, -⟩
                              · exact c_372 q
                              · rw [q, nI_eq (by omega) (by omega)] at c_386; omega)
                       · rw [if_neg h9]; first | (rw [decide_eq_true c_386]; rfl) | (rw [decide_eq_false c_386]; rfl)))), (by first | exact (z_row_self I (d + 3)).symm)⟩
        · first | rw [z_b_ne0] at c_353 | rw [z_b_eq0] at c_353
          refine v_iconst (pc' := 357) dX5_command_356 kc_0 rfl ?_
          exact v_zret dX5_command_357 rfl (Nat.le_refl _) (Nat.le_refl _) rfl ⟨_, rfl, rfl, rfl, (by first | (rw [q_b8, decide_eq_false c2]; rfl) | (rw [q_b8, decide_eq_true c2, c_353]; rfl) | (rw [q_b8, decide_eq_true c2, c_353, Bool.true_and, Bool.true_and]; first
                | (rw [show (9 : Int32) = nI 9 from rfl, nI_eq (by omega) (by omega)] at c_386
                   by_cases h9 : f % 10 = 9
                   · first | exact absurd h9.symm c_386 | (rw [if_pos h9, c_372]; rfl)
                   · first | exact absurd c_386.symm h9 | (rw [if_neg h9, c_372, decide_eq_false (fun q => nI_m1 (by omega) q.symm)]; rfl))
                | (by_cases h9 : f % 10 = 9
                   · rw [if_pos h9, decide_eq_false c_372]
                     first
                       | rfl
                       | (exfalso
                          rcases htk with q | ⟨u, hu, q, -⟩
                          · exact c_372 q
                          · rw [q, nI_eq (by omega) (by omega)] at c_386; omega)
                   · rw [if_neg h9]; first | (rw [decide_eq_true c_386]; rfl) | (rw [decide_eq_false c_386]; rfl)))), (by first | exact (z_row_self I (d + 3)).symm)⟩
    · rw [nI_is0 (by omega)] at c_46
      refine v_iconst (pc' := 50) dX5_command_49 kc_1 rfl ?_
      refine v_goto (tgt := 54) dX5_command_50 (by decide) ?_
      refine v_istore8 (pc' := 56) dX5_command_54 (by decide) rfl rfl ?_
      refine v_iload_n (pc' := 57) dX5_command_56 rfl rfl ?_
      refine v_tableIn (tgt := 339) 7 dX5_command_57 (by rw [nI_toInt (by omega)]; omega) (by decide) rfl (by decide) ?_
      refine v_iload_n (pc' := 340) dX5_command_339 rfl rfl ?_
      refine v_bipush (pc' := 342) dX5_command_340 kb_100 rfl ?_
      refine v_irem (pc' := 343) dX5_command_342 (by decide) rfl ?_
      rw [show nI (f) - nI (f) / (100 : Int32) * 100 = nI ((f) % 100) from pk_rem (d := 100) (by omega) (by omega) (by omega)]
      refine v_bipush (pc' := 345) dX5_command_343 kb_9 rfl ?_
      refine v_icmp_gt (tgt := 356) (pc' := 348) dX5_command_345 (by decide) rfl (fun c_345 => ?_) (fun c_345 => ?_)
      · rw [show (9 : Int32) = nI 9 from rfl, nI_ltI (by omega) (by omega)] at c_345
        have c2 : ¬ f % 100 ≤ 9 := by omega
        refine v_iconst (pc' := 357) dX5_command_356 kc_0 rfl ?_
        exact v_zret dX5_command_357 rfl (Nat.le_refl _) (Nat.le_refl _) rfl ⟨_, rfl, rfl, rfl, (by first | (rw [q_b8, decide_eq_false c2]; rfl) | (rw [q_b8, decide_eq_true c2, c_353]; rfl) | (rw [q_b8, decide_eq_true c2, c_353, Bool.true_and, Bool.true_and]; first
              | (rw [show (9 : Int32) = nI 9 from rfl, nI_eq (by omega) (by omega)] at c_386
                 by_cases h9 : f % 10 = 9
                 · first | exact absurd h9.symm c_386 | (rw [if_pos h9, c_372]; rfl)
                 · first | exact absurd c_386.symm h9 | (rw [if_neg h9, c_372, decide_eq_false (fun q => nI_m1 (by omega) q.symm)]; rfl))
              | (by_cases h9 : f % 10 = 9
                 · rw [if_pos h9, decide_eq_false c_372]
                   first
                     | rfl
                     | (exfalso
                        rcases htk with q | ⟨u, hu, q, -⟩
                        · exact c_372 q
                        · rw [q, nI_eq (by omega) (by omega)] at c_386; omega)
                 · rw [if_neg h9]; first | (rw [decide_eq_true c_386]; rfl) | (rw [decide_eq_false c_386]; rfl)))), (by first | exact (z_row_self I (d + 3)).symm)⟩
      · rw [show (9 : Int32) = nI 9 from rfl, nI_ltI (by omega) (by omega)] at c_345
        have c2 : f % 100 ≤ 9 := by omega
        refine v_iload (pc' := 350) dX5_command_348 rfl rfl ?_
        refine v_cSR (pc' := 353) (c5_isStripe hl (nI (f / 100))) dX5_command_350 lk_X5_65 mwX5_isStripe msX5_isStripe rfl rfl (by decide) (Nat.le_of_ble_eq_true rfl) rfl ?_
        refine v_if_ne (tgt := 358) (pc' := 356) dX5_command_353 (by decide) rfl (fun c_353 => ?_) (fun c_353 => ?_)
        · first | rw [z_b_ne0] at c_353 | rw [z_b_eq0] at c_353
          refine v_aload_n (pc' := 359) dX5_command_358 rfl rfl ?_
          refine g_X5_16 (pc' := 362) rfl dX5_command_359 (by assumption) rfl ?_
          refine v_iload (pc' := 364) dX5_command_362 rfl rfl ?_
          refine v_cSR (pc' := 367) (c5_taker hl kR hR (nI (f / 100))) dX5_command_364 lk_X5_51 mwX5_taker msX5_taker rfl rfl (by decide) (Nat.le_of_ble_eq_true rfl) rfl ?_
          have htk := p_taker_cases (I (d + 3)) (nI (f / 100))
          refine v_istore9 (pc' := 369) dX5_command_367 (by decide) rfl rfl ?_
          refine v_iload (pc' := 371) dX5_command_369 rfl rfl ?_
          refine v_iconst (pc' := 372) dX5_command_371 kc_m1 rfl ?_
          refine v_icmp_ne (tgt := 380) (pc' := 375) dX5_command_372 (by decide) rfl (fun c_372 => ?_) (fun c_372 => ?_)
          · refine v_iload (pc' := 382) dX5_command_380 rfl rfl ?_
            refine v_iload_n (pc' := 383) dX5_command_382 rfl rfl ?_
            refine v_bipush (pc' := 385) dX5_command_383 kb_10 rfl ?_
            refine v_irem (pc' := 386) dX5_command_385 (by decide) rfl ?_
            rw [show nI (f) - nI (f) / (10 : Int32) * 10 = nI ((f) % 10) from pk_rem (d := 10) (by omega) (by omega) (by omega)]
            refine v_icmp_ne (tgt := 393) (pc' := 389) dX5_command_386 (by decide) rfl (fun c_386 => ?_) (fun c_386 => ?_)
            · refine v_iconst (pc' := 394) dX5_command_393 kc_0 rfl ?_
              exact v_zret dX5_command_394 rfl (Nat.le_refl _) (Nat.le_refl _) rfl ⟨_, rfl, rfl, rfl, (by first | (rw [q_b8, decide_eq_false c2]; rfl) | (rw [q_b8, decide_eq_true c2, c_353]; rfl) | (rw [q_b8, decide_eq_true c2, c_353, Bool.true_and, Bool.true_and]; first
                    | (rw [show (9 : Int32) = nI 9 from rfl, nI_eq (by omega) (by omega)] at c_386
                       by_cases h9 : f % 10 = 9
                       · first | exact absurd h9.symm c_386 | (rw [if_pos h9, c_372]; rfl)
                       · first | exact absurd c_386.symm h9 | (rw [if_neg h9, c_372, decide_eq_false (fun q => nI_m1 (by omega) q.symm)]; rfl))
                    | (by_cases h9 : f % 10 = 9
                       · rw [if_pos h9, decide_eq_false c_372]
                         first
                           | rfl
                           | (exfalso
                              rcases htk with q | ⟨u, hu, q, -⟩
                              · exact c_372 q
                              · rw [q, nI_eq (by omega) (by omega)] at c_386; omega)
                       · rw [if_neg h9]; first | (rw [decide_eq_true c_386]; rfl) | (rw [decide_eq_false c_386]; rfl)))), (by first | exact (z_row_self I (d + 3)).symm)⟩
            · refine v_iconst (pc' := 390) dX5_command_389 kc_1 rfl ?_
              refine v_goto (tgt := 394) dX5_command_390 (by decide) ?_
              exact v_zret dX5_command_394 rfl (Nat.le_refl _) (Nat.le_refl _) rfl ⟨_, rfl, rfl, rfl, (by first | (rw [q_b8, decide_eq_false c2]; rfl) | (rw [q_b8, decide_eq_true c2, c_353]; rfl) | (rw [q_b8, decide_eq_true c2, c_353, Bool.true_and, Bool.true_and]; first
                    | (rw [show (9 : Int32) = nI 9 from rfl, nI_eq (by omega) (by omega)] at c_386
                       by_cases h9 : f % 10 = 9
                       · first | exact absurd h9.symm c_386 | (rw [if_pos h9, c_372]; rfl)
                       · first | exact absurd c_386.symm h9 | (rw [if_neg h9, c_372, decide_eq_false (fun q => nI_m1 (by omega) q.symm)]; rfl))
                    | (by_cases h9 : f % 10 = 9
                       · rw [if_pos h9, decide_eq_false c_372]
                         first
                           | rfl
                           | (exfalso
                              rcases htk with q | ⟨u, hu, q, -⟩
                              · exact c_372 q
                              · rw [q, nI_eq (by omega) (by omega)] at c_386; omega)
                       · rw [if_neg h9]; first | (rw [decide_eq_true c_386]; rfl) | (rw [decide_eq_false c_386]; rfl)))), (by first | exact (z_row_self I (d + 3)).symm)⟩
          · refine v_bipush (pc' := 377) dX5_command_375 kb_9 rfl ?_
            refine v_goto (tgt := 382) dX5_command_377 (by decide) ?_
            refine v_iload_n (pc' := 383) dX5_command_382 rfl rfl ?_
            refine v_bipush (pc' := 385) dX5_command_383 kb_10 rfl ?_
            refine v_irem (pc' := 386) dX5_command_385 (by decide) rfl ?_
            rw [show nI (f) - nI (f) / (10 : Int32) * 10 = nI ((f) % 10) from pk_rem (d := 10) (by omega) (by omega) (by omega)]
            refine v_icmp_ne (tgt := 393) (pc' := 389) dX5_command_386 (by decide) rfl (fun c_386 => ?_) (fun c_386 => ?_)
            · refine v_iconst (pc' := 394) dX5_command_393 kc_0 rfl ?_
              exact v_zret dX5_command_394 rfl (Nat.le_refl _) (Nat.le_refl _) rfl ⟨_, rfl, rfl, rfl, (by first | (rw [q_b8, decide_eq_false c2]; rfl) | (rw [q_b8, decide_eq_true c2, c_353]; rfl) | (rw [q_b8, decide_eq_true c2, c_353, Bool.true_and, Bool.true_and]; first
                    | (rw [show (9 : Int32) = nI 9 from rfl, nI_eq (by omega) (by omega)] at c_386
                       by_cases h9 : f % 10 = 9
                       · first | exact absurd h9.symm c_386 | (rw [if_pos h9, c_372]; rfl)
                       · first | exact absurd c_386.symm h9 | (rw [if_neg h9, c_372, decide_eq_false (fun q => nI_m1 (by omega) q.symm)]; rfl))
                    | (by_cases h9 : f % 10 = 9
                       · rw [if_pos h9, decide_eq_false c_372]
                         first
                           | rfl
                           | (exfalso
                              rcases htk with q | ⟨u, hu, q, -⟩
                              · exact c_372 q
                              · rw [q, nI_eq (by omega) (by omega)] at c_386; omega)
                       · rw [if_neg h9]; first | (rw [decide_eq_true c_386]; rfl) | (rw [decide_eq_false c_386]; rfl)))), (by first | exact (z_row_self I (d + 3)).symm)⟩
            · refine v_iconst (pc' := 390) dX5_command_389 kc_1 rfl ?_
              refine v_goto (tgt := 394) dX5_command_390 (by decide) ?_
              exact v_zret dX5_command_394 rfl (Nat.le_refl _) (Nat.le_refl _) rfl ⟨_, rfl, rfl, rfl, (by first | (rw [q_b8, decide_eq_false c2]; rfl) | (rw [q_b8, decide_eq_true c2, c_353]; rfl) | (rw [q_b8, decide_eq_true c2, c_353, Bool.true_and, Bool.true_and]; first
                    | (rw [show (9 : Int32) = nI 9 from rfl, nI_eq (by omega) (by omega)] at c_386
                       by_cases h9 : f % 10 = 9
                       · first | exact absurd h9.symm c_386 | (rw [if_pos h9, c_372]; rfl)
                       · first | exact absurd c_386.symm h9 | (rw [if_neg h9, c_372, decide_eq_false (fun q => nI_m1 (by omega) q.symm)]; rfl))
                    | (by_cases h9 : f % 10 = 9
                       · rw [if_pos h9, decide_eq_false c_372]
                         first
                           | rfl
                           | (exfalso
                              rcases htk with q | ⟨u, hu, q, -⟩
                              · exact c_372 q
                              · rw [q, nI_eq (by omega) (by omega)] at c_386; omega)
                       · rw [if_neg h9]; first | (rw [decide_eq_true c_386]; rfl) | (rw [decide_eq_false c_386]; rfl)))), (by first | exact (z_row_self I (d + 3)).symm)⟩
        · first | rw [z_b_ne0] at c_353 | rw [z_b_eq0] at c_353
          refine v_iconst (pc' := 357) dX5_command_356 kc_0 rfl ?_
          exact v_zret dX5_command_357 rfl (Nat.le_refl _) (Nat.le_refl _) rfl ⟨_, rfl, rfl, rfl, (by first | (rw [q_b8, decide_eq_false c2]; rfl) | (rw [q_b8, decide_eq_true c2, c_353]; rfl) | (rw [q_b8, decide_eq_true c2, c_353, Bool.true_and, Bool.true_and]; first
                | (rw [show (9 : Int32) = nI 9 from rfl, nI_eq (by omega) (by omega)] at c_386
                   by_cases h9 : f % 10 = 9
                   · first | exact absurd h9.symm c_386 | (rw [if_pos h9, c_372]; rfl)
                   · first | exact absurd c_386.symm h9 | (rw [if_neg h9, c_372, decide_eq_false (fun q => nI_m1 (by omega) q.symm)]; rfl))
                | (by_cases h9 : f % 10 = 9
                   · rw [if_pos h9, decide_eq_false c_372]
                     first
                       | rfl
                       | (exfalso
                          rcases htk with q | ⟨u, hu, q, -⟩
                          · exact c_372 q
                          · rw [q, nI_eq (by omega) (by omega)] at c_386; omega)
                   · rw [if_neg h9]; first | (rw [decide_eq_true c_386]; rfl) | (rw [decide_eq_false c_386]; rfl)))), (by first | exact (z_row_self I (d + 3)).symm)⟩
set_option maxRecDepth 20000 in
set_option maxHeartbeats 4000000 in
theorem m_cmd_9 (hl : l.stackTraces = false) (hK : ShM E G d) (hR : WF (I (d + 3))) (f : Nat) (hf : f < 10000) : z_CI E l mX5_command 5 [.ref d, .int (nI 9), .int (nI f)] G I sz (fun y9 I' => y9 = z_b (q_gb (I (d + 3)) 9 f) ∧ I' = z_row I (d + 3) (q_g (I (d + 3)) 9 f)) := by
  obtain ⟨k0, kT, kN, kR, kD, kP, kF⟩ := id hK
  have h6 := hR.1.1
  refine z_Ct.of hl pn_X5 [some (.ref d), some (.int (nI 9)), some (.int (nI f)), none, none, none, none, none, none, none] rfl (Nat.le_of_ble_eq_true rfl) ?_
  refine v_iload_n (pc' := 1) dX5_command_0 rfl rfl ?_
  refine v_sipush (pc' := 4) dX5_command_1 ks_1000 rfl ?_
  refine v_idiv (pc' := 5) dX5_command_4 (by decide) rfl ?_
  rw [show nI (f) / (1000 : Int32) = nI ((f) / 1000) from pk_div (d := 1000) (by omega) (by omega) (by omega)]
  refine v_istore_n3 (pc' := 6) dX5_command_5 (by decide) rfl rfl ?_
  refine v_iload_n (pc' := 7) dX5_command_6 rfl rfl ?_
  refine v_bipush (pc' := 9) dX5_command_7 kb_100 rfl ?_
  refine v_idiv (pc' := 10) dX5_command_9 (by decide) rfl ?_
  rw [show nI (f) / (100 : Int32) = nI ((f) / 100) from pk_div (d := 100) (by omega) (by omega) (by omega)]
  refine v_istore4 (pc' := 12) dX5_command_10 (by decide) rfl rfl ?_
  refine v_iload_n (pc' := 13) dX5_command_12 rfl rfl ?_
  refine v_bipush (pc' := 15) dX5_command_13 kb_10 rfl ?_
  refine v_idiv (pc' := 16) dX5_command_15 (by decide) rfl ?_
  rw [show nI (f) / (10 : Int32) = nI ((f) / 10) from pk_div (d := 10) (by omega) (by omega) (by omega)]
  refine v_bipush (pc' := 18) dX5_command_16 kb_100 rfl ?_
  refine v_irem (pc' := 19) dX5_command_18 (by decide) rfl ?_
  rw [show nI (f / 10) - nI (f / 10) / (100 : Int32) * 100 = nI ((f / 10) % 100) from pk_rem (d := 100) (by omega) (by omega) (by omega)]
  refine v_istore5 (pc' := 21) dX5_command_19 (by decide) rfl rfl ?_
  refine v_iload_n (pc' := 22) dX5_command_21 rfl rfl ?_
  refine v_sipush (pc' := 25) dX5_command_22 ks_1000 rfl ?_
  refine v_irem (pc' := 26) dX5_command_25 (by decide) rfl ?_
  rw [show nI (f) - nI (f) / (1000 : Int32) * 1000 = nI ((f) % 1000) from pk_rem (d := 1000) (by omega) (by omega) (by omega)]
  refine v_istore6 (pc' := 28) dX5_command_26 (by decide) rfl rfl ?_
  refine v_iload_n (pc' := 29) dX5_command_28 rfl rfl ?_
  refine v_bipush (pc' := 31) dX5_command_29 kb_10 rfl ?_
  refine v_irem (pc' := 32) dX5_command_31 (by decide) rfl ?_
  rw [show nI (f) - nI (f) / (10 : Int32) * 10 = nI ((f) % 10) from pk_rem (d := 10) (by omega) (by omega) (by omega)]
  refine v_if_ne (tgt := 39) (pc' := 35) dX5_command_32 (by decide) rfl (fun c_32 => ?_) (fun c_32 => ?_)
  · rw [nI_is0 (by omega)] at c_32
    refine v_iconst (pc' := 40) dX5_command_39 kc_0 rfl ?_
    refine v_istore7 (pc' := 42) dX5_command_40 (by decide) rfl rfl ?_
    refine v_iload_n (pc' := 43) dX5_command_42 rfl rfl ?_
    refine v_bipush (pc' := 45) dX5_command_43 kb_100 rfl ?_
    refine v_irem (pc' := 46) dX5_command_45 (by decide) rfl ?_
    rw [show nI (f) - nI (f) / (100 : Int32) * 100 = nI ((f) % 100) from pk_rem (d := 100) (by omega) (by omega) (by omega)]
    refine v_if_ne (tgt := 53) (pc' := 49) dX5_command_46 (by decide) rfl (fun c_46 => ?_) (fun c_46 => ?_)
    · rw [nI_is0 (by omega)] at c_46
      refine v_iconst (pc' := 54) dX5_command_53 kc_0 rfl ?_
      refine v_istore8 (pc' := 56) dX5_command_54 (by decide) rfl rfl ?_
      refine v_iload_n (pc' := 57) dX5_command_56 rfl rfl ?_
      refine v_tableIn (tgt := 395) 8 dX5_command_57 (by rw [nI_toInt (by omega)]; omega) (by decide) rfl (by decide) ?_
      refine v_iload_n (pc' := 396) dX5_command_395 rfl rfl ?_
      refine v_bipush (pc' := 398) dX5_command_396 kb_100 rfl ?_
      refine v_icmp_ge (tgt := 416) (pc' := 401) dX5_command_398 (by decide) rfl (fun c_398 => ?_) (fun c_398 => ?_)
      · rw [show (100 : Int32) = nI 100 from rfl, nI_leI (by omega) (by omega)] at c_398
        have c2 : ¬ f / 100 = 0 := by omega
        refine v_iconst (pc' := 417) dX5_command_416 kc_0 rfl ?_
        exact v_zret dX5_command_417 rfl (Nat.le_refl _) (Nat.le_refl _) rfl ⟨_, rfl, rfl, rfl, (by first | (rw [q_b9, decide_eq_false c2]; rfl) | (rw [q_b9, decide_eq_true c2, show f % 100 = f by omega]; simp [z_b, c_409]; done)), (by first | exact (z_row_self I (d + 3)).symm)⟩
      · rw [show (100 : Int32) = nI 100 from rfl, nI_leI (by omega) (by omega)] at c_398
        have c2 : f / 100 = 0 := by omega
        refine v_aload_n (pc' := 402) dX5_command_401 rfl rfl ?_
        refine g_X5_16 (pc' := 405) rfl dX5_command_402 (by assumption) rfl ?_
        refine v_cSR (pc' := 408) (c5_idle hl kR hR) dX5_command_405 lk_X5_185 mwX5_idle msX5_idle rfl rfl (by decide) (Nat.le_of_ble_eq_true rfl) rfl ?_
        refine v_iload_n (pc' := 409) dX5_command_408 rfl rfl ?_
        refine v_icmp_gt (tgt := 416) (pc' := 412) dX5_command_409 (by decide) rfl (fun c_409 => ?_) (fun c_409 => ?_)
        · rw [← Int32.not_le] at c_409
          refine v_iconst (pc' := 417) dX5_command_416 kc_0 rfl ?_
          exact v_zret dX5_command_417 rfl (Nat.le_refl _) (Nat.le_refl _) rfl ⟨_, rfl, rfl, rfl, (by first | (rw [q_b9, decide_eq_false c2]; rfl) | (rw [q_b9, decide_eq_true c2, show f % 100 = f by omega]; simp [z_b, c_409]; done)), (by first | exact (z_row_self I (d + 3)).symm)⟩
        · rw [Int32.not_lt] at c_409
          refine v_iconst (pc' := 413) dX5_command_412 kc_1 rfl ?_
          refine v_goto (tgt := 417) dX5_command_413 (by decide) ?_
          exact v_zret dX5_command_417 rfl (Nat.le_refl _) (Nat.le_refl _) rfl ⟨_, rfl, rfl, rfl, (by first | (rw [q_b9, decide_eq_false c2]; rfl) | (rw [q_b9, decide_eq_true c2, show f % 100 = f by omega]; simp [z_b, c_409]; done)), (by first | exact (z_row_self I (d + 3)).symm)⟩
    · rw [nI_is0 (by omega)] at c_46
      refine v_iconst (pc' := 50) dX5_command_49 kc_1 rfl ?_
      refine v_goto (tgt := 54) dX5_command_50 (by decide) ?_
      refine v_istore8 (pc' := 56) dX5_command_54 (by decide) rfl rfl ?_
      refine v_iload_n (pc' := 57) dX5_command_56 rfl rfl ?_
      refine v_tableIn (tgt := 395) 8 dX5_command_57 (by rw [nI_toInt (by omega)]; omega) (by decide) rfl (by decide) ?_
      refine v_iload_n (pc' := 396) dX5_command_395 rfl rfl ?_
      refine v_bipush (pc' := 398) dX5_command_396 kb_100 rfl ?_
      refine v_icmp_ge (tgt := 416) (pc' := 401) dX5_command_398 (by decide) rfl (fun c_398 => ?_) (fun c_398 => ?_)
      · rw [show (100 : Int32) = nI 100 from rfl, nI_leI (by omega) (by omega)] at c_398
        have c2 : ¬ f / 100 = 0 := by omega
        refine v_iconst (pc' := 417) dX5_command_416 kc_0 rfl ?_
        exact v_zret dX5_command_417 rfl (Nat.le_refl _) (Nat.le_refl _) rfl ⟨_, rfl, rfl, rfl, (by first | (rw [q_b9, decide_eq_false c2]; rfl) | (rw [q_b9, decide_eq_true c2, show f % 100 = f by omega]; simp [z_b, c_409]; done)), (by first | exact (z_row_self I (d + 3)).symm)⟩
      · rw [show (100 : Int32) = nI 100 from rfl, nI_leI (by omega) (by omega)] at c_398
        have c2 : f / 100 = 0 := by omega
        refine v_aload_n (pc' := 402) dX5_command_401 rfl rfl ?_
        refine g_X5_16 (pc' := 405) rfl dX5_command_402 (by assumption) rfl ?_
        refine v_cSR (pc' := 408) (c5_idle hl kR hR) dX5_command_405 lk_X5_185 mwX5_idle msX5_idle rfl rfl (by decide) (Nat.le_of_ble_eq_true rfl) rfl ?_
        refine v_iload_n (pc' := 409) dX5_command_408 rfl rfl ?_
        refine v_icmp_gt (tgt := 416) (pc' := 412) dX5_command_409 (by decide) rfl (fun c_409 => ?_) (fun c_409 => ?_)
        · rw [← Int32.not_le] at c_409
          refine v_iconst (pc' := 417) dX5_command_416 kc_0 rfl ?_
          exact v_zret dX5_command_417 rfl (Nat.le_refl _) (Nat.le_refl _) rfl ⟨_, rfl, rfl, rfl, (by first | (rw [q_b9, decide_eq_false c2]; rfl) | (rw [q_b9, decide_eq_true c2, show f % 100 = f by omega]; simp [z_b, c_409]; done)), (by first | exact (z_row_self I (d + 3)).symm)⟩
        · rw [Int32.not_lt] at c_409
          refine v_iconst (pc' := 413) dX5_command_412 kc_1 rfl ?_
          refine v_goto (tgt := 417) dX5_command_413 (by decide) ?_
          exact v_zret dX5_command_417 rfl (Nat.le_refl _) (Nat.le_refl _) rfl ⟨_, rfl, rfl, rfl, (by first | (rw [q_b9, decide_eq_false c2]; rfl) | (rw [q_b9, decide_eq_true c2, show f % 100 = f by omega]; simp [z_b, c_409]; done)), (by first | exact (z_row_self I (d + 3)).symm)⟩
  · rw [nI_is0 (by omega)] at c_32
    refine v_iconst (pc' := 36) dX5_command_35 kc_1 rfl ?_
    refine v_goto (tgt := 40) dX5_command_36 (by decide) ?_
    refine v_istore7 (pc' := 42) dX5_command_40 (by decide) rfl rfl ?_
    refine v_iload_n (pc' := 43) dX5_command_42 rfl rfl ?_
    refine v_bipush (pc' := 45) dX5_command_43 kb_100 rfl ?_
    refine v_irem (pc' := 46) dX5_command_45 (by decide) rfl ?_
    rw [show nI (f) - nI (f) / (100 : Int32) * 100 = nI ((f) % 100) from pk_rem (d := 100) (by omega) (by omega) (by omega)]
    refine v_if_ne (tgt := 53) (pc' := 49) dX5_command_46 (by decide) rfl (fun c_46 => ?_) (fun c_46 => ?_)
    · rw [nI_is0 (by omega)] at c_46
      refine v_iconst (pc' := 54) dX5_command_53 kc_0 rfl ?_
      refine v_istore8 (pc' := 56) dX5_command_54 (by decide) rfl rfl ?_
      refine v_iload_n (pc' := 57) dX5_command_56 rfl rfl ?_
      refine v_tableIn (tgt := 395) 8 dX5_command_57 (by rw [nI_toInt (by omega)]; omega) (by decide) rfl (by decide) ?_
      refine v_iload_n (pc' := 396) dX5_command_395 rfl rfl ?_
      refine v_bipush (pc' := 398) dX5_command_396 kb_100 rfl ?_
      refine v_icmp_ge (tgt := 416) (pc' := 401) dX5_command_398 (by decide) rfl (fun c_398 => ?_) (fun c_398 => ?_)
      · rw [show (100 : Int32) = nI 100 from rfl, nI_leI (by omega) (by omega)] at c_398
        have c2 : ¬ f / 100 = 0 := by omega
        refine v_iconst (pc' := 417) dX5_command_416 kc_0 rfl ?_
        exact v_zret dX5_command_417 rfl (Nat.le_refl _) (Nat.le_refl _) rfl ⟨_, rfl, rfl, rfl, (by first | (rw [q_b9, decide_eq_false c2]; rfl) | (rw [q_b9, decide_eq_true c2, show f % 100 = f by omega]; simp [z_b, c_409]; done)), (by first | exact (z_row_self I (d + 3)).symm)⟩
      · rw [show (100 : Int32) = nI 100 from rfl, nI_leI (by omega) (by omega)] at c_398
        have c2 : f / 100 = 0 := by omega
        refine v_aload_n (pc' := 402) dX5_command_401 rfl rfl ?_
        refine g_X5_16 (pc' := 405) rfl dX5_command_402 (by assumption) rfl ?_
        refine v_cSR (pc' := 408) (c5_idle hl kR hR) dX5_command_405 lk_X5_185 mwX5_idle msX5_idle rfl rfl (by decide) (Nat.le_of_ble_eq_true rfl) rfl ?_
        refine v_iload_n (pc' := 409) dX5_command_408 rfl rfl ?_
        refine v_icmp_gt (tgt := 416) (pc' := 412) dX5_command_409 (by decide) rfl (fun c_409 => ?_) (fun c_409 => ?_)
        · rw [← Int32.not_le] at c_409
          refine v_iconst (pc' := 417) dX5_command_416 kc_0 rfl ?_
          exact v_zret dX5_command_417 rfl (Nat.le_refl _) (Nat.le_refl _) rfl ⟨_, rfl, rfl, rfl, (by first | (rw [q_b9, decide_eq_false c2]; rfl) | (rw [q_b9, decide_eq_true c2, show f % 100 = f by omega]; simp [z_b, c_409]; done)), (by first | exact (z_row_self I (d + 3)).symm)⟩
        · rw [Int32.not_lt] at c_409
          refine v_iconst (pc' := 413) dX5_command_412 kc_1 rfl ?_
          refine v_goto (tgt := 417) dX5_command_413 (by decide) ?_
          exact v_zret dX5_command_417 rfl (Nat.le_refl _) (Nat.le_refl _) rfl ⟨_, rfl, rfl, rfl, (by first | (rw [q_b9, decide_eq_false c2]; rfl) | (rw [q_b9, decide_eq_true c2, show f % 100 = f by omega]; simp [z_b, c_409]; done)), (by first | exact (z_row_self I (d + 3)).symm)⟩
    · rw [nI_is0 (by omega)] at c_46
      refine v_iconst (pc' := 50) dX5_command_49 kc_1 rfl ?_
      refine v_goto (tgt := 54) dX5_command_50 (by decide) ?_
      refine v_istore8 (pc' := 56) dX5_command_54 (by decide) rfl rfl ?_
      refine v_iload_n (pc' := 57) dX5_command_56 rfl rfl ?_
      refine v_tableIn (tgt := 395) 8 dX5_command_57 (by rw [nI_toInt (by omega)]; omega) (by decide) rfl (by decide) ?_
      refine v_iload_n (pc' := 396) dX5_command_395 rfl rfl ?_
      refine v_bipush (pc' := 398) dX5_command_396 kb_100 rfl ?_
      refine v_icmp_ge (tgt := 416) (pc' := 401) dX5_command_398 (by decide) rfl (fun c_398 => ?_) (fun c_398 => ?_)
      · rw [show (100 : Int32) = nI 100 from rfl, nI_leI (by omega) (by omega)] at c_398
        have c2 : ¬ f / 100 = 0 := by omega
        refine v_iconst (pc' := 417) dX5_command_416 kc_0 rfl ?_
        exact v_zret dX5_command_417 rfl (Nat.le_refl _) (Nat.le_refl _) rfl ⟨_, rfl, rfl, rfl, (by first | (rw [q_b9, decide_eq_false c2]; rfl) | (rw [q_b9, decide_eq_true c2, show f % 100 = f by omega]; simp [z_b, c_409]; done)), (by first | exact (z_row_self I (d + 3)).symm)⟩
      · rw [show (100 : Int32) = nI 100 from rfl, nI_leI (by omega) (by omega)] at c_398
        have c2 : f / 100 = 0 := by omega
        refine v_aload_n (pc' := 402) dX5_command_401 rfl rfl ?_
        refine g_X5_16 (pc' := 405) rfl dX5_command_402 (by assumption) rfl ?_
        refine v_cSR (pc' := 408) (c5_idle hl kR hR) dX5_command_405 lk_X5_185 mwX5_idle msX5_idle rfl rfl (by decide) (Nat.le_of_ble_eq_true rfl) rfl ?_
        refine v_iload_n (pc' := 409) dX5_command_408 rfl rfl ?_
        refine v_icmp_gt (tgt := 416) (pc' := 412) dX5_command_409 (by decide) rfl (fun c_409 => ?_) (fun c_409 => ?_)
        · rw [← Int32.not_le] at c_409
          refine v_iconst (pc' := 417) dX5_command_416 kc_0 rfl ?_
          exact v_zret dX5_command_417 rfl (Nat.le_refl _) (Nat.le_refl _) rfl ⟨_, rfl, rfl, rfl, (by first | (rw [q_b9, decide_eq_false c2]; rfl) | (rw [q_b9, decide_eq_true c2, show f % 100 = f by omega]; simp [z_b, c_409]; done)), (by first | exact (z_row_self I (d + 3)).symm)⟩
        · rw [Int32.not_lt] at c_409
          refine v_iconst (pc' := 413) dX5_command_412 kc_1 rfl ?_
          refine v_goto (tgt := 417) dX5_command_413 (by decide) ?_
          exact v_zret dX5_command_417 rfl (Nat.le_refl _) (Nat.le_refl _) rfl ⟨_, rfl, rfl, rfl, (by first | (rw [q_b9, decide_eq_false c2]; rfl) | (rw [q_b9, decide_eq_true c2, show f % 100 = f by omega]; simp [z_b, c_409]; done)), (by first | exact (z_row_self I (d + 3)).symm)⟩
set_option maxRecDepth 20000 in
set_option maxHeartbeats 4000000 in
theorem m_cmd_0 (hl : l.stackTraces = false) (hK : ShM E G d) (hR : WF (I (d + 3))) (f : Nat) (hf : f < 10000) : z_CI E l mX5_command 5 [.ref d, .int (nI 0), .int (nI f)] G I sz (fun y9 I' => y9 = z_b (q_gb (I (d + 3)) 0 f) ∧ I' = z_row I (d + 3) (q_g (I (d + 3)) 0 f)) := by
  obtain ⟨k0, kT, kN, kR, kD, kP, kF⟩ := id hK
  have h6 := hR.1.1
  refine z_Ct.of hl pn_X5 [some (.ref d), some (.int (nI 0)), some (.int (nI f)), none, none, none, none, none, none, none] rfl (Nat.le_of_ble_eq_true rfl) ?_
  refine v_iload_n (pc' := 1) dX5_command_0 rfl rfl ?_
  refine v_sipush (pc' := 4) dX5_command_1 ks_1000 rfl ?_
  refine v_idiv (pc' := 5) dX5_command_4 (by decide) rfl ?_
  rw [show nI (f) / (1000 : Int32) = nI ((f) / 1000) from pk_div (d := 1000) (by omega) (by omega) (by omega)]
  refine v_istore_n3 (pc' := 6) dX5_command_5 (by decide) rfl rfl ?_
  refine v_iload_n (pc' := 7) dX5_command_6 rfl rfl ?_
  refine v_bipush (pc' := 9) dX5_command_7 kb_100 rfl ?_
  refine v_idiv (pc' := 10) dX5_command_9 (by decide) rfl ?_
  rw [show nI (f) / (100 : Int32) = nI ((f) / 100) from pk_div (d := 100) (by omega) (by omega) (by omega)]
  refine v_istore4 (pc' := 12) dX5_command_10 (by decide) rfl rfl ?_
  refine v_iload_n (pc' := 13) dX5_command_12 rfl rfl ?_
  refine v_bipush (pc' := 15) dX5_command_13 kb_10 rfl ?_
  refine v_idiv (pc' := 16) dX5_command_15 (by decide) rfl ?_
  rw [show nI (f) / (10 : Int32) = nI ((f) / 10) from pk_div (d := 10) (by omega) (by omega) (by omega)]
  refine v_bipush (pc' := 18) dX5_command_16 kb_100 rfl ?_
  refine v_irem (pc' := 19) dX5_command_18 (by decide) rfl ?_
  rw [show nI (f / 10) - nI (f / 10) / (100 : Int32) * 100 = nI ((f / 10) % 100) from pk_rem (d := 100) (by omega) (by omega) (by omega)]
  refine v_istore5 (pc' := 21) dX5_command_19 (by decide) rfl rfl ?_
  refine v_iload_n (pc' := 22) dX5_command_21 rfl rfl ?_
  refine v_sipush (pc' := 25) dX5_command_22 ks_1000 rfl ?_
  refine v_irem (pc' := 26) dX5_command_25 (by decide) rfl ?_
  rw [show nI (f) - nI (f) / (1000 : Int32) * 1000 = nI ((f) % 1000) from pk_rem (d := 1000) (by omega) (by omega) (by omega)]
  refine v_istore6 (pc' := 28) dX5_command_26 (by decide) rfl rfl ?_
  refine v_iload_n (pc' := 29) dX5_command_28 rfl rfl ?_
  refine v_bipush (pc' := 31) dX5_command_29 kb_10 rfl ?_
  refine v_irem (pc' := 32) dX5_command_31 (by decide) rfl ?_
  rw [show nI (f) - nI (f) / (10 : Int32) * 10 = nI ((f) % 10) from pk_rem (d := 10) (by omega) (by omega) (by omega)]
  refine v_if_ne (tgt := 39) (pc' := 35) dX5_command_32 (by decide) rfl (fun c_32 => ?_) (fun c_32 => ?_)
  · rw [nI_is0 (by omega)] at c_32
    refine v_iconst (pc' := 40) dX5_command_39 kc_0 rfl ?_
    refine v_istore7 (pc' := 42) dX5_command_40 (by decide) rfl rfl ?_
    refine v_iload_n (pc' := 43) dX5_command_42 rfl rfl ?_
    refine v_bipush (pc' := 45) dX5_command_43 kb_100 rfl ?_
    refine v_irem (pc' := 46) dX5_command_45 (by decide) rfl ?_
    rw [show nI (f) - nI (f) / (100 : Int32) * 100 = nI ((f) % 100) from pk_rem (d := 100) (by omega) (by omega) (by omega)]
    refine v_if_ne (tgt := 53) (pc' := 49) dX5_command_46 (by decide) rfl (fun c_46 => ?_) (fun c_46 => ?_)
    · rw [nI_is0 (by omega)] at c_46
      refine v_iconst (pc' := 54) dX5_command_53 kc_0 rfl ?_
      refine v_istore8 (pc' := 56) dX5_command_54 (by decide) rfl rfl ?_
      refine v_iload_n (pc' := 57) dX5_command_56 rfl rfl ?_
      refine v_tableOut (tgt := 418) dX5_command_57 (by rw [nI_toInt (by omega)]; omega) (by decide) ?_
      refine v_iconst (pc' := 419) dX5_command_418 kc_0 rfl ?_
      exact v_zret dX5_command_419 rfl (Nat.le_refl _) (Nat.le_refl _) rfl ⟨_, rfl, rfl, rfl, (by first | rfl), (by first | exact (z_row_self I (d + 3)).symm)⟩
    · rw [nI_is0 (by omega)] at c_46
      refine v_iconst (pc' := 50) dX5_command_49 kc_1 rfl ?_
      refine v_goto (tgt := 54) dX5_command_50 (by decide) ?_
      refine v_istore8 (pc' := 56) dX5_command_54 (by decide) rfl rfl ?_
      refine v_iload_n (pc' := 57) dX5_command_56 rfl rfl ?_
      refine v_tableOut (tgt := 418) dX5_command_57 (by rw [nI_toInt (by omega)]; omega) (by decide) ?_
      refine v_iconst (pc' := 419) dX5_command_418 kc_0 rfl ?_
      exact v_zret dX5_command_419 rfl (Nat.le_refl _) (Nat.le_refl _) rfl ⟨_, rfl, rfl, rfl, (by first | rfl), (by first | exact (z_row_self I (d + 3)).symm)⟩
  · rw [nI_is0 (by omega)] at c_32
    refine v_iconst (pc' := 36) dX5_command_35 kc_1 rfl ?_
    refine v_goto (tgt := 40) dX5_command_36 (by decide) ?_
    refine v_istore7 (pc' := 42) dX5_command_40 (by decide) rfl rfl ?_
    refine v_iload_n (pc' := 43) dX5_command_42 rfl rfl ?_
    refine v_bipush (pc' := 45) dX5_command_43 kb_100 rfl ?_
    refine v_irem (pc' := 46) dX5_command_45 (by decide) rfl ?_
    rw [show nI (f) - nI (f) / (100 : Int32) * 100 = nI ((f) % 100) from pk_rem (d := 100) (by omega) (by omega) (by omega)]
    refine v_if_ne (tgt := 53) (pc' := 49) dX5_command_46 (by decide) rfl (fun c_46 => ?_) (fun c_46 => ?_)
    · rw [nI_is0 (by omega)] at c_46
      refine v_iconst (pc' := 54) dX5_command_53 kc_0 rfl ?_
      refine v_istore8 (pc' := 56) dX5_command_54 (by decide) rfl rfl ?_
      refine v_iload_n (pc' := 57) dX5_command_56 rfl rfl ?_
      refine v_tableOut (tgt := 418) dX5_command_57 (by rw [nI_toInt (by omega)]; omega) (by decide) ?_
      refine v_iconst (pc' := 419) dX5_command_418 kc_0 rfl ?_
      exact v_zret dX5_command_419 rfl (Nat.le_refl _) (Nat.le_refl _) rfl ⟨_, rfl, rfl, rfl, (by first | rfl), (by first | exact (z_row_self I (d + 3)).symm)⟩
    · rw [nI_is0 (by omega)] at c_46
      refine v_iconst (pc' := 50) dX5_command_49 kc_1 rfl ?_
      refine v_goto (tgt := 54) dX5_command_50 (by decide) ?_
      refine v_istore8 (pc' := 56) dX5_command_54 (by decide) rfl rfl ?_
      refine v_iload_n (pc' := 57) dX5_command_56 rfl rfl ?_
      refine v_tableOut (tgt := 418) dX5_command_57 (by rw [nI_toInt (by omega)]; omega) (by decide) ?_
      refine v_iconst (pc' := 419) dX5_command_418 kc_0 rfl ?_
      exact v_zret dX5_command_419 rfl (Nat.le_refl _) (Nat.le_refl _) rfl ⟨_, rfl, rfl, rfl, (by first | rfl), (by first | exact (z_row_self I (d + 3)).symm)⟩
theorem m_command (hl : l.stackTraces = false) (hK : ShM E G d) (hR : WF (I (d + 3))) (how f : Nat) (hh : how ≤ 9) (hf : f < 10000) : z_CI E l mX5_command 5 [.ref d, .int (nI how), .int (nI f)] G I sz (fun y9 I' => y9 = z_b (q_gb (I (d + 3)) how f) ∧ I' = z_row I (d + 3) (q_g (I (d + 3)) how f)) := by
  rcases (by omega : how = 0 ∨ how = 1 ∨ how = 2 ∨ how = 3 ∨ how = 4 ∨ how = 5 ∨ how = 6 ∨ how = 7 ∨ how = 8 ∨ how = 9) with rfl | rfl | rfl | rfl | rfl | rfl | rfl | rfl | rfl | rfl
  · exact m_cmd_0 hl hK hR f hf
  · exact m_cmd_1 hl hK hR f hf
  · exact m_cmd_2 hl hK hR f hf
  · exact m_cmd_3 hl hK hR f hf
  · exact m_cmd_4 hl hK hR f hf
  · exact m_cmd_5 hl hK hR f hf
  · exact m_cmd_6 hl hK hR f hf
  · exact m_cmd_7 hl hK hR f hf
  · exact m_cmd_8 hl hK hR f hf
  · exact m_cmd_9 hl hK hR f hf
end MOD6
