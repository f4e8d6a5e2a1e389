/-! THE REFERENCE's own methods: simulations, gaps (written by wip/whole/gen_mod4.py) -/
section MOD4
variable {E : zE} {l : Launch} {G : zG} {I : zI} {sz d a : Nat} {S : zS}
set_option maxRecDepth 20000 in
set_option maxHeartbeats 4000000 in
theorem c5_turn_0 (hl : l.stackTraces = false) (hq : (a, sI E 0 65) ∈ G) (hW : WF (I a)) (x : Nat) (hx : x < 2 ^ 31) (hc : x % 8 = 0) : z_CV E l mX5_turn 5 [.ref a, .int (nI x)] G I sz (fun I' => I' = z_row I a (q_turn (I a) x)) := by
  have hc6 := hW.1.1
  refine z_Ct.of hl pn_X5 [some (.ref a), some (.int (nI x)), none] rfl (Nat.le_of_ble_eq_true rfl) ?_
  refine v_iload_n (pc' := 1) dX5_turn_0 rfl rfl ?_
  refine v_bipush (pc' := 3) dX5_turn_1 kb_8 rfl ?_
  refine v_idiv (pc' := 4) dX5_turn_3 (by decide) rfl ?_
  rw [show nI (x) / (8 : Int32) = nI ((x) / 8) from pk_div (d := 8) (by omega) (by omega) (by omega)]
  refine v_istore_n2 (pc' := 5) dX5_turn_4 (by decide) rfl rfl ?_
  refine v_iload_n (pc' := 6) dX5_turn_5 rfl rfl ?_
  refine v_bipush (pc' := 8) dX5_turn_6 kb_8 rfl ?_
  refine v_irem (pc' := 9) dX5_turn_8 (by decide) rfl ?_
  rw [show nI (x) - nI (x) / (8 : Int32) * 8 = nI ((x) % 8) from pk_rem (d := 8) (by omega) (by omega) (by omega)]
  refine v_tableIn (tgt := 44) 0 dX5_turn_9 (by rw [nI_toInt (by omega)]; omega) (by decide) rfl (by decide) ?_
  refine v_aload_n (pc' := 45) dX5_turn_44 rfl rfl ?_
  refine v_iconst (pc' := 46) dX5_turn_45 kc_0 rfl ?_
  refine v_iald (pc' := 47) dX5_turn_46 (0) rfl (by assumption) (by decide) (by decide) rfl ?_
  rw [hW.1.2]
  refine v_bipush (pc' := 49) dX5_turn_47 kb_6 rfl ?_
  refine v_icmp_ge (tgt := 178) (pc' := 52) dX5_turn_49 (by decide) rfl (fun c_49 => ?_) (fun c_49 => ?_)
  · have c2 : ¬ cnt (I a) < 6 := fun q => nI_ge (b := 6) q (by omega) c_49
    exact v_vret dX5_turn_178 rfl (Nat.le_refl _) (Nat.le_refl _) ⟨rfl, rfl, rfl, by rw [q_turn, if_pos hc]; first | (rw [t_add, if_pos c2]; done) | (rw [t_add, if_neg c2, z_row_self]; done)⟩
  · have c2 : cnt (I a) < 6 := by
      rcases Nat.lt_or_ge (cnt (I a)) 6 with q | q
      · exact q
      · exact absurd (nI_le (a := 6) q (by omega)) c_49
    refine v_aload_n (pc' := 53) dX5_turn_52 rfl rfl ?_
    refine v_iconst (pc' := 54) dX5_turn_53 kc_1 rfl ?_
    refine v_iload_n (pc' := 55) dX5_turn_54 rfl rfl ?_
    refine v_bipush (pc' := 57) dX5_turn_55 kb_6 rfl ?_
    refine v_irem (pc' := 58) dX5_turn_57 (by decide) rfl ?_
    rw [show nI (x / 8) - nI (x / 8) / (6 : Int32) * 6 = nI ((x / 8) % 6) from pk_rem (d := 6) (by omega) (by omega) (by omega)]
    refine v_iadd (pc' := 59) dX5_turn_58 rfl ?_
    rw [show (1 + nI (x / 8 % 6) : Int32) = nI (1 + x / 8 % 6) from nI_add 1 _]
    refine v_iload_n (pc' := 60) dX5_turn_59 rfl rfl ?_
    refine v_bipush (pc' := 62) dX5_turn_60 kb_8 rfl ?_
    refine v_idiv (pc' := 63) dX5_turn_62 (by decide) rfl ?_
    rw [show nI (x / 8) / (8 : Int32) = nI ((x / 8) / 8) from pk_div (d := 8) (by omega) (by omega) (by omega)]
    refine v_sipush (pc' := 66) dX5_turn_63 ks_997 rfl ?_
    refine v_irem (pc' := 67) dX5_turn_66 (by decide) rfl ?_
    rw [show nI (x / 8 / 8) - nI (x / 8 / 8) / (997 : Int32) * 997 = nI ((x / 8 / 8) % 997) from pk_rem (d := 997) (by omega) (by omega) (by omega)]
    refine v_cSI (pc' := 70) (c5_addOn hl hq (nI (1 + x / 8 % 6)) (nI (x / 8 / 8 % 997)) hW.1.2 c2) dX5_turn_67 lk_X5_112 mwX5_addOn msX5_addOn rfl rfl (by decide) (Nat.le_of_ble_eq_true rfl) rfl ?_
    rintro _ _ ⟨rfl, rfl⟩
    refine v_pop (pc' := 71) dX5_turn_70 rfl rfl ?_
    refine v_goto (tgt := 178) dX5_turn_71 (by decide) ?_
    exact v_vret dX5_turn_178 rfl (Nat.le_refl _) (Nat.le_refl _) ⟨rfl, rfl, rfl, by rw [q_turn, if_pos hc]; first | (rw [t_add, if_pos c2]; done) | (rw [t_add, if_neg c2, z_row_self]; done)⟩
set_option maxRecDepth 20000 in
set_option maxHeartbeats 4000000 in
theorem c5_turn_1 (hl : l.stackTraces = false) (hq : (a, sI E 0 65) ∈ G) (hW : WF (I a)) (x : Nat) (hx : x < 2 ^ 31) (hc : x % 8 = 1) : z_CV E l mX5_turn 5 [.ref a, .int (nI x)] G I sz (fun I' => I' = z_row I a (q_turn (I a) x)) := by
  have hc6 := hW.1.1
  refine z_Ct.of hl pn_X5 [some (.ref a), some (.int (nI x)), none] rfl (Nat.le_of_ble_eq_true rfl) ?_
  refine v_iload_n (pc' := 1) dX5_turn_0 rfl rfl ?_
  refine v_bipush (pc' := 3) dX5_turn_1 kb_8 rfl ?_
  refine v_idiv (pc' := 4) dX5_turn_3 (by decide) rfl ?_
  rw [show nI (x) / (8 : Int32) = nI ((x) / 8) from pk_div (d := 8) (by omega) (by omega) (by omega)]
  refine v_istore_n2 (pc' := 5) dX5_turn_4 (by decide) rfl rfl ?_
  refine v_iload_n (pc' := 6) dX5_turn_5 rfl rfl ?_
  refine v_bipush (pc' := 8) dX5_turn_6 kb_8 rfl ?_
  refine v_irem (pc' := 9) dX5_turn_8 (by decide) rfl ?_
  rw [show nI (x) - nI (x) / (8 : Int32) * 8 = nI ((x) % 8) from pk_rem (d := 8) (by omega) (by omega) (by omega)]
  refine v_tableIn (tgt := 74) 1 dX5_turn_9 (by rw [nI_toInt (by omega)]; omega) (by decide) rfl (by decide) ?_
  refine v_aload_n (pc' := 75) dX5_turn_74 rfl rfl ?_
  refine v_iload_n (pc' := 76) dX5_turn_75 rfl rfl ?_
  refine v_bipush (pc' := 78) dX5_turn_76 kb_6 rfl ?_
  refine v_irem (pc' := 79) dX5_turn_78 (by decide) rfl ?_
  rw [show nI (x / 8) - nI (x / 8) / (6 : Int32) * 6 = nI ((x / 8) % 6) from pk_rem (d := 6) (by omega) (by omega) (by omega)]
  refine v_iload_n (pc' := 80) dX5_turn_79 rfl rfl ?_
  refine v_bipush (pc' := 82) dX5_turn_80 kb_8 rfl ?_
  refine v_idiv (pc' := 83) dX5_turn_82 (by decide) rfl ?_
  rw [show nI (x / 8) / (8 : Int32) = nI ((x / 8) / 8) from pk_div (d := 8) (by omega) (by omega) (by omega)]
  refine v_bipush (pc' := 85) dX5_turn_83 kb_12 rfl ?_
  refine v_irem (pc' := 86) dX5_turn_85 (by decide) rfl ?_
  rw [show nI (x / 8 / 8) - nI (x / 8 / 8) / (12 : Int32) * 12 = nI ((x / 8 / 8) % 12) from pk_rem (d := 12) (by omega) (by omega) (by omega)]
  refine v_cSR (pc' := 89) (c5_canBring hl hq hW (nI (x / 8 % 6)) (nI (x / 8 / 8 % 12))) dX5_turn_86 lk_X5_119 mwX5_canBring msX5_canBring rfl rfl (by decide) (Nat.le_of_ble_eq_true rfl) rfl ?_
  refine v_if_eq (tgt := 178) (pc' := 92) dX5_turn_89 (by decide) rfl (fun c_89 => ?_) (fun c_89 => ?_)
  · first | rw [z_b_ne0] at c_89 | rw [z_b_eq0] at c_89
    exact v_vret dX5_turn_178 rfl (Nat.le_refl _) (Nat.le_refl _) ⟨rfl, rfl, rfl, by rw [q_turn, if_neg (by omega), if_pos (by omega)]; first | (rw [t_job, if_pos c_89, nI_clamp (by omega)]; done) | (rw [t_job, c_89]; simp only [Bool.false_eq_true, if_false]; rw [z_row_self])⟩
  · first | rw [z_b_ne0] at c_89 | rw [z_b_eq0] at c_89
    refine v_aload_n (pc' := 93) dX5_turn_92 rfl rfl ?_
    refine v_iload_n (pc' := 94) dX5_turn_93 rfl rfl ?_
    refine v_bipush (pc' := 96) dX5_turn_94 kb_6 rfl ?_
    refine v_irem (pc' := 97) dX5_turn_96 (by decide) rfl ?_
    rw [show nI (x / 8) - nI (x / 8) / (6 : Int32) * 6 = nI ((x / 8) % 6) from pk_rem (d := 6) (by omega) (by omega) (by omega)]
    refine v_iload_n (pc' := 98) dX5_turn_97 rfl rfl ?_
    refine v_bipush (pc' := 100) dX5_turn_98 kb_8 rfl ?_
    refine v_idiv (pc' := 101) dX5_turn_100 (by decide) rfl ?_
    rw [show nI (x / 8) / (8 : Int32) = nI ((x / 8) / 8) from pk_div (d := 8) (by omega) (by omega) (by omega)]
    refine v_bipush (pc' := 103) dX5_turn_101 kb_12 rfl ?_
    refine v_irem (pc' := 104) dX5_turn_103 (by decide) rfl ?_
    rw [show nI (x / 8 / 8) - nI (x / 8 / 8) / (12 : Int32) * 12 = nI ((x / 8 / 8) % 12) from pk_rem (d := 12) (by omega) (by omega) (by omega)]
    refine v_cSI (pc' := 107) (c5_bringOn hl hq (x / 8 % 6) (nI (x / 8 / 8 % 12)) (by omega) rfl) dX5_turn_104 lk_X5_123 mwX5_bringOn msX5_bringOn rfl rfl (by decide) (Nat.le_of_ble_eq_true rfl) rfl ?_
    rintro _ _ ⟨rfl, rfl⟩
    refine v_pop (pc' := 108) dX5_turn_107 rfl rfl ?_
    refine v_goto (tgt := 178) dX5_turn_108 (by decide) ?_
    exact v_vret dX5_turn_178 rfl (Nat.le_refl _) (Nat.le_refl _) ⟨rfl, rfl, rfl, by rw [q_turn, if_neg (by omega), if_pos (by omega)]; first | (rw [t_job, if_pos c_89, nI_clamp (by omega)]; done) | (rw [t_job, c_89]; simp only [Bool.false_eq_true, if_false]; rw [z_row_self])⟩
set_option maxRecDepth 20000 in
set_option maxHeartbeats 4000000 in
theorem c5_turn_2 (hl : l.stackTraces = false) (hq : (a, sI E 0 65) ∈ G) (hW : WF (I a)) (x : Nat) (hx : x < 2 ^ 31) (hc : x % 8 = 2) : z_CV E l mX5_turn 5 [.ref a, .int (nI x)] G I sz (fun I' => I' = z_row I a (q_turn (I a) x)) := by
  have hc6 := hW.1.1
  refine z_Ct.of hl pn_X5 [some (.ref a), some (.int (nI x)), none] rfl (Nat.le_of_ble_eq_true rfl) ?_
  refine v_iload_n (pc' := 1) dX5_turn_0 rfl rfl ?_
  refine v_bipush (pc' := 3) dX5_turn_1 kb_8 rfl ?_
  refine v_idiv (pc' := 4) dX5_turn_3 (by decide) rfl ?_
  rw [show nI (x) / (8 : Int32) = nI ((x) / 8) from pk_div (d := 8) (by omega) (by omega) (by omega)]
  refine v_istore_n2 (pc' := 5) dX5_turn_4 (by decide) rfl rfl ?_
  refine v_iload_n (pc' := 6) dX5_turn_5 rfl rfl ?_
  refine v_bipush (pc' := 8) dX5_turn_6 kb_8 rfl ?_
  refine v_irem (pc' := 9) dX5_turn_8 (by decide) rfl ?_
  rw [show nI (x) - nI (x) / (8 : Int32) * 8 = nI ((x) % 8) from pk_rem (d := 8) (by omega) (by omega) (by omega)]
  refine v_tableIn (tgt := 74) 2 dX5_turn_9 (by rw [nI_toInt (by omega)]; omega) (by decide) rfl (by decide) ?_
  refine v_aload_n (pc' := 75) dX5_turn_74 rfl rfl ?_
  refine v_iload_n (pc' := 76) dX5_turn_75 rfl rfl ?_
  refine v_bipush (pc' := 78) dX5_turn_76 kb_6 rfl ?_
  refine v_irem (pc' := 79) dX5_turn_78 (by decide) rfl ?_
  rw [show nI (x / 8) - nI (x / 8) / (6 : Int32) * 6 = nI ((x / 8) % 6) from pk_rem (d := 6) (by omega) (by omega) (by omega)]
  refine v_iload_n (pc' := 80) dX5_turn_79 rfl rfl ?_
  refine v_bipush (pc' := 82) dX5_turn_80 kb_8 rfl ?_
  refine v_idiv (pc' := 83) dX5_turn_82 (by decide) rfl ?_
  rw [show nI (x / 8) / (8 : Int32) = nI ((x / 8) / 8) from pk_div (d := 8) (by omega) (by omega) (by omega)]
  refine v_bipush (pc' := 85) dX5_turn_83 kb_12 rfl ?_
  refine v_irem (pc' := 86) dX5_turn_85 (by decide) rfl ?_
  rw [show nI (x / 8 / 8) - nI (x / 8 / 8) / (12 : Int32) * 12 = nI ((x / 8 / 8) % 12) from pk_rem (d := 12) (by omega) (by omega) (by omega)]
  refine v_cSR (pc' := 89) (c5_canBring hl hq hW (nI (x / 8 % 6)) (nI (x / 8 / 8 % 12))) dX5_turn_86 lk_X5_119 mwX5_canBring msX5_canBring rfl rfl (by decide) (Nat.le_of_ble_eq_true rfl) rfl ?_
  refine v_if_eq (tgt := 178) (pc' := 92) dX5_turn_89 (by decide) rfl (fun c_89 => ?_) (fun c_89 => ?_)
  · first | rw [z_b_ne0] at c_89 | rw [z_b_eq0] at c_89
    exact v_vret dX5_turn_178 rfl (Nat.le_refl _) (Nat.le_refl _) ⟨rfl, rfl, rfl, by rw [q_turn, if_neg (by omega), if_pos (by omega)]; first | (rw [t_job, if_pos c_89, nI_clamp (by omega)]; done) | (rw [t_job, c_89]; simp only [Bool.false_eq_true, if_false]; rw [z_row_self])⟩
  · first | rw [z_b_ne0] at c_89 | rw [z_b_eq0] at c_89
    refine v_aload_n (pc' := 93) dX5_turn_92 rfl rfl ?_
    refine v_iload_n (pc' := 94) dX5_turn_93 rfl rfl ?_
    refine v_bipush (pc' := 96) dX5_turn_94 kb_6 rfl ?_
    refine v_irem (pc' := 97) dX5_turn_96 (by decide) rfl ?_
    rw [show nI (x / 8) - nI (x / 8) / (6 : Int32) * 6 = nI ((x / 8) % 6) from pk_rem (d := 6) (by omega) (by omega) (by omega)]
    refine v_iload_n (pc' := 98) dX5_turn_97 rfl rfl ?_
    refine v_bipush (pc' := 100) dX5_turn_98 kb_8 rfl ?_
    refine v_idiv (pc' := 101) dX5_turn_100 (by decide) rfl ?_
    rw [show nI (x / 8) / (8 : Int32) = nI ((x / 8) / 8) from pk_div (d := 8) (by omega) (by omega) (by omega)]
    refine v_bipush (pc' := 103) dX5_turn_101 kb_12 rfl ?_
    refine v_irem (pc' := 104) dX5_turn_103 (by decide) rfl ?_
    rw [show nI (x / 8 / 8) - nI (x / 8 / 8) / (12 : Int32) * 12 = nI ((x / 8 / 8) % 12) from pk_rem (d := 12) (by omega) (by omega) (by omega)]
    refine v_cSI (pc' := 107) (c5_bringOn hl hq (x / 8 % 6) (nI (x / 8 / 8 % 12)) (by omega) rfl) dX5_turn_104 lk_X5_123 mwX5_bringOn msX5_bringOn rfl rfl (by decide) (Nat.le_of_ble_eq_true rfl) rfl ?_
    rintro _ _ ⟨rfl, rfl⟩
    refine v_pop (pc' := 108) dX5_turn_107 rfl rfl ?_
    refine v_goto (tgt := 178) dX5_turn_108 (by decide) ?_
    exact v_vret dX5_turn_178 rfl (Nat.le_refl _) (Nat.le_refl _) ⟨rfl, rfl, rfl, by rw [q_turn, if_neg (by omega), if_pos (by omega)]; first | (rw [t_job, if_pos c_89, nI_clamp (by omega)]; done) | (rw [t_job, c_89]; simp only [Bool.false_eq_true, if_false]; rw [z_row_self])⟩
set_option maxRecDepth 20000 in
set_option maxHeartbeats 4000000 in
theorem c5_turn_3 (hl : l.stackTraces = false) (hq : (a, sI E 0 65) ∈ G) (hW : WF (I a)) (x : Nat) (hx : x < 2 ^ 31) (hc : x % 8 = 3) : z_CV E l mX5_turn 5 [.ref a, .int (nI x)] G I sz (fun I' => I' = z_row I a (q_turn (I a) x)) := by
  have hc6 := hW.1.1
  refine z_Ct.of hl pn_X5 [some (.ref a), some (.int (nI x)), none] rfl (Nat.le_of_ble_eq_true rfl) ?_
  refine v_iload_n (pc' := 1) dX5_turn_0 rfl rfl ?_
  refine v_bipush (pc' := 3) dX5_turn_1 kb_8 rfl ?_
  refine v_idiv (pc' := 4) dX5_turn_3 (by decide) rfl ?_
  rw [show nI (x) / (8 : Int32) = nI ((x) / 8) from pk_div (d := 8) (by omega) (by omega) (by omega)]
  refine v_istore_n2 (pc' := 5) dX5_turn_4 (by decide) rfl rfl ?_
  refine v_iload_n (pc' := 6) dX5_turn_5 rfl rfl ?_
  refine v_bipush (pc' := 8) dX5_turn_6 kb_8 rfl ?_
  refine v_irem (pc' := 9) dX5_turn_8 (by decide) rfl ?_
  rw [show nI (x) - nI (x) / (8 : Int32) * 8 = nI ((x) % 8) from pk_rem (d := 8) (by omega) (by omega) (by omega)]
  refine v_tableIn (tgt := 111) 3 dX5_turn_9 (by rw [nI_toInt (by omega)]; omega) (by decide) rfl (by decide) ?_
  refine v_iload_n (pc' := 112) dX5_turn_111 rfl rfl ?_
  refine v_bipush (pc' := 114) dX5_turn_112 kb_16 rfl ?_
  refine v_idiv (pc' := 115) dX5_turn_114 (by decide) rfl ?_
  rw [show nI (x / 8) / (16 : Int32) = nI ((x / 8) / 16) from pk_div (d := 16) (by omega) (by omega) (by omega)]
  refine v_iconst (pc' := 116) dX5_turn_115 kc_4 rfl ?_
  refine v_irem (pc' := 117) dX5_turn_116 (by decide) rfl ?_
  rw [show nI (x / 8 / 16) - nI (x / 8 / 16) / (4 : Int32) * 4 = nI ((x / 8 / 16) % 4) from pk_rem (d := 4) (by omega) (by omega) (by omega)]
  refine v_if_ne (tgt := 132) (pc' := 120) dX5_turn_117 (by decide) rfl (fun c_117 => ?_) (fun c_117 => ?_)
  · have c2 : ¬ x / 8 / 16 % 4 = 0 := fun q => c_117 (by rw [q]; rfl)
    refine v_aload_n (pc' := 133) dX5_turn_132 rfl rfl ?_
    refine v_iload_n (pc' := 134) dX5_turn_133 rfl rfl ?_
    refine v_bipush (pc' := 136) dX5_turn_134 kb_12 rfl ?_
    refine v_irem (pc' := 137) dX5_turn_136 (by decide) rfl ?_
    rw [show nI (x / 8) - nI (x / 8) / (12 : Int32) * 12 = nI ((x / 8) % 12) from pk_rem (d := 12) (by omega) (by omega) (by omega)]
    refine v_cSI (pc' := 140) (c5_mendOn hl hq (x / 8 % 12) (by omega) rfl) dX5_turn_137 lk_X5_129 mwX5_mendOn msX5_mendOn rfl rfl (by decide) (Nat.le_of_ble_eq_true rfl) rfl ?_
    rintro _ _ ⟨rfl, rfl⟩
    refine v_pop (pc' := 141) dX5_turn_140 rfl rfl ?_
    refine v_goto (tgt := 178) dX5_turn_141 (by decide) ?_
    exact v_vret dX5_turn_178 rfl (Nat.le_refl _) (Nat.le_refl _) ⟨rfl, rfl, rfl, by rw [q_turn, if_neg (by omega), if_neg (by omega), if_pos hc]; first | (rw [if_pos c2, t_bad, if_pos (p_isStripe_of (by omega)), nI_clamp (by omega)]; done) | (rw [if_neg c2, t_mend, if_pos (p_isStripe_of (by omega)), nI_clamp (by omega)]; done)⟩
  · have c2 : x / 8 / 16 % 4 = 0 := (nI_eq (b := 0) (by omega) (by omega)).mp c_117
    refine v_aload_n (pc' := 121) dX5_turn_120 rfl rfl ?_
    refine v_iload_n (pc' := 122) dX5_turn_121 rfl rfl ?_
    refine v_bipush (pc' := 124) dX5_turn_122 kb_12 rfl ?_
    refine v_irem (pc' := 125) dX5_turn_124 (by decide) rfl ?_
    rw [show nI (x / 8) - nI (x / 8) / (12 : Int32) * 12 = nI ((x / 8) % 12) from pk_rem (d := 12) (by omega) (by omega) (by omega)]
    refine v_cSI (pc' := 128) (c5_turnOn hl hq hW (x / 8 % 12) (by omega) rfl) dX5_turn_125 lk_X5_126 mwX5_turnOn msX5_turnOn rfl rfl (by decide) (Nat.le_of_ble_eq_true rfl) rfl ?_
    rintro _ _ ⟨rfl, rfl⟩
    refine v_pop (pc' := 129) dX5_turn_128 rfl rfl ?_
    refine v_goto (tgt := 178) dX5_turn_129 (by decide) ?_
    exact v_vret dX5_turn_178 rfl (Nat.le_refl _) (Nat.le_refl _) ⟨rfl, rfl, rfl, by rw [q_turn, if_neg (by omega), if_neg (by omega), if_pos hc]; first | (rw [if_pos c2, t_bad, if_pos (p_isStripe_of (by omega)), nI_clamp (by omega)]; done) | (rw [if_neg c2, t_mend, if_pos (p_isStripe_of (by omega)), nI_clamp (by omega)]; done)⟩
set_option maxRecDepth 20000 in
set_option maxHeartbeats 4000000 in
theorem c5_turn_4 (hl : l.stackTraces = false) (hq : (a, sI E 0 65) ∈ G) (hW : WF (I a)) (x : Nat) (hx : x < 2 ^ 31) (hc : x % 8 = 4) : z_CV E l mX5_turn 5 [.ref a, .int (nI x)] G I sz (fun I' => I' = z_row I a (q_turn (I a) x)) := by
  have hc6 := hW.1.1
  refine z_Ct.of hl pn_X5 [some (.ref a), some (.int (nI x)), none] rfl (Nat.le_of_ble_eq_true rfl) ?_
  refine v_iload_n (pc' := 1) dX5_turn_0 rfl rfl ?_
  refine v_bipush (pc' := 3) dX5_turn_1 kb_8 rfl ?_
  refine v_idiv (pc' := 4) dX5_turn_3 (by decide) rfl ?_
  rw [show nI (x) / (8 : Int32) = nI ((x) / 8) from pk_div (d := 8) (by omega) (by omega) (by omega)]
  refine v_istore_n2 (pc' := 5) dX5_turn_4 (by decide) rfl rfl ?_
  refine v_iload_n (pc' := 6) dX5_turn_5 rfl rfl ?_
  refine v_bipush (pc' := 8) dX5_turn_6 kb_8 rfl ?_
  refine v_irem (pc' := 9) dX5_turn_8 (by decide) rfl ?_
  rw [show nI (x) - nI (x) / (8 : Int32) * 8 = nI ((x) % 8) from pk_rem (d := 8) (by omega) (by omega) (by omega)]
  refine v_tableIn (tgt := 144) 4 dX5_turn_9 (by rw [nI_toInt (by omega)]; omega) (by decide) rfl (by decide) ?_
  refine v_aload_n (pc' := 145) dX5_turn_144 rfl rfl ?_
  refine v_iload_n (pc' := 146) dX5_turn_145 rfl rfl ?_
  refine v_bipush (pc' := 148) dX5_turn_146 kb_6 rfl ?_
  refine v_irem (pc' := 149) dX5_turn_148 (by decide) rfl ?_
  rw [show nI (x / 8) - nI (x / 8) / (6 : Int32) * 6 = nI ((x / 8) % 6) from pk_rem (d := 6) (by omega) (by omega) (by omega)]
  refine v_cSR (pc' := 152) (c5_canStop hl hq hW (nI (x / 8 % 6))) dX5_turn_149 lk_X5_132 mwX5_canStop msX5_canStop rfl rfl (by decide) (Nat.le_of_ble_eq_true rfl) rfl ?_
  refine v_if_eq (tgt := 178) (pc' := 155) dX5_turn_152 (by decide) rfl (fun c_152 => ?_) (fun c_152 => ?_)
  · first | rw [z_b_ne0] at c_152 | rw [z_b_eq0] at c_152
    exact v_vret dX5_turn_178 rfl (Nat.le_refl _) (Nat.le_refl _) ⟨rfl, rfl, rfl, by rw [q_turn, if_neg (by omega), if_neg (by omega), if_neg (by omega), if_pos hc]; first | (rw [t_stop, if_pos c_152, nI_clamp (by omega)]; done) | (rw [t_stop, c_152]; simp only [Bool.false_eq_true, if_false]; rw [z_row_self])⟩
  · first | rw [z_b_ne0] at c_152 | rw [z_b_eq0] at c_152
    refine v_aload_n (pc' := 156) dX5_turn_155 rfl rfl ?_
    refine v_iload_n (pc' := 157) dX5_turn_156 rfl rfl ?_
    refine v_bipush (pc' := 159) dX5_turn_157 kb_6 rfl ?_
    refine v_irem (pc' := 160) dX5_turn_159 (by decide) rfl ?_
    rw [show nI (x / 8) - nI (x / 8) / (6 : Int32) * 6 = nI ((x / 8) % 6) from pk_rem (d := 6) (by omega) (by omega) (by omega)]
    refine v_cSI (pc' := 163) (c5_stopOn hl hq (x / 8 % 6) (by omega) rfl) dX5_turn_160 lk_X5_135 mwX5_stopOn msX5_stopOn rfl rfl (by decide) (Nat.le_of_ble_eq_true rfl) rfl ?_
    rintro _ _ ⟨rfl, rfl⟩
    refine v_pop (pc' := 164) dX5_turn_163 rfl rfl ?_
    refine v_goto (tgt := 178) dX5_turn_164 (by decide) ?_
    exact v_vret dX5_turn_178 rfl (Nat.le_refl _) (Nat.le_refl _) ⟨rfl, rfl, rfl, by rw [q_turn, if_neg (by omega), if_neg (by omega), if_neg (by omega), if_pos hc]; first | (rw [t_stop, if_pos c_152, nI_clamp (by omega)]; done) | (rw [t_stop, c_152]; simp only [Bool.false_eq_true, if_false]; rw [z_row_self])⟩
set_option maxRecDepth 20000 in
set_option maxHeartbeats 4000000 in
theorem c5_turn_5 (hl : l.stackTraces = false) (hq : (a, sI E 0 65) ∈ G) (hW : WF (I a)) (x : Nat) (hx : x < 2 ^ 31) (hc : 5 ≤ x % 8) : z_CV E l mX5_turn 5 [.ref a, .int (nI x)] G I sz (fun I' => I' = z_row I a (q_turn (I a) x)) := by
  have hc6 := hW.1.1
  refine z_Ct.of hl pn_X5 [some (.ref a), some (.int (nI x)), none] rfl (Nat.le_of_ble_eq_true rfl) ?_
  refine v_iload_n (pc' := 1) dX5_turn_0 rfl rfl ?_
  refine v_bipush (pc' := 3) dX5_turn_1 kb_8 rfl ?_
  refine v_idiv (pc' := 4) dX5_turn_3 (by decide) rfl ?_
  rw [show nI (x) / (8 : Int32) = nI ((x) / 8) from pk_div (d := 8) (by omega) (by omega) (by omega)]
  refine v_istore_n2 (pc' := 5) dX5_turn_4 (by decide) rfl rfl ?_
  refine v_iload_n (pc' := 6) dX5_turn_5 rfl rfl ?_
  refine v_bipush (pc' := 8) dX5_turn_6 kb_8 rfl ?_
  refine v_irem (pc' := 9) dX5_turn_8 (by decide) rfl ?_
  rw [show nI (x) - nI (x) / (8 : Int32) * 8 = nI ((x) % 8) from pk_rem (d := 8) (by omega) (by omega) (by omega)]
  refine v_tableOut (tgt := 167) dX5_turn_9 (by rw [nI_toInt (by omega)]; omega) (by decide) ?_
  refine v_aload_n (pc' := 168) dX5_turn_167 rfl rfl ?_
  refine v_iconst (pc' := 169) dX5_turn_168 kc_1 rfl ?_
  refine v_iload_n (pc' := 170) dX5_turn_169 rfl rfl ?_
  refine v_bipush (pc' := 172) dX5_turn_170 kb_20 rfl ?_
  refine v_irem (pc' := 173) dX5_turn_172 (by decide) rfl ?_
  rw [show nI (x / 8) - nI (x / 8) / (20 : Int32) * 20 = nI ((x / 8) % 20) from pk_rem (d := 20) (by omega) (by omega) (by omega)]
  refine v_iadd (pc' := 174) dX5_turn_173 rfl ?_
  rw [show (1 + nI (x / 8 % 20) : Int32) = nI (1 + x / 8 % 20) from nI_add 1 _]
  refine v_cSI (pc' := 177) (c5_runOn hl hq hW (1 + x / 8 % 20) (by omega) rfl) dX5_turn_174 lk_X5_138 mwX5_runOn msX5_runOn rfl rfl (by decide) (Nat.le_of_ble_eq_true rfl) rfl ?_
  rintro _ _ ⟨rfl, rfl⟩
  refine v_pop (pc' := 178) dX5_turn_177 rfl rfl ?_
  exact v_vret dX5_turn_178 rfl (Nat.le_refl _) (Nat.le_refl _) ⟨rfl, rfl, rfl, by rw [q_turn, if_neg (by omega), if_neg (by omega), if_neg (by omega), if_neg (by omega), t_run, if_pos (show z_in (nI (1 + x / 8 % 20)) 1 60 = true from z_in_of (lo := 1) (hi := 60) (by omega) (by omega) (by omega)), nI_clamp (by omega)]⟩
theorem c5_turn (hl : l.stackTraces = false) (hq : (a, sI E 0 65) ∈ G) (hW : WF (I a)) (x : Nat) (hx : x < 2 ^ 31) : z_CV E l mX5_turn 5 [.ref a, .int (nI x)] G I sz (fun I' => I' = z_row I a (q_turn (I a) x)) := by
  rcases (by omega : x % 8 = 0 ∨ x % 8 = 1 ∨ x % 8 = 2 ∨ x % 8 = 3 ∨ x % 8 = 4 ∨ 5 ≤ x % 8) with q | q | q | q | q | q
  · exact c5_turn_0 hl hq hW x hx q
  · exact c5_turn_1 hl hq hW x hx q
  · exact c5_turn_2 hl hq hW x hx q
  · exact c5_turn_3 hl hq hW x hx q
  · exact c5_turn_4 hl hq hW x hx q
  · exact c5_turn_5 hl hq hW x hx q
set_option maxRecDepth 20000 in
set_option maxHeartbeats 4000000 in
theorem m_simL (hl : l.stackTraces = false) (hK : ShM E G d) (g : Int64 → Int64) (hg : ∀ x : Int64, x * 6364136223846793005 + 1442695040888963407 = g x) (s : Int64) (n : Nat) (n1 : 1 ≤ n) (n2 : n ≤ 60) (I1 : zI) (r1 : I1 d 0 = 0) (hM1 : AbsM I1 d S) (hF1 : FrM I I1 d) (hkz : e_sim (nI n) = 0) : ∀ (f j : Nat) (x9 : Int64) (r9 : zR), n = j + f → WF r9 → q_sim g f x9 r9 = q_sim g n s S.1 → z_V E l mX5_simulate (z_rm 8 0 0) 0 0 (z_q (fun v' G' I' sz' => ∃ y9, v' = some (.int y9) ∧ G' = G ∧ sz' = sz ∧ z_mP d (e_sim (nI n)) (v_simg g S.1 s (nI n)) S S I y9 I')) 0 0 G (z_row I1 (d + 3) r9) sz 45 [some (.ref d), some (.long s), none, some (.int (nI n)), some (.long x9), none, some (.int (nI j))] [] := by
  obtain ⟨k0, kT, kN, kR, kD, kP, kF⟩ := id hK
  obtain ⟨bN, bW⟩ := hM1.2.1
  intro f
  induction f with
  | zero =>
    intro j x9 r9 hj hr hp
    rw [q_sim] at hp
    refine v_iload (pc' := 47) dX5_simulate_45 rfl rfl ?_
    refine v_iload_n (pc' := 48) dX5_simulate_47 rfl rfl ?_
    refine v_icmp_ge (tgt := 82) (pc' := 51) dX5_simulate_48 (by decide) rfl (fun c_48 => ?_) (fun c_48 => ?_)
    · refine v_aload_n (pc' := 83) dX5_simulate_82 rfl rfl ?_
      refine g_X5_16 (pc' := 86) rfl dX5_simulate_83 (by assumption) rfl ?_
      refine v_iconst (pc' := 87) dX5_simulate_86 kc_4 rfl ?_
      refine v_iald (pc' := 88) dX5_simulate_87 (4) rfl kR (by decide) (by decide) rfl ?_
      rw [z_row_at]
      refine v_aload_n (pc' := 89) dX5_simulate_88 rfl rfl ?_
      refine g_X5_13 (pc' := 92) rfl dX5_simulate_89 (by assumption) rfl ?_
      refine v_iconst (pc' := 93) dX5_simulate_92 kc_4 rfl ?_
      refine v_iald (pc' := 94) dX5_simulate_93 (4) rfl kN (by decide) (by decide) rfl ?_
      rw [z_row_ne _ _ _ (by omega), bN]
      refine v_isub (pc' := 95) dX5_simulate_94 rfl ?_
      refine v_istore6 (pc' := 97) dX5_simulate_95 (by decide) rfl rfl ?_
      refine v_sipush (pc' := 100) dX5_simulate_97 ks_10000 rfl ?_
      refine v_aload_n (pc' := 101) dX5_simulate_100 rfl rfl ?_
      refine g_X5_16 (pc' := 104) rfl dX5_simulate_101 (by assumption) rfl ?_
      refine v_cSR (pc' := 107) (c5_running hl kR (by rw [z_row_at]; exact hr)) dX5_simulate_104 lk_X5_160 mwX5_running msX5_running rfl rfl (by decide) (Nat.le_of_ble_eq_true rfl) rfl ?_
      rw [z_row_at]
      refine v_imul (pc' := 108) dX5_simulate_107 rfl ?_
      refine v_iload (pc' := 110) dX5_simulate_108 rfl rfl ?_
      refine v_sipush (pc' := 113) dX5_simulate_110 ks_9999 rfl ?_
      refine v_icmp_le (tgt := 122) (pc' := 116) dX5_simulate_113 (by decide) rfl (fun c_113 => ?_) (fun c_113 => ?_)
      · rw [← Int32.not_lt] at c_113
        refine v_iload (pc' := 124) dX5_simulate_122 rfl rfl ?_
        refine v_iadd (pc' := 125) dX5_simulate_124 rfl ?_
        exact v_iret dX5_simulate_125 rfl (Nat.le_refl _) (Nat.le_refl _) ⟨_, rfl, rfl, rfl, by rw [hkz, z_row_ne _ _ _ (by omega)]; exact r1, fun _ => by rw [v_simg, nI_clamp (by omega), ← hp]; first | rw [if_pos c_113] | rw [if_neg c_113], by rw [hkz]; exact hM1.trialr, hF1.tr (FrM.row (by omega))⟩
      · rw [Int32.not_le] at c_113
        refine v_sipush (pc' := 119) dX5_simulate_116 ks_9999 rfl ?_
        refine v_goto (tgt := 124) dX5_simulate_119 (by decide) ?_
        refine v_iadd (pc' := 125) dX5_simulate_124 rfl ?_
        exact v_iret dX5_simulate_125 rfl (Nat.le_refl _) (Nat.le_refl _) ⟨_, rfl, rfl, rfl, by rw [hkz, z_row_ne _ _ _ (by omega)]; exact r1, fun _ => by rw [v_simg, nI_clamp (by omega), ← hp]; first | rw [if_pos c_113] | rw [if_neg c_113], by rw [hkz]; exact hM1.trialr, hF1.tr (FrM.row (by omega))⟩
    · exact absurd (nI_le (by omega) (by omega)) c_48
  | succ f ih =>
    intro j x9 r9 hj hr hp
    rw [q_sim] at hp
    refine v_iload (pc' := 47) dX5_simulate_45 rfl rfl ?_
    refine v_iload_n (pc' := 48) dX5_simulate_47 rfl rfl ?_
    refine v_icmp_ge (tgt := 82) (pc' := 51) dX5_simulate_48 (by decide) rfl (fun c_48 => ?_) (fun c_48 => ?_)
    · exact absurd c_48 (nI_ge (by omega) (by omega))
    · refine v_lload (pc' := 53) dX5_simulate_51 rfl rfl ?_
      refine v_ldc2 (pc' := 56) dX5_simulate_53 cn_X5_197 rfl ?_
      refine v_lmul (pc' := 57) dX5_simulate_56 rfl ?_
      refine v_ldc2 (pc' := 60) dX5_simulate_57 cn_X5_199 rfl ?_
      refine v_ladd (pc' := 61) dX5_simulate_60 rfl ?_
      refine v_lstore4 (pc' := 63) dX5_simulate_61 (by decide) rfl rfl ?_
      refine v_aload_n (pc' := 64) dX5_simulate_63 rfl rfl ?_
      refine g_X5_16 (pc' := 67) rfl dX5_simulate_64 (by assumption) rfl ?_
      refine v_lload (pc' := 69) dX5_simulate_67 rfl rfl ?_
      refine v_bipush (pc' := 71) dX5_simulate_69 kb_33 rfl ?_
      refine v_lushr (pc' := 72) dX5_simulate_71 rfl ?_
      refine v_l2i (pc' := 73) dX5_simulate_72 rfl ?_
      rw [hg x9]
      rw [(rd_x (g x9)).1]
      refine v_cSV (pc' := 76) (c5_turn hl kR (by rw [z_row_at]; exact hr) (q_x (g x9)) (rd_x (g x9)).2) dX5_simulate_73 lk_X5_201 mwX5_turn msX5_turn rfl rfl (by decide) (Nat.le_of_ble_eq_true rfl) rfl ?_
      rintro _ rfl
      simp only [z_row_row, z_row_at]
      refine v_iinc6 (pc' := 79) dX5_simulate_76 (by decide) rfl kc_1 (nI_1 j) rfl ?_
      refine v_goto (tgt := 45) dX5_simulate_79 (by decide) ?_
      exact ih (j + 1) (g x9) _ (by omega) (WF_turn hr _) hp

set_option maxRecDepth 20000 in
set_option maxHeartbeats 4000000 in
theorem m_simulate (hl : l.stackTraces = false) (hK : ShM E G d) (hM : AbsM I d S) (s : Int64) (m3 : Int32) : z_CM E l mX5_simulate [.ref d, .long s, .int m3] G I sz d (e_sim m3) (v_sim S.1 s m3) S (S) := by
  obtain ⟨k0, kT, kN, kR, kD, kP, kF⟩ := id hK
  obtain ⟨⟨tn, tl, tc⟩, ⟨nN, nW⟩, ⟨aA, a14, aR⟩, aF, aS⟩ := id hM
  have tail : ∀ k9 : Nat, (e_sim m3) = k9 → k9 ≠ 0 → k9 < 3 → z_V E l mX5_simulate (z_rm 8 0 0) 0 0 (z_q (fun v' G' I' sz' => ∃ y9, v' = some (.int y9) ∧ G' = G ∧ sz' = sz ∧ z_mP d (e_sim m3) (v_sim S.1 s m3) S (S) I y9 I')) 0 0 G I sz 18 [some (.ref d), some (.long s), none, some (.int m3), none, none, none] [.int (nI k9), .ref d] := by
    intro k9 hk hne h3
    refine v_cVI (pc' := 21) (c5_refused hl k0 _) dX5_simulate_18 lk_X5_99 mwX5_refused miX5_refused k0 rfl rfl rfl rfl (by decide) (Nat.le_of_ble_eq_true rfl) rfl ?_
    rintro _ I1 ⟨rfl, hI1⟩
    have r1 : I1 d 0 = nI k9 := by rw [hI1, z_up_row, z_row_at, pk_us]
    have hM1 : AbsM I1 d S := by rw [hI1]; exact hM.fld 0 _ (by omega)
    have hF1 : FrM I I1 d := by rw [hI1]; exact FrM.up (by omega)
    obtain ⟨⟨bn, bl, bc⟩, ⟨bN, bW⟩, ⟨bA, b14, bR⟩, bF, bS⟩ := id hM1
    have bW2 : WF (I1 (d + 2)) := by rw [bN]; exact bW
    refine v_if_eq (tgt := 26) (pc' := 24) dX5_simulate_21 (by decide) rfl (fun c_21 => ?_) (fun c_21 => ?_)
    · rw [z_b_eq0, decide_eq_false_iff_not] at c_21
      exact absurd (nI_lt (a := 0) (by omega) (by omega)) c_21
    · refine v_iconst (pc' := 25) dX5_simulate_24 kc_0 rfl ?_
      exact v_iret dX5_simulate_25 rfl (Nat.le_refl _) (Nat.le_refl _) ⟨_, rfl, rfl, rfl, by rw [hk]; exact r1, fun q => absurd (hk.symm.trans q) hne, by rw [hk, if_neg hne]; exact hM1, hF1⟩
  have main : z_in m3 1 60 = true → z_V E l mX5_simulate (z_rm 8 0 0) 0 0 (z_q (fun v' G' I' sz' => ∃ y9, v' = some (.int y9) ∧ G' = G ∧ sz' = sz ∧ z_mP d (e_sim m3) (v_sim S.1 s m3) S (S) I y9 I')) 0 0 G I sz 18 [some (.ref d), some (.long s), none, some (.int m3), none, none, none] [.int 0, .ref d] := by
    intro f1
    refine v_cVI (pc' := 21) (c5_refused hl k0 _) dX5_simulate_18 lk_X5_99 mwX5_refused miX5_refused k0 rfl rfl rfl rfl (by decide) (Nat.le_of_ble_eq_true rfl) rfl ?_
    rintro _ I1 ⟨rfl, hI1⟩
    have r1 : I1 d 0 = 0 := by rw [hI1, z_up_row, z_row_at, pk_us]
    have hM1 : AbsM I1 d S := by rw [hI1]; exact hM.fld 0 _ (by omega)
    have hF1 : FrM I I1 d := by rw [hI1]; exact FrM.up (by omega)
    obtain ⟨⟨bn, bl, bc⟩, ⟨bN, bW⟩, ⟨bA, b14, bR⟩, bF, bS⟩ := id hM1
    have bW2 : WF (I1 (d + 2)) := by rw [bN]; exact bW
    have hkz : e_sim m3 = 0 := by simp [e_sim, *]
    refine v_if_eq (tgt := 26) (pc' := 24) dX5_simulate_21 (by decide) rfl (fun c_21 => ?_) (fun c_21 => ?_)
    · obtain ⟨n, n1, n2, rfl⟩ := z_in_nI (lo := 1) (hi := 60) (by omega) (by omega) f1
      refine v_aload_n (pc' := 27) dX5_simulate_26 rfl rfl ?_
      refine g_X5_13 (pc' := 30) rfl dX5_simulate_27 (by assumption) rfl ?_
      refine v_iconst (pc' := 31) dX5_simulate_30 kc_0 rfl ?_
      refine v_aload_n (pc' := 32) dX5_simulate_31 rfl rfl ?_
      refine g_X5_16 (pc' := 35) rfl dX5_simulate_32 (by assumption) rfl ?_
      refine v_iconst (pc' := 36) dX5_simulate_35 kc_0 rfl ?_
      refine v_cSV (pc' := 39) (c5_copyTo hl kN kR (by omega) 0 0 (by omega) (by omega) (by omega) (by omega) rfl rfl) dX5_simulate_36 lk_X5_148 mwX5_copyState msX5_copyState rfl rfl (by decide) (Nat.le_of_ble_eq_true rfl) rfl ?_
      rintro _ rfl
      refine v_ext (I' := z_row I1 (d + 3) S.1) kR (fun q9 h9 => by rw [z_row_ne _ _ _ h9, z_row_ne _ _ _ h9]) (fun j9 h9 => by rw [z_row_at, z_row_at, cpy_in (by omega) (by omega), bN]; exact congrArg S.1 (by omega)) ?_
      refine v_lload_n (pc' := 40) dX5_simulate_39 rfl rfl ?_
      refine v_lstore4 (pc' := 42) dX5_simulate_40 (by decide) rfl rfl ?_
      refine v_iconst (pc' := 43) dX5_simulate_42 kc_0 rfl ?_
      refine v_istore6 (pc' := 45) dX5_simulate_43 (by decide) rfl rfl ?_
      exact m_simL hl hK q_nx (fun _ => rfl) s n n1 n2 I1 r1 hM1 hF1 hkz n 0 s S.1 (by omega) nW rfl
    · exact absurd (by decide) c_21
  refine z_Ct.of hl pn_X5 [some (.ref d), some (.long s), none, some (.int m3), none, none, none] rfl (Nat.le_of_ble_eq_true rfl) ?_
  refine v_aload_n (pc' := 1) dX5_simulate_0 rfl rfl ?_
  refine v_iload_n (pc' := 2) dX5_simulate_1 rfl rfl ?_
  refine v_i2l (pc' := 3) dX5_simulate_2 rfl ?_
  refine v_lconst (pc' := 4) dX5_simulate_3 kl_1 rfl ?_
  refine v_ldc2 (pc' := 7) dX5_simulate_4 cn_X5_174 rfl ?_
  refine v_cSR (pc' := 10) (c5_in32 hl (m3) 1 60 rfl rfl rfl) dX5_simulate_7 lk_X5_37 mwX5_in msX5_in rfl rfl (by decide) (Nat.le_of_ble_eq_true rfl) rfl ?_
  refine v_if_eq (tgt := 17) (pc' := 13) dX5_simulate_10 (by decide) rfl (fun c_10 => ?_) (fun c_10 => ?_)
  · first | rw [z_b_ne0] at c_10 | rw [z_b_eq0] at c_10
    refine v_iconst (pc' := 18) dX5_simulate_17 kc_1 rfl ?_
    first
      | exact main c_10
      | exact tail 1 (by simp [e_sim, *]) (by omega) (by omega)
      | exact tail 2 (by simp [e_sim, *]) (by omega) (by omega)
  · first | rw [z_b_ne0] at c_10 | rw [z_b_eq0] at c_10
    refine v_iconst (pc' := 14) dX5_simulate_13 kc_0 rfl ?_
    refine v_goto (tgt := 18) dX5_simulate_14 (by decide) ?_
    first
      | exact main c_10
      | exact tail 1 (by simp [e_sim, *]) (by omega) (by omega)
      | exact tail 2 (by simp [e_sim, *]) (by omega) (by omega)
theorem ffn_spec (r : zR) : ∀ (m s : Nat), (∀ i, i < p_ffn r m s → p_free r (s + i) = true) ∧ (p_ffn r m s < m → p_free r (s + p_ffn r m s) = false)
  | 0, s => ⟨fun i h => absurd h (Nat.not_lt_zero i), fun h => absurd h (Nat.lt_irrefl 0)⟩
  | m + 1, s => by
    obtain ⟨h1, h2⟩ := ffn_spec r m (s + 1)
    rw [p_ffn_s]
    by_cases hf : p_free r s = true
    · rw [if_pos hf]
      refine ⟨fun i hi => ?_, fun h => ?_⟩
      · rcases Nat.eq_zero_or_pos i with q | q
        · subst q; exact hf
        · have := h1 (i - 1) (by omega)
          rw [show s + i = s + 1 + (i - 1) by omega]; exact this
      · have := h2 (by omega)
        rw [show s + (p_ffn r m (s + 1) + 1) = s + 1 + p_ffn r m (s + 1) by omega]; exact this
    · rw [if_neg hf]
      exact ⟨fun i h => absurd h (Nat.not_lt_zero i), fun _ => by simpa using hf⟩
theorem gap_skip (r : zR) {w : Nat} (hw : 1 ≤ w) (hw2 : w < 2 ^ 31) (b x : Int32) : ∀ (k s f : Nat), s + k + f = 12 → (∀ i, i < k → p_gl r (s + i) = 0) → p_gapn r (nI w) (k + f) s b x = p_gapn r (nI w) f (s + k) b x
  | 0, s, f, _, _ => by rw [Nat.zero_add, Nat.add_zero]
  | k + 1, s, f, hs, h => by
    have h0 := h 0 (by omega)
    rw [Nat.add_zero] at h0
    rw [show k + 1 + f = (k + f) + 1 by omega, p_gapn, h0, if_neg (fun q => nI_ge (a := 0) (b := w) (by omega) hw2 q.1), gap_skip r hw hw2 b x k (s + 1) f (by omega) (fun i hi => by rw [show s + 1 + i = s + (i + 1) by omega]; exact h (i + 1) (by omega)), show s + 1 + k = s + (k + 1) by omega]
theorem gap_step (r : zR) {w : Nat} (hw : 1 ≤ w) (hw2 : w < 2 ^ 31) {s : Nat} (hs : s < 12) (hg : p_gl r s = p_ff r s) (b x : Int32) :
    p_gapn r (nI w) (12 - s) s b x = (if nI w ≤ nI (p_ff r s) ∧ nI (p_ff r s) < x then p_gapn r (nI w) (12 - (s + p_ff r s + 1)) (s + p_ff r s + 1) (nI s) (nI (p_ff r s)) else p_gapn r (nI w) (12 - (s + p_ff r s + 1)) (s + p_ff r s + 1) b x) ∧ (s + p_ff r s + 1 < 12 → p_gl r (s + p_ff r s + 1) = p_ff r (s + p_ff r s + 1)) := by
  obtain ⟨h1, h2⟩ := ffn_spec r (12 - s) s
  have hle : p_ff r s ≤ 12 - s := p_ffn_le r (12 - s) s
  have hz : ∀ i, i < p_ff r s → p_gl r (s + 1 + i) = 0 := fun i hi => by
    have := h1 i hi
    rw [p_gl, if_neg (by omega), show s + 1 + i - 1 = s + i by omega, if_pos this]
  have sk : ∀ b' x', p_gapn r (nI w) (12 - (s + 1)) (s + 1) b' x' = p_gapn r (nI w) (12 - (s + p_ff r s + 1)) (s + p_ff r s + 1) b' x' := fun b' x' => by
    by_cases e : s + p_ff r s + 1 ≤ 12
    · have := gap_skip r hw hw2 b' x' (p_ff r s) (s + 1) (12 - (s + p_ff r s + 1)) (by omega) hz
      rw [show p_ff r s + (12 - (s + p_ff r s + 1)) = 12 - (s + 1) by omega, show s + 1 + p_ff r s = s + p_ff r s + 1 by omega] at this
      exact this
    · have := gap_skip r hw hw2 b' x' (11 - s) (s + 1) 0 (by omega) (fun i hi => hz i (by omega))
      rw [show 12 - (s + 1) = 11 - s + 0 by omega, this, show 12 - (s + p_ff r s + 1) = 0 by omega, p_gapn, p_gapn]
  constructor
  · rw [show 12 - s = (12 - (s + 1)) + 1 by omega, p_gapn, hg, sk, sk]
  · intro h
    have := h2 (by show p_ff r s < _; omega)
    rw [p_gl, if_neg (by omega), show s + p_ff r s + 1 - 1 = s + p_ff r s by omega]
    have this' : p_free r (s + p_ff r s) = false := this
    rw [this']
    rfl
set_option maxRecDepth 20000 in
set_option maxHeartbeats 4000000 in
theorem m_gapL (hl : l.stackTraces = false) (hK : ShM E G d) (w : Nat) (w1 : 1 ≤ w) (w2 : w ≤ 6) (I1 : zI) (r1 : I1 d 0 = 0) (hM1 : AbsM I1 d S) (hF1 : FrM I I1 d) (hkz : e_gap (nI w) = 0) : ∀ (f s : Nat) (b x : Int32) (o5 o6 : Option Value), z_c1 o5 = true → z_c1 o6 = true → 13 ≤ s + f → s ≤ 13 → (s < 12 → p_gl S.1 s = p_ff S.1 s) → p_gapn S.1 (nI w) (12 - s) s b x = v_gap S.1 (nI w) → z_V E l mX5_bestGap (z_rm 8 0 0) 0 0 (z_q (fun v' G' I' sz' => ∃ y9, v' = some (.int y9) ∧ G' = G ∧ sz' = sz ∧ z_mP d (e_gap (nI w)) (v_gap S.1 (nI w)) S S I y9 I')) 0 0 G I1 sz 34 [some (.ref d), some (.int (nI w)), some (.int b), some (.int x), some (.int (nI s)), o5, o6] [] := by
  obtain ⟨k0, kT, kN, kR, kD, kP, kF⟩ := id hK
  obtain ⟨bN, bW⟩ := hM1.2.1
  have bW2 : WF (I1 (d + 2)) := by rw [bN]; exact bW
  intro f
  induction f with
  | zero =>
    intro s b x o5 o6 ho5 ho6 hs hs13 hg hp
    · refine v_iload (pc' := 36) dX5_bestGap_34 rfl rfl ?_
      refine v_bipush (pc' := 38) dX5_bestGap_36 kb_12 rfl ?_
      refine v_icmp_ge (tgt := 107) (pc' := 41) dX5_bestGap_38 (by decide) rfl (fun c_38 => ?_) (fun c_38 => ?_)
      · refine v_iload_n (pc' := 108) dX5_bestGap_107 rfl rfl ?_
        exact v_iret dX5_bestGap_108 rfl (Nat.le_refl _) (Nat.le_refl _) ⟨_, rfl, rfl, rfl, by rw [hkz]; exact r1, fun _ => by rw [← hp, show 12 - s = 0 by omega, p_gapn], by rw [hkz]; exact hM1, hF1⟩
      · exact absurd (nI_le (a := 12) (by omega) (by omega)) c_38
  | succ f ih =>
    intro s b x o5 o6 ho5 ho6 hs hs13 hg hp
    by_cases h12 : s < 12
    · have hle := p_ffn_le S.1 (12 - s) s
      have hle' : p_ff S.1 s ≤ 12 - s := hle
      obtain ⟨e1, e2⟩ := gap_step S.1 w1 (by omega) h12 (hg h12) b x
      refine v_iload (pc' := 36) dX5_bestGap_34 rfl rfl ?_
      refine v_bipush (pc' := 38) dX5_bestGap_36 kb_12 rfl ?_
      refine v_icmp_ge (tgt := 107) (pc' := 41) dX5_bestGap_38 (by decide) rfl (fun c_38 => ?_) (fun c_38 => ?_)
      · exact absurd c_38 (nI_ge (b := 12) (by omega) (by omega))
      · refine v_aload_n (pc' := 42) dX5_bestGap_41 rfl rfl ?_
        refine g_X5_13 (pc' := 45) rfl dX5_bestGap_42 (by assumption) rfl ?_
        refine v_iload (pc' := 47) dX5_bestGap_45 rfl rfl ?_
        refine v_cSR (pc' := 50) (c5_freeFrom hl kN bW2 s (by omega) rfl) dX5_bestGap_47 lk_X5_157 mwX5_freeFrom msX5_freeFrom rfl rfl (by decide) (Nat.le_of_ble_eq_true rfl) rfl ?_
        rw [bN]
        refine v_istore5 (pc' := 52) dX5_bestGap_50 (by decide) rfl rfl ?_
        refine v_iload (pc' := 54) dX5_bestGap_52 rfl rfl ?_
        refine v_iload_n (pc' := 55) dX5_bestGap_54 rfl rfl ?_
        refine v_icmp_lt (tgt := 68) (pc' := 58) dX5_bestGap_55 (by decide) rfl (fun c_55 => ?_) (fun c_55 => ?_)
        · have cc : ¬ (nI w ≤ nI (p_ff S.1 s) ∧ nI (p_ff S.1 s) < x) := fun q => Int32.not_le.mpr c_55 q.1
          rw [if_neg cc] at e1
          refine v_iconst (pc' := 69) dX5_bestGap_68 kc_0 rfl ?_
          refine v_istore6 (pc' := 71) dX5_bestGap_69 (by decide) rfl rfl ?_
          refine v_iload (pc' := 73) dX5_bestGap_71 rfl rfl ?_
          refine v_if_eq (tgt := 81) (pc' := 76) dX5_bestGap_73 (by decide) rfl (fun c_73 => ?_) (fun c_73 => ?_)
          · refine v_iload_n (pc' := 82) dX5_bestGap_81 rfl rfl ?_
            refine v_istore_n2 (pc' := 83) dX5_bestGap_82 (by decide) rfl rfl ?_
            refine v_iload (pc' := 85) dX5_bestGap_83 rfl rfl ?_
            refine v_if_eq (tgt := 93) (pc' := 88) dX5_bestGap_85 (by decide) rfl (fun c_85 => ?_) (fun c_85 => ?_)
            · refine v_iload_n (pc' := 94) dX5_bestGap_93 rfl rfl ?_
              refine v_istore_n3 (pc' := 95) dX5_bestGap_94 (by decide) rfl rfl ?_
              refine v_iload (pc' := 97) dX5_bestGap_95 rfl rfl ?_
              refine v_iload (pc' := 99) dX5_bestGap_97 rfl rfl ?_
              refine v_iconst (pc' := 100) dX5_bestGap_99 kc_1 rfl ?_
              refine v_iadd (pc' := 101) dX5_bestGap_100 rfl ?_
              rw [nI_1]
              refine v_iadd (pc' := 102) dX5_bestGap_101 rfl ?_
              rw [nI_add, show s + (p_ff S.1 s + 1) = s + p_ff S.1 s + 1 by omega]
              refine v_istore4 (pc' := 104) dX5_bestGap_102 (by decide) rfl rfl ?_
              refine v_goto (tgt := 34) dX5_bestGap_104 (by decide) ?_
              first
                | exact absurd c_73 (by decide)
                | exact absurd rfl c_73
                | exact absurd c_85 (by decide)
                | exact absurd rfl c_85
                | exact ih _ _ _ _ _ rfl rfl (by omega) (by omega) e2 (by rw [← hp, e1])
            · refine v_iload (pc' := 90) dX5_bestGap_88 rfl rfl ?_
              refine v_goto (tgt := 94) dX5_bestGap_90 (by decide) ?_
              refine v_istore_n3 (pc' := 95) dX5_bestGap_94 (by decide) rfl rfl ?_
              refine v_iload (pc' := 97) dX5_bestGap_95 rfl rfl ?_
              refine v_iload (pc' := 99) dX5_bestGap_97 rfl rfl ?_
              refine v_iconst (pc' := 100) dX5_bestGap_99 kc_1 rfl ?_
              refine v_iadd (pc' := 101) dX5_bestGap_100 rfl ?_
              rw [nI_1]
              refine v_iadd (pc' := 102) dX5_bestGap_101 rfl ?_
              rw [nI_add, show s + (p_ff S.1 s + 1) = s + p_ff S.1 s + 1 by omega]
              refine v_istore4 (pc' := 104) dX5_bestGap_102 (by decide) rfl rfl ?_
              refine v_goto (tgt := 34) dX5_bestGap_104 (by decide) ?_
              first
                | exact absurd c_73 (by decide)
                | exact absurd rfl c_73
                | exact absurd c_85 (by decide)
                | exact absurd rfl c_85
                | exact ih _ _ _ _ _ rfl rfl (by omega) (by omega) e2 (by rw [← hp, e1])
          · refine v_iload (pc' := 78) dX5_bestGap_76 rfl rfl ?_
            refine v_goto (tgt := 82) dX5_bestGap_78 (by decide) ?_
            refine v_istore_n2 (pc' := 83) dX5_bestGap_82 (by decide) rfl rfl ?_
            refine v_iload (pc' := 85) dX5_bestGap_83 rfl rfl ?_
            refine v_if_eq (tgt := 93) (pc' := 88) dX5_bestGap_85 (by decide) rfl (fun c_85 => ?_) (fun c_85 => ?_)
            · refine v_iload_n (pc' := 94) dX5_bestGap_93 rfl rfl ?_
              refine v_istore_n3 (pc' := 95) dX5_bestGap_94 (by decide) rfl rfl ?_
              refine v_iload (pc' := 97) dX5_bestGap_95 rfl rfl ?_
              refine v_iload (pc' := 99) dX5_bestGap_97 rfl rfl ?_
              refine v_iconst (pc' := 100) dX5_bestGap_99 kc_1 rfl ?_
              refine v_iadd (pc' := 101) dX5_bestGap_100 rfl ?_
              rw [nI_1]
              refine v_iadd (pc' := 102) dX5_bestGap_101 rfl ?_
              rw [nI_add, show s + (p_ff S.1 s + 1) = s + p_ff S.1 s + 1 by omega]
              refine v_istore4 (pc' := 104) dX5_bestGap_102 (by decide) rfl rfl ?_
              refine v_goto (tgt := 34) dX5_bestGap_104 (by decide) ?_
              first
                | exact absurd c_73 (by decide)
                | exact absurd rfl c_73
                | exact absurd c_85 (by decide)
                | exact absurd rfl c_85
                | exact ih _ _ _ _ _ rfl rfl (by omega) (by omega) e2 (by rw [← hp, e1])
            · refine v_iload (pc' := 90) dX5_bestGap_88 rfl rfl ?_
              refine v_goto (tgt := 94) dX5_bestGap_90 (by decide) ?_
              refine v_istore_n3 (pc' := 95) dX5_bestGap_94 (by decide) rfl rfl ?_
              refine v_iload (pc' := 97) dX5_bestGap_95 rfl rfl ?_
              refine v_iload (pc' := 99) dX5_bestGap_97 rfl rfl ?_
              refine v_iconst (pc' := 100) dX5_bestGap_99 kc_1 rfl ?_
              refine v_iadd (pc' := 101) dX5_bestGap_100 rfl ?_
              rw [nI_1]
              refine v_iadd (pc' := 102) dX5_bestGap_101 rfl ?_
              rw [nI_add, show s + (p_ff S.1 s + 1) = s + p_ff S.1 s + 1 by omega]
              refine v_istore4 (pc' := 104) dX5_bestGap_102 (by decide) rfl rfl ?_
              refine v_goto (tgt := 34) dX5_bestGap_104 (by decide) ?_
              first
                | exact absurd c_73 (by decide)
                | exact absurd rfl c_73
                | exact absurd c_85 (by decide)
                | exact absurd rfl c_85
                | exact ih _ _ _ _ _ rfl rfl (by omega) (by omega) e2 (by rw [← hp, e1])
        · rw [Int32.not_lt] at c_55
          refine v_iload (pc' := 60) dX5_bestGap_58 rfl rfl ?_
          refine v_iload_n (pc' := 61) dX5_bestGap_60 rfl rfl ?_
          refine v_icmp_ge (tgt := 68) (pc' := 64) dX5_bestGap_61 (by decide) rfl (fun c_61 => ?_) (fun c_61 => ?_)
          · have cc : ¬ (nI w ≤ nI (p_ff S.1 s) ∧ nI (p_ff S.1 s) < x) := fun q => Int32.not_lt.mpr c_61 q.2
            rw [if_neg cc] at e1
            refine v_iconst (pc' := 69) dX5_bestGap_68 kc_0 rfl ?_
            refine v_istore6 (pc' := 71) dX5_bestGap_69 (by decide) rfl rfl ?_
            refine v_iload (pc' := 73) dX5_bestGap_71 rfl rfl ?_
            refine v_if_eq (tgt := 81) (pc' := 76) dX5_bestGap_73 (by decide) rfl (fun c_73 => ?_) (fun c_73 => ?_)
            · refine v_iload_n (pc' := 82) dX5_bestGap_81 rfl rfl ?_
              refine v_istore_n2 (pc' := 83) dX5_bestGap_82 (by decide) rfl rfl ?_
              refine v_iload (pc' := 85) dX5_bestGap_83 rfl rfl ?_
              refine v_if_eq (tgt := 93) (pc' := 88) dX5_bestGap_85 (by decide) rfl (fun c_85 => ?_) (fun c_85 => ?_)
              · refine v_iload_n (pc' := 94) dX5_bestGap_93 rfl rfl ?_
                refine v_istore_n3 (pc' := 95) dX5_bestGap_94 (by decide) rfl rfl ?_
                refine v_iload (pc' := 97) dX5_bestGap_95 rfl rfl ?_
                refine v_iload (pc' := 99) dX5_bestGap_97 rfl rfl ?_
                refine v_iconst (pc' := 100) dX5_bestGap_99 kc_1 rfl ?_
                refine v_iadd (pc' := 101) dX5_bestGap_100 rfl ?_
                rw [nI_1]
                refine v_iadd (pc' := 102) dX5_bestGap_101 rfl ?_
                rw [nI_add, show s + (p_ff S.1 s + 1) = s + p_ff S.1 s + 1 by omega]
                refine v_istore4 (pc' := 104) dX5_bestGap_102 (by decide) rfl rfl ?_
                refine v_goto (tgt := 34) dX5_bestGap_104 (by decide) ?_
                first
                  | exact absurd c_73 (by decide)
                  | exact absurd rfl c_73
                  | exact absurd c_85 (by decide)
                  | exact absurd rfl c_85
                  | exact ih _ _ _ _ _ rfl rfl (by omega) (by omega) e2 (by rw [← hp, e1])
              · refine v_iload (pc' := 90) dX5_bestGap_88 rfl rfl ?_
                refine v_goto (tgt := 94) dX5_bestGap_90 (by decide) ?_
                refine v_istore_n3 (pc' := 95) dX5_bestGap_94 (by decide) rfl rfl ?_
                refine v_iload (pc' := 97) dX5_bestGap_95 rfl rfl ?_
                refine v_iload (pc' := 99) dX5_bestGap_97 rfl rfl ?_
                refine v_iconst (pc' := 100) dX5_bestGap_99 kc_1 rfl ?_
                refine v_iadd (pc' := 101) dX5_bestGap_100 rfl ?_
                rw [nI_1]
                refine v_iadd (pc' := 102) dX5_bestGap_101 rfl ?_
                rw [nI_add, show s + (p_ff S.1 s + 1) = s + p_ff S.1 s + 1 by omega]
                refine v_istore4 (pc' := 104) dX5_bestGap_102 (by decide) rfl rfl ?_
                refine v_goto (tgt := 34) dX5_bestGap_104 (by decide) ?_
                first
                  | exact absurd c_73 (by decide)
                  | exact absurd rfl c_73
                  | exact absurd c_85 (by decide)
                  | exact absurd rfl c_85
                  | exact ih _ _ _ _ _ rfl rfl (by omega) (by omega) e2 (by rw [← hp, e1])
            · refine v_iload (pc' := 78) dX5_bestGap_76 rfl rfl ?_
              refine v_goto (tgt := 82) dX5_bestGap_78 (by decide) ?_
              refine v_istore_n2 (pc' := 83) dX5_bestGap_82 (by decide) rfl rfl ?_
              refine v_iload (pc' := 85) dX5_bestGap_83 rfl rfl ?_
              refine v_if_eq (tgt := 93) (pc' := 88) dX5_bestGap_85 (by decide) rfl (fun c_85 => ?_) (fun c_85 => ?_)
              · refine v_iload_n (pc' := 94) dX5_bestGap_93 rfl rfl ?_
                refine v_istore_n3 (pc' := 95) dX5_bestGap_94 (by decide) rfl rfl ?_
                refine v_iload (pc' := 97) dX5_bestGap_95 rfl rfl ?_
                refine v_iload (pc' := 99) dX5_bestGap_97 rfl rfl ?_
                refine v_iconst (pc' := 100) dX5_bestGap_99 kc_1 rfl ?_
                refine v_iadd (pc' := 101) dX5_bestGap_100 rfl ?_
                rw [nI_1]
                refine v_iadd (pc' := 102) dX5_bestGap_101 rfl ?_
                rw [nI_add, show s + (p_ff S.1 s + 1) = s + p_ff S.1 s + 1 by omega]
                refine v_istore4 (pc' := 104) dX5_bestGap_102 (by decide) rfl rfl ?_
                refine v_goto (tgt := 34) dX5_bestGap_104 (by decide) ?_
                first
                  | exact absurd c_73 (by decide)
                  | exact absurd rfl c_73
                  | exact absurd c_85 (by decide)
                  | exact absurd rfl c_85
                  | exact ih _ _ _ _ _ rfl rfl (by omega) (by omega) e2 (by rw [← hp, e1])
              · refine v_iload (pc' := 90) dX5_bestGap_88 rfl rfl ?_
                refine v_goto (tgt := 94) dX5_bestGap_90 (by decide) ?_
                refine v_istore_n3 (pc' := 95) dX5_bestGap_94 (by decide) rfl rfl ?_
                refine v_iload (pc' := 97) dX5_bestGap_95 rfl rfl ?_
                refine v_iload (pc' := 99) dX5_bestGap_97 rfl rfl ?_
                refine v_iconst (pc' := 100) dX5_bestGap_99 kc_1 rfl ?_
                refine v_iadd (pc' := 101) dX5_bestGap_100 rfl ?_
                rw [nI_1]
                refine v_iadd (pc' := 102) dX5_bestGap_101 rfl ?_
                rw [nI_add, show s + (p_ff S.1 s + 1) = s + p_ff S.1 s + 1 by omega]
                refine v_istore4 (pc' := 104) dX5_bestGap_102 (by decide) rfl rfl ?_
                refine v_goto (tgt := 34) dX5_bestGap_104 (by decide) ?_
                first
                  | exact absurd c_73 (by decide)
                  | exact absurd rfl c_73
                  | exact absurd c_85 (by decide)
                  | exact absurd rfl c_85
                  | exact ih _ _ _ _ _ rfl rfl (by omega) (by omega) e2 (by rw [← hp, e1])
          · rw [Int32.not_le] at c_61
            rw [if_pos (And.intro c_55 c_61)] at e1
            refine v_iconst (pc' := 65) dX5_bestGap_64 kc_1 rfl ?_
            refine v_goto (tgt := 69) dX5_bestGap_65 (by decide) ?_
            refine v_istore6 (pc' := 71) dX5_bestGap_69 (by decide) rfl rfl ?_
            refine v_iload (pc' := 73) dX5_bestGap_71 rfl rfl ?_
            refine v_if_eq (tgt := 81) (pc' := 76) dX5_bestGap_73 (by decide) rfl (fun c_73 => ?_) (fun c_73 => ?_)
            · refine v_iload_n (pc' := 82) dX5_bestGap_81 rfl rfl ?_
              refine v_istore_n2 (pc' := 83) dX5_bestGap_82 (by decide) rfl rfl ?_
              refine v_iload (pc' := 85) dX5_bestGap_83 rfl rfl ?_
              refine v_if_eq (tgt := 93) (pc' := 88) dX5_bestGap_85 (by decide) rfl (fun c_85 => ?_) (fun c_85 => ?_)
              · refine v_iload_n (pc' := 94) dX5_bestGap_93 rfl rfl ?_
                refine v_istore_n3 (pc' := 95) dX5_bestGap_94 (by decide) rfl rfl ?_
                refine v_iload (pc' := 97) dX5_bestGap_95 rfl rfl ?_
                refine v_iload (pc' := 99) dX5_bestGap_97 rfl rfl ?_
                refine v_iconst (pc' := 100) dX5_bestGap_99 kc_1 rfl ?_
                refine v_iadd (pc' := 101) dX5_bestGap_100 rfl ?_
                rw [nI_1]
                refine v_iadd (pc' := 102) dX5_bestGap_101 rfl ?_
                rw [nI_add, show s + (p_ff S.1 s + 1) = s + p_ff S.1 s + 1 by omega]
                refine v_istore4 (pc' := 104) dX5_bestGap_102 (by decide) rfl rfl ?_
                refine v_goto (tgt := 34) dX5_bestGap_104 (by decide) ?_
                first
                  | exact absurd c_73 (by decide)
                  | exact absurd rfl c_73
                  | exact absurd c_85 (by decide)
                  | exact absurd rfl c_85
                  | exact ih _ _ _ _ _ rfl rfl (by omega) (by omega) e2 (by rw [← hp, e1])
              · refine v_iload (pc' := 90) dX5_bestGap_88 rfl rfl ?_
                refine v_goto (tgt := 94) dX5_bestGap_90 (by decide) ?_
                refine v_istore_n3 (pc' := 95) dX5_bestGap_94 (by decide) rfl rfl ?_
                refine v_iload (pc' := 97) dX5_bestGap_95 rfl rfl ?_
                refine v_iload (pc' := 99) dX5_bestGap_97 rfl rfl ?_
                refine v_iconst (pc' := 100) dX5_bestGap_99 kc_1 rfl ?_
                refine v_iadd (pc' := 101) dX5_bestGap_100 rfl ?_
                rw [nI_1]
                refine v_iadd (pc' := 102) dX5_bestGap_101 rfl ?_
                rw [nI_add, show s + (p_ff S.1 s + 1) = s + p_ff S.1 s + 1 by omega]
                refine v_istore4 (pc' := 104) dX5_bestGap_102 (by decide) rfl rfl ?_
                refine v_goto (tgt := 34) dX5_bestGap_104 (by decide) ?_
                first
                  | exact absurd c_73 (by decide)
                  | exact absurd rfl c_73
                  | exact absurd c_85 (by decide)
                  | exact absurd rfl c_85
                  | exact ih _ _ _ _ _ rfl rfl (by omega) (by omega) e2 (by rw [← hp, e1])
            · refine v_iload (pc' := 78) dX5_bestGap_76 rfl rfl ?_
              refine v_goto (tgt := 82) dX5_bestGap_78 (by decide) ?_
              refine v_istore_n2 (pc' := 83) dX5_bestGap_82 (by decide) rfl rfl ?_
              refine v_iload (pc' := 85) dX5_bestGap_83 rfl rfl ?_
              refine v_if_eq (tgt := 93) (pc' := 88) dX5_bestGap_85 (by decide) rfl (fun c_85 => ?_) (fun c_85 => ?_)
              · refine v_iload_n (pc' := 94) dX5_bestGap_93 rfl rfl ?_
                refine v_istore_n3 (pc' := 95) dX5_bestGap_94 (by decide) rfl rfl ?_
                refine v_iload (pc' := 97) dX5_bestGap_95 rfl rfl ?_
                refine v_iload (pc' := 99) dX5_bestGap_97 rfl rfl ?_
                refine v_iconst (pc' := 100) dX5_bestGap_99 kc_1 rfl ?_
                refine v_iadd (pc' := 101) dX5_bestGap_100 rfl ?_
                rw [nI_1]
                refine v_iadd (pc' := 102) dX5_bestGap_101 rfl ?_
                rw [nI_add, show s + (p_ff S.1 s + 1) = s + p_ff S.1 s + 1 by omega]
                refine v_istore4 (pc' := 104) dX5_bestGap_102 (by decide) rfl rfl ?_
                refine v_goto (tgt := 34) dX5_bestGap_104 (by decide) ?_
                first
                  | exact absurd c_73 (by decide)
                  | exact absurd rfl c_73
                  | exact absurd c_85 (by decide)
                  | exact absurd rfl c_85
                  | exact ih _ _ _ _ _ rfl rfl (by omega) (by omega) e2 (by rw [← hp, e1])
              · refine v_iload (pc' := 90) dX5_bestGap_88 rfl rfl ?_
                refine v_goto (tgt := 94) dX5_bestGap_90 (by decide) ?_
                refine v_istore_n3 (pc' := 95) dX5_bestGap_94 (by decide) rfl rfl ?_
                refine v_iload (pc' := 97) dX5_bestGap_95 rfl rfl ?_
                refine v_iload (pc' := 99) dX5_bestGap_97 rfl rfl ?_
                refine v_iconst (pc' := 100) dX5_bestGap_99 kc_1 rfl ?_
                refine v_iadd (pc' := 101) dX5_bestGap_100 rfl ?_
                rw [nI_1]
                refine v_iadd (pc' := 102) dX5_bestGap_101 rfl ?_
                rw [nI_add, show s + (p_ff S.1 s + 1) = s + p_ff S.1 s + 1 by omega]
                refine v_istore4 (pc' := 104) dX5_bestGap_102 (by decide) rfl rfl ?_
                refine v_goto (tgt := 34) dX5_bestGap_104 (by decide) ?_
                first
                  | exact absurd c_73 (by decide)
                  | exact absurd rfl c_73
                  | exact absurd c_85 (by decide)
                  | exact absurd rfl c_85
                  | exact ih _ _ _ _ _ rfl rfl (by omega) (by omega) e2 (by rw [← hp, e1])
    · refine v_iload (pc' := 36) dX5_bestGap_34 rfl rfl ?_
      refine v_bipush (pc' := 38) dX5_bestGap_36 kb_12 rfl ?_
      refine v_icmp_ge (tgt := 107) (pc' := 41) dX5_bestGap_38 (by decide) rfl (fun c_38 => ?_) (fun c_38 => ?_)
      · refine v_iload_n (pc' := 108) dX5_bestGap_107 rfl rfl ?_
        exact v_iret dX5_bestGap_108 rfl (Nat.le_refl _) (Nat.le_refl _) ⟨_, rfl, rfl, rfl, by rw [hkz]; exact r1, fun _ => by rw [← hp, show 12 - s = 0 by omega, p_gapn], by rw [hkz]; exact hM1, hF1⟩
      · exact absurd (nI_le (a := 12) (by omega) (by omega)) c_38

set_option maxRecDepth 20000 in
set_option maxHeartbeats 4000000 in
theorem m_bestGap (hl : l.stackTraces = false) (hK : ShM E G d) (hM : AbsM I d S) (x : Int32) : z_CM E l mX5_bestGap [.ref d, .int x] G I sz d (e_gap x) (v_gap S.1 x) S (S) := by
  obtain ⟨k0, kT, kN, kR, kD, kP, kF⟩ := id hK
  obtain ⟨⟨tn, tl, tc⟩, ⟨nN, nW⟩, ⟨aA, a14, aR⟩, aF, aS⟩ := id hM
  have tail : ∀ k9 : Nat, (e_gap x) = k9 → k9 ≠ 0 → k9 < 3 → z_V E l mX5_bestGap (z_rm 8 0 0) 0 0 (z_q (fun v' G' I' sz' => ∃ y9, v' = some (.int y9) ∧ G' = G ∧ sz' = sz ∧ z_mP d (e_gap x) (v_gap S.1 x) S (S) I y9 I')) 0 0 G I sz 18 [some (.ref d), some (.int x), none, none, none, none, none] [.int (nI k9), .ref d] := by
    intro k9 hk hne h3
    refine v_cVI (pc' := 21) (c5_refused hl k0 _) dX5_bestGap_18 lk_X5_99 mwX5_refused miX5_refused k0 rfl rfl rfl rfl (by decide) (Nat.le_of_ble_eq_true rfl) rfl ?_
    rintro _ I1 ⟨rfl, hI1⟩
    have r1 : I1 d 0 = nI k9 := by rw [hI1, z_up_row, z_row_at, pk_us]
    have hM1 : AbsM I1 d S := by rw [hI1]; exact hM.fld 0 _ (by omega)
    have hF1 : FrM I I1 d := by rw [hI1]; exact FrM.up (by omega)
    obtain ⟨⟨bn, bl, bc⟩, ⟨bN, bW⟩, ⟨bA, b14, bR⟩, bF, bS⟩ := id hM1
    have bW2 : WF (I1 (d + 2)) := by rw [bN]; exact bW
    refine v_if_eq (tgt := 26) (pc' := 24) dX5_bestGap_21 (by decide) rfl (fun c_21 => ?_) (fun c_21 => ?_)
    · rw [z_b_eq0, decide_eq_false_iff_not] at c_21
      exact absurd (nI_lt (a := 0) (by omega) (by omega)) c_21
    · refine v_iconst (pc' := 25) dX5_bestGap_24 kc_0 rfl ?_
      exact v_iret dX5_bestGap_25 rfl (Nat.le_refl _) (Nat.le_refl _) ⟨_, rfl, rfl, rfl, by rw [hk]; exact r1, fun q => absurd (hk.symm.trans q) hne, by rw [hk, if_neg hne]; exact hM1, hF1⟩
  have main : z_in x 1 6 = true → z_V E l mX5_bestGap (z_rm 8 0 0) 0 0 (z_q (fun v' G' I' sz' => ∃ y9, v' = some (.int y9) ∧ G' = G ∧ sz' = sz ∧ z_mP d (e_gap x) (v_gap S.1 x) S (S) I y9 I')) 0 0 G I sz 18 [some (.ref d), some (.int x), none, none, none, none, none] [.int 0, .ref d] := by
    intro f1
    refine v_cVI (pc' := 21) (c5_refused hl k0 _) dX5_bestGap_18 lk_X5_99 mwX5_refused miX5_refused k0 rfl rfl rfl rfl (by decide) (Nat.le_of_ble_eq_true rfl) rfl ?_
    rintro _ I1 ⟨rfl, hI1⟩
    have r1 : I1 d 0 = 0 := by rw [hI1, z_up_row, z_row_at, pk_us]
    have hM1 : AbsM I1 d S := by rw [hI1]; exact hM.fld 0 _ (by omega)
    have hF1 : FrM I I1 d := by rw [hI1]; exact FrM.up (by omega)
    obtain ⟨⟨bn, bl, bc⟩, ⟨bN, bW⟩, ⟨bA, b14, bR⟩, bF, bS⟩ := id hM1
    have bW2 : WF (I1 (d + 2)) := by rw [bN]; exact bW
    have hkz : e_gap x = 0 := by simp [e_gap, *]
    refine v_if_eq (tgt := 26) (pc' := 24) dX5_bestGap_21 (by decide) rfl (fun c_21 => ?_) (fun c_21 => ?_)
    · obtain ⟨w, w1, w2, rfl⟩ := z_in_nI (lo := 1) (hi := 6) (by omega) (by omega) f1
      refine v_iconst (pc' := 27) dX5_bestGap_26 kc_m1 rfl ?_
      refine v_istore_n2 (pc' := 28) dX5_bestGap_27 (by decide) rfl rfl ?_
      refine v_bipush (pc' := 30) dX5_bestGap_28 kb_13 rfl ?_
      refine v_istore_n3 (pc' := 31) dX5_bestGap_30 (by decide) rfl rfl ?_
      refine v_iconst (pc' := 32) dX5_bestGap_31 kc_0 rfl ?_
      refine v_istore4 (pc' := 34) dX5_bestGap_32 (by decide) rfl rfl ?_
      exact m_gapL hl hK w w1 w2 I1 r1 hM1 hF1 hkz 13 0 _ _ none none rfl rfl (by omega) (by omega) (fun _ => rfl) rfl
    · exact absurd (by decide) c_21
  refine z_Ct.of hl pn_X5 [some (.ref d), some (.int x), none, none, none, none, none] rfl (Nat.le_of_ble_eq_true rfl) ?_
  refine v_aload_n (pc' := 1) dX5_bestGap_0 rfl rfl ?_
  refine v_iload_n (pc' := 2) dX5_bestGap_1 rfl rfl ?_
  refine v_i2l (pc' := 3) dX5_bestGap_2 rfl ?_
  refine v_lconst (pc' := 4) dX5_bestGap_3 kl_1 rfl ?_
  refine v_ldc2 (pc' := 7) dX5_bestGap_4 cn_X5_167 rfl ?_
  refine v_cSR (pc' := 10) (c5_in32 hl (x) 1 6 rfl rfl rfl) dX5_bestGap_7 lk_X5_37 mwX5_in msX5_in rfl rfl (by decide) (Nat.le_of_ble_eq_true rfl) rfl ?_
  refine v_if_eq (tgt := 17) (pc' := 13) dX5_bestGap_10 (by decide) rfl (fun c_10 => ?_) (fun c_10 => ?_)
  · first | rw [z_b_ne0] at c_10 | rw [z_b_eq0] at c_10
    refine v_iconst (pc' := 18) dX5_bestGap_17 kc_1 rfl ?_
    first
      | exact main c_10
      | exact tail 1 (by simp [e_gap, *]) (by omega) (by omega)
      | exact tail 2 (by simp [e_gap, *]) (by omega) (by omega)
  · first | rw [z_b_ne0] at c_10 | rw [z_b_eq0] at c_10
    refine v_iconst (pc' := 14) dX5_bestGap_13 kc_0 rfl ?_
    refine v_goto (tgt := 18) dX5_bestGap_14 (by decide) ?_
    first
      | exact main c_10
      | exact tail 1 (by simp [e_gap, *]) (by omega) (by omega)
      | exact tail 2 (by simp [e_gap, *]) (by omega) (by omega)
end MOD4
