/-! THE REFERENCE's static methods that change the row, on (written by wip/whole/gen_ref4.py) -/
section REF4
variable {E : zE} {l : Launch} {G : zG} {I : zI} {sz q : Nat}
set_option maxRecDepth 20000 in
set_option maxHeartbeats 4000000 in
theorem c5_mendOn (hl : l.stackTraces = false) (hq : (q, sI E 0 65) ∈ G) (s : Nat) (hs : s < 12) {s3 : Int32} (hs3 : s3 = nI s) : z_CI E l mX5_mendOn 0 [.ref q, .int s3] G I sz (fun x I' => x = I q (11 + s) ∧ I' = z_row I q (p_mend (I q) s)) := by
  subst hs3
  refine z_Ct.of hl pn_X5 [some (.ref q), some (.int (nI s)), none] rfl (Nat.le_of_ble_eq_true rfl) ?_
  refine v_aload_n (pc' := 1) dX5_mendOn_0 rfl rfl ?_
  refine v_bipush (pc' := 3) dX5_mendOn_1 kb_11 rfl ?_
  refine v_iload_n (pc' := 4) dX5_mendOn_3 rfl rfl ?_
  refine v_iadd (pc' := 5) dX5_mendOn_4 rfl ?_
  refine v_iald (pc' := 6) dX5_mendOn_5 (11 + s) (z_ix11 s) (by assumption) (by omega) (by decide) rfl ?_
  refine v_istore_n2 (pc' := 7) dX5_mendOn_6 (by decide) rfl rfl ?_
  refine v_aload_n (pc' := 8) dX5_mendOn_7 rfl rfl ?_
  refine v_bipush (pc' := 10) dX5_mendOn_8 kb_11 rfl ?_
  refine v_iload_n (pc' := 11) dX5_mendOn_10 rfl rfl ?_
  refine v_iadd (pc' := 12) dX5_mendOn_11 rfl ?_
  refine v_iconst (pc' := 13) dX5_mendOn_12 kc_0 rfl ?_
  refine v_iast (pc' := 14) dX5_mendOn_13 (11 + s) (z_ix11 s) (by assumption) (by omega) (by decide) rfl ?_
  refine v_iload_n (pc' := 15) dX5_mendOn_14 rfl rfl ?_
  exact v_iret dX5_mendOn_15 rfl (Nat.le_refl _) (Nat.le_refl _) ⟨_, rfl, rfl, rfl, rfl, rfl⟩
set_option maxRecDepth 20000 in
set_option maxHeartbeats 4000000 in
theorem c5_addOn (hl : l.stackTraces = false) (hq : (q, sI E 0 65) ∈ G) (w v : Int32) (hc0 : I q 0 = nI (cnt (I q))) (hc : cnt (I q) < 6) : z_CI E l mX5_addOn 1 [.ref q, .int w, .int v] G I sz (fun x I' => x = I q 0 ∧ I' = z_row I q (p_add (I q) w v)) := by
  refine z_Ct.of hl pn_X5 [some (.ref q), some (.int w), some (.int v), none] rfl (Nat.le_of_ble_eq_true rfl) ?_
  refine v_aload_n (pc' := 1) dX5_addOn_0 rfl rfl ?_
  refine v_iconst (pc' := 2) dX5_addOn_1 kc_0 rfl ?_
  refine v_iald (pc' := 3) dX5_addOn_2 (0) rfl (by assumption) (by decide) (by decide) rfl ?_
  refine v_istore_n3 (pc' := 4) dX5_addOn_3 (by decide) rfl rfl ?_
  refine v_aload_n (pc' := 5) dX5_addOn_4 rfl rfl ?_
  refine v_iload_n (pc' := 6) dX5_addOn_5 rfl rfl ?_
  refine v_iconst (pc' := 7) dX5_addOn_6 kc_0 rfl ?_
  refine v_iload_n (pc' := 8) dX5_addOn_7 rfl rfl ?_
  refine v_cSV (pc' := 11) (c5_lay hl hq (cnt (I q)) 0 (w) hc0 rfl (by omega)) dX5_addOn_8 lk_X5_69 mwX5_lay msX5_lay rfl rfl (by decide) (Nat.le_of_ble_eq_true rfl) rfl ?_
  rintro _ rfl
  try simp only [z_up_row, z_row_row, z_row_at]
  refine v_aload_n (pc' := 12) dX5_addOn_11 rfl rfl ?_
  refine v_iload_n (pc' := 13) dX5_addOn_12 rfl rfl ?_
  refine v_iconst (pc' := 14) dX5_addOn_13 kc_1 rfl ?_
  refine v_iload_n (pc' := 15) dX5_addOn_14 rfl rfl ?_
  refine v_cSV (pc' := 18) (c5_lay hl hq (cnt (I q)) 1 (v) hc0 rfl (by omega)) dX5_addOn_15 lk_X5_69 mwX5_lay msX5_lay rfl rfl (by decide) (Nat.le_of_ble_eq_true rfl) rfl ?_
  rintro _ rfl
  try simp only [z_up_row, z_row_row, z_row_at]
  refine v_aload_n (pc' := 19) dX5_addOn_18 rfl rfl ?_
  refine v_iload_n (pc' := 20) dX5_addOn_19 rfl rfl ?_
  refine v_iconst (pc' := 21) dX5_addOn_20 kc_2 rfl ?_
  refine v_iload_n (pc' := 22) dX5_addOn_21 rfl rfl ?_
  refine v_cSV (pc' := 25) (c5_lay hl hq (cnt (I q)) 2 (v) hc0 rfl (by omega)) dX5_addOn_22 lk_X5_69 mwX5_lay msX5_lay rfl rfl (by decide) (Nat.le_of_ble_eq_true rfl) rfl ?_
  rintro _ rfl
  try simp only [z_up_row, z_row_row, z_row_at]
  refine v_aload_n (pc' := 26) dX5_addOn_25 rfl rfl ?_
  refine v_iload_n (pc' := 27) dX5_addOn_26 rfl rfl ?_
  refine v_iconst (pc' := 28) dX5_addOn_27 kc_3 rfl ?_
  refine v_iconst (pc' := 29) dX5_addOn_28 kc_0 rfl ?_
  refine v_cSV (pc' := 32) (c5_lay hl hq (cnt (I q)) 3 (0) hc0 rfl (by omega)) dX5_addOn_29 lk_X5_69 mwX5_lay msX5_lay rfl rfl (by decide) (Nat.le_of_ble_eq_true rfl) rfl ?_
  rintro _ rfl
  try simp only [z_up_row, z_row_row, z_row_at]
  refine v_aload_n (pc' := 33) dX5_addOn_32 rfl rfl ?_
  refine v_iload_n (pc' := 34) dX5_addOn_33 rfl rfl ?_
  refine v_iconst (pc' := 35) dX5_addOn_34 kc_4 rfl ?_
  refine v_iconst (pc' := 36) dX5_addOn_35 kc_0 rfl ?_
  refine v_cSV (pc' := 39) (c5_lay hl hq (cnt (I q)) 4 (0) hc0 rfl (by omega)) dX5_addOn_36 lk_X5_69 mwX5_lay msX5_lay rfl rfl (by decide) (Nat.le_of_ble_eq_true rfl) rfl ?_
  rintro _ rfl
  try simp only [z_up_row, z_row_row, z_row_at]
  refine v_aload_n (pc' := 40) dX5_addOn_39 rfl rfl ?_
  refine v_iload_n (pc' := 41) dX5_addOn_40 rfl rfl ?_
  refine v_iconst (pc' := 42) dX5_addOn_41 kc_5 rfl ?_
  refine v_iconst (pc' := 43) dX5_addOn_42 kc_m1 rfl ?_
  refine v_cSV (pc' := 46) (c5_lay hl hq (cnt (I q)) 5 (-1) hc0 rfl (by omega)) dX5_addOn_43 lk_X5_69 mwX5_lay msX5_lay rfl rfl (by decide) (Nat.le_of_ble_eq_true rfl) rfl ?_
  rintro _ rfl
  try simp only [z_up_row, z_row_row, z_row_at]
  refine v_aload_n (pc' := 47) dX5_addOn_46 rfl rfl ?_
  refine v_iload_n (pc' := 48) dX5_addOn_47 rfl rfl ?_
  refine v_bipush (pc' := 50) dX5_addOn_48 kb_6 rfl ?_
  refine v_iconst (pc' := 51) dX5_addOn_50 kc_0 rfl ?_
  refine v_cSV (pc' := 54) (c5_lay hl hq (cnt (I q)) 6 (0) hc0 rfl (by omega)) dX5_addOn_51 lk_X5_69 mwX5_lay msX5_lay rfl rfl (by decide) (Nat.le_of_ble_eq_true rfl) rfl ?_
  rintro _ rfl
  try simp only [z_up_row, z_row_row, z_row_at]
  refine v_aload_n (pc' := 55) dX5_addOn_54 rfl rfl ?_
  refine v_iconst (pc' := 56) dX5_addOn_55 kc_0 rfl ?_
  refine v_dup2 (pc' := 57) dX5_addOn_56 rfl rfl rfl ?_
  refine v_iald (pc' := 58) dX5_addOn_57 (0) rfl (by assumption) (by decide) (by decide) rfl ?_
  refine v_iconst (pc' := 59) dX5_addOn_58 kc_1 rfl ?_
  refine v_iadd (pc' := 60) dX5_addOn_59 rfl ?_
  refine v_iast (pc' := 61) dX5_addOn_60 (0) rfl (by assumption) (by decide) (by decide) rfl ?_
  refine v_iload_n (pc' := 62) dX5_addOn_61 rfl rfl ?_
  exact v_iret dX5_addOn_62 rfl (Nat.le_refl _) (Nat.le_refl _) ⟨_, rfl, rfl, rfl, rfl, by simp only [z_up_row, z_row_row, z_row_at, p_add]; simp (disch := omega) only [pk_us, pk_un, upd_hi, tf_upd_eq, tf_upd_w, tf_upd_lo, z_row_at]⟩
set_option maxRecDepth 20000 in
set_option maxHeartbeats 4000000 in
theorem c5_stopOn (hl : l.stackTraces = false) (hq : (q, sI E 0 65) ∈ G) (t : Nat) (ht : t < 6) {t3 : Int32} (ht3 : t3 = nI t) : z_CI E l mX5_stopOn 1 [.ref q, .int t3] G I sz (fun x I' => x = tf (I q) t 1 ∧ I' = z_row I q (p_stop (I q) t)) := by
  subst ht3
  refine z_Ct.of hl pn_X5 [some (.ref q), some (.int (nI t))] rfl (Nat.le_of_ble_eq_true rfl) ?_
  refine v_aload_n (pc' := 1) dX5_stopOn_0 rfl rfl ?_
  refine v_iload_n (pc' := 2) dX5_stopOn_1 rfl rfl ?_
  refine v_iconst (pc' := 3) dX5_stopOn_2 kc_4 rfl ?_
  refine v_iconst (pc' := 4) dX5_stopOn_3 kc_0 rfl ?_
  refine v_cSV (pc' := 7) (c5_lay hl hq t 4 (0) rfl rfl (by omega)) dX5_stopOn_4 lk_X5_69 mwX5_lay msX5_lay rfl rfl (by decide) (Nat.le_of_ble_eq_true rfl) rfl ?_
  rintro _ rfl
  try simp only [z_up_row, z_row_row, z_row_at]
  refine v_aload_n (pc' := 8) dX5_stopOn_7 rfl rfl ?_
  refine v_iload_n (pc' := 9) dX5_stopOn_8 rfl rfl ?_
  refine v_iconst (pc' := 10) dX5_stopOn_9 kc_5 rfl ?_
  refine v_iconst (pc' := 11) dX5_stopOn_10 kc_m1 rfl ?_
  refine v_cSV (pc' := 14) (c5_lay hl hq t 5 (-1) rfl rfl (by omega)) dX5_stopOn_11 lk_X5_69 mwX5_lay msX5_lay rfl rfl (by decide) (Nat.le_of_ble_eq_true rfl) rfl ?_
  rintro _ rfl
  try simp only [z_up_row, z_row_row, z_row_at]
  refine v_aload_n (pc' := 15) dX5_stopOn_14 rfl rfl ?_
  refine v_iload_n (pc' := 16) dX5_stopOn_15 rfl rfl ?_
  refine v_iconst (pc' := 17) dX5_stopOn_16 kc_2 rfl ?_
  refine v_aload_n (pc' := 18) dX5_stopOn_17 rfl rfl ?_
  refine v_iload_n (pc' := 19) dX5_stopOn_18 rfl rfl ?_
  refine v_iconst (pc' := 20) dX5_stopOn_19 kc_1 rfl ?_
  refine v_cSR (pc' := 23) (c5_of hl hq t 1 rfl rfl (by omega)) dX5_stopOn_20 lk_X5_43 mwX5_of msX5_of rfl rfl (by decide) (Nat.le_of_ble_eq_true rfl) rfl ?_
  refine v_cSV (pc' := 26) (c5_lay hl hq t 2 (_) rfl rfl (by omega)) dX5_stopOn_23 lk_X5_69 mwX5_lay msX5_lay rfl rfl (by decide) (Nat.le_of_ble_eq_true rfl) rfl ?_
  rintro _ rfl
  try simp only [z_up_row, z_row_row, z_row_at]
  refine v_aload_n (pc' := 27) dX5_stopOn_26 rfl rfl ?_
  refine v_iload_n (pc' := 28) dX5_stopOn_27 rfl rfl ?_
  refine v_bipush (pc' := 30) dX5_stopOn_28 kb_6 rfl ?_
  refine v_iconst (pc' := 31) dX5_stopOn_30 kc_0 rfl ?_
  refine v_cSV (pc' := 34) (c5_lay hl hq t 6 (0) rfl rfl (by omega)) dX5_stopOn_31 lk_X5_69 mwX5_lay msX5_lay rfl rfl (by decide) (Nat.le_of_ble_eq_true rfl) rfl ?_
  rintro _ rfl
  try simp only [z_up_row, z_row_row, z_row_at]
  refine v_aload_n (pc' := 35) dX5_stopOn_34 rfl rfl ?_
  refine v_iload_n (pc' := 36) dX5_stopOn_35 rfl rfl ?_
  refine v_iconst (pc' := 37) dX5_stopOn_36 kc_1 rfl ?_
  refine v_cSR (pc' := 40) (c5_of hl hq t 1 rfl rfl (by omega)) dX5_stopOn_37 lk_X5_43 mwX5_of msX5_of rfl rfl (by decide) (Nat.le_of_ble_eq_true rfl) rfl ?_
  exact v_iret dX5_stopOn_40 rfl (Nat.le_refl _) (Nat.le_refl _) ⟨_, rfl, rfl, rfl, by simp (disch := omega) only [pk_us, pk_un, upd_hi, tf_upd_eq, tf_upd_w, tf_upd_lo, z_row_at], by simp only [p_stop]; simp (disch := omega) only [pk_us, pk_un, upd_hi, tf_upd_eq, tf_upd_w, tf_upd_lo, z_row_at]⟩
set_option maxRecDepth 20000 in
set_option maxHeartbeats 4000000 in
theorem c5_bringOn (hl : l.stackTraces = false) (hq : (q, sI E 0 65) ∈ G) (t : Nat) (s : Int32) (ht : t < 6) {t3 : Int32} (ht3 : t3 = nI t) : z_CI E l mX5_bringOn 1 [.ref q, .int t3, .int s] G I sz (fun x I' => x = p_bringv (I q) t ∧ I' = z_row I q (p_bring (I q) t s)) := by
  subst ht3
  refine z_Ct.of hl pn_X5 [some (.ref q), some (.int (nI t)), some (.int s), none, none, none, none] rfl (Nat.le_of_ble_eq_true rfl) ?_
  refine v_aload_n (pc' := 1) dX5_bringOn_0 rfl rfl ?_
  refine v_iload_n (pc' := 2) dX5_bringOn_1 rfl rfl ?_
  refine v_iconst (pc' := 3) dX5_bringOn_2 kc_0 rfl ?_
  refine v_cSR (pc' := 6) (c5_of hl hq t 0 rfl rfl (by omega)) dX5_bringOn_3 lk_X5_43 mwX5_of msX5_of rfl rfl (by decide) (Nat.le_of_ble_eq_true rfl) rfl ?_
  refine v_istore_n3 (pc' := 7) dX5_bringOn_6 (by decide) rfl rfl ?_
  refine v_aload_n (pc' := 8) dX5_bringOn_7 rfl rfl ?_
  refine v_bipush (pc' := 10) dX5_bringOn_8 kb_8 rfl ?_
  refine v_iald (pc' := 11) dX5_bringOn_10 (8) rfl (by assumption) (by decide) (by decide) rfl ?_
  refine v_iload_n (pc' := 12) dX5_bringOn_11 rfl rfl ?_
  refine v_imul (pc' := 13) dX5_bringOn_12 rfl ?_
  refine v_istore4 (pc' := 15) dX5_bringOn_13 (by decide) rfl rfl ?_
  refine v_iload (pc' := 17) dX5_bringOn_15 rfl rfl ?_
  refine v_aload_n (pc' := 18) dX5_bringOn_17 rfl rfl ?_
  refine v_bipush (pc' := 20) dX5_bringOn_18 kb_9 rfl ?_
  refine v_iald (pc' := 21) dX5_bringOn_20 (9) rfl (by assumption) (by decide) (by decide) rfl ?_
  refine v_iadd (pc' := 22) dX5_bringOn_21 rfl ?_
  refine v_istore5 (pc' := 24) dX5_bringOn_22 (by decide) rfl rfl ?_
  refine v_aload_n (pc' := 25) dX5_bringOn_24 rfl rfl ?_
  refine v_iconst (pc' := 26) dX5_bringOn_25 kc_5 rfl ?_
  refine v_iload_n (pc' := 27) dX5_bringOn_26 rfl rfl ?_
  refine v_iast (pc' := 28) dX5_bringOn_27 (5) rfl (by assumption) (by decide) (by decide) rfl ?_
  refine v_aload_n (pc' := 29) dX5_bringOn_28 rfl rfl ?_
  refine v_bipush (pc' := 31) dX5_bringOn_29 kb_6 rfl ?_
  refine v_iload_n (pc' := 32) dX5_bringOn_31 rfl rfl ?_
  refine v_iast (pc' := 33) dX5_bringOn_32 (6) rfl (by assumption) (by decide) (by decide) rfl ?_
  refine v_aload_n (pc' := 34) dX5_bringOn_33 rfl rfl ?_
  refine v_bipush (pc' := 36) dX5_bringOn_34 kb_7 rfl ?_
  refine v_iload (pc' := 38) dX5_bringOn_36 rfl rfl ?_
  refine v_iast (pc' := 39) dX5_bringOn_38 (7) rfl (by assumption) (by decide) (by decide) rfl ?_
  try simp only [z_up_row, z_row_row, z_row_at]
  refine v_aload_n (pc' := 40) dX5_bringOn_39 rfl rfl ?_
  refine v_iload_n (pc' := 41) dX5_bringOn_40 rfl rfl ?_
  refine v_iconst (pc' := 42) dX5_bringOn_41 kc_4 rfl ?_
  refine v_cSR (pc' := 45) (c5_of hl hq t 4 rfl rfl (by omega)) dX5_bringOn_42 lk_X5_43 mwX5_of msX5_of rfl rfl (by decide) (Nat.le_of_ble_eq_true rfl) rfl ?_
  refine v_if_ne (tgt := 65) (pc' := 48) dX5_bringOn_45 (by decide) rfl (fun c_45 => ?_) (fun c_45 => ?_)
  · simp only [z_row_at, tf_upd_lo _ _ (show 5 < 23 by decide), tf_upd_lo _ _ (show 6 < 23 by decide), tf_upd_lo _ _ (show 7 < 23 by decide)] at c_45
    refine v_iload_n (pc' := 66) dX5_bringOn_65 rfl rfl ?_
    refine v_aload_n (pc' := 67) dX5_bringOn_66 rfl rfl ?_
    refine v_iload_n (pc' := 68) dX5_bringOn_67 rfl rfl ?_
    refine v_iconst (pc' := 69) dX5_bringOn_68 kc_5 rfl ?_
    refine v_cSR (pc' := 72) (c5_of hl hq t 5 rfl rfl (by omega)) dX5_bringOn_69 lk_X5_43 mwX5_of msX5_of rfl rfl (by decide) (Nat.le_of_ble_eq_true rfl) rfl ?_
    refine v_isub (pc' := 73) dX5_bringOn_72 rfl ?_
    refine v_istore6 (pc' := 75) dX5_bringOn_73 (by decide) rfl rfl ?_
    refine v_iload (pc' := 77) dX5_bringOn_75 rfl rfl ?_
    refine v_iload_n (pc' := 78) dX5_bringOn_77 rfl rfl ?_
    refine v_icmp_ge (tgt := 101) (pc' := 81) dX5_bringOn_78 (by decide) rfl (fun c_78 => ?_) (fun c_78 => ?_)
    · simp only [z_row_at, tf_upd_lo _ _ (show 5 < 23 by decide), tf_upd_lo _ _ (show 6 < 23 by decide), tf_upd_lo _ _ (show 7 < 23 by decide), ← Int32.not_lt] at c_78
      refine v_iload (pc' := 103) dX5_bringOn_101 rfl rfl ?_
      exact v_iret dX5_bringOn_103 rfl (Nat.le_refl _) (Nat.le_refl _) ⟨_, rfl, rfl, rfl, by simp only [p_bringv, if_neg c_45], by
        try simp only [z_up_row, z_row_row, z_row_at]
        first
          | (simp only [p_bring, if_neg c_45, if_pos (And.intro c_78 c_85), p_br1]; done)
          | (simp only [p_bring, if_neg c_45, if_pos (And.intro c_78 c_85), p_br1]; simp (disch := omega) only [pk_us, pk_un, upd_hi, tf_upd_eq, tf_upd_w, tf_upd_lo, z_row_at]; done)
          | (simp only [p_bring, if_neg c_45, if_neg (fun q9 => c_85 (And.right q9)), p_br1]; done)
          | (simp only [p_bring, if_neg c_45, if_neg (fun q9 => c_78 (And.left q9)), p_br1]; done)⟩
    · simp only [z_row_at, tf_upd_lo _ _ (show 5 < 23 by decide), tf_upd_lo _ _ (show 6 < 23 by decide), tf_upd_lo _ _ (show 7 < 23 by decide), Int32.not_le] at c_78
      refine v_iload (pc' := 83) dX5_bringOn_81 rfl rfl ?_
      refine v_ineg (pc' := 84) dX5_bringOn_83 rfl ?_
      refine v_iload_n (pc' := 85) dX5_bringOn_84 rfl rfl ?_
      refine v_icmp_ge (tgt := 101) (pc' := 88) dX5_bringOn_85 (by decide) rfl (fun c_85 => ?_) (fun c_85 => ?_)
      · simp only [z_row_at, tf_upd_lo _ _ (show 5 < 23 by decide), tf_upd_lo _ _ (show 6 < 23 by decide), tf_upd_lo _ _ (show 7 < 23 by decide), ← Int32.not_lt] at c_85
        refine v_iload (pc' := 103) dX5_bringOn_101 rfl rfl ?_
        exact v_iret dX5_bringOn_103 rfl (Nat.le_refl _) (Nat.le_refl _) ⟨_, rfl, rfl, rfl, by simp only [p_bringv, if_neg c_45], by
          try simp only [z_up_row, z_row_row, z_row_at]
          first
            | (simp only [p_bring, if_neg c_45, if_pos (And.intro c_78 c_85), p_br1]; done)
            | (simp only [p_bring, if_neg c_45, if_pos (And.intro c_78 c_85), p_br1]; simp (disch := omega) only [pk_us, pk_un, upd_hi, tf_upd_eq, tf_upd_w, tf_upd_lo, z_row_at]; done)
            | (simp only [p_bring, if_neg c_45, if_neg (fun q9 => c_85 (And.right q9)), p_br1]; done)
            | (simp only [p_bring, if_neg c_45, if_neg (fun q9 => c_78 (And.left q9)), p_br1]; done)⟩
      · simp only [z_row_at, tf_upd_lo _ _ (show 5 < 23 by decide), tf_upd_lo _ _ (show 6 < 23 by decide), tf_upd_lo _ _ (show 7 < 23 by decide), Int32.not_le] at c_85
        refine v_aload_n (pc' := 89) dX5_bringOn_88 rfl rfl ?_
        refine v_iload_n (pc' := 90) dX5_bringOn_89 rfl rfl ?_
        refine v_iconst (pc' := 91) dX5_bringOn_90 kc_4 rfl ?_
        refine v_iconst (pc' := 92) dX5_bringOn_91 kc_3 rfl ?_
        refine v_cSV (pc' := 95) (c5_lay hl hq t 4 (3) rfl rfl (by omega)) dX5_bringOn_92 lk_X5_69 mwX5_lay msX5_lay rfl rfl (by decide) (Nat.le_of_ble_eq_true rfl) rfl ?_
        rintro _ rfl
        try simp only [z_up_row, z_row_row, z_row_at]
        refine v_aload_n (pc' := 96) dX5_bringOn_95 rfl rfl ?_
        refine v_bipush (pc' := 98) dX5_bringOn_96 kb_7 rfl ?_
        refine v_iload (pc' := 100) dX5_bringOn_98 rfl rfl ?_
        refine v_iast (pc' := 101) dX5_bringOn_100 (7) rfl (by assumption) (by decide) (by decide) rfl ?_
        refine v_iload (pc' := 103) dX5_bringOn_101 rfl rfl ?_
        exact v_iret dX5_bringOn_103 rfl (Nat.le_refl _) (Nat.le_refl _) ⟨_, rfl, rfl, rfl, by simp only [p_bringv, if_neg c_45], by
          try simp only [z_up_row, z_row_row, z_row_at]
          first
            | (simp only [p_bring, if_neg c_45, if_pos (And.intro c_78 c_85), p_br1]; done)
            | (simp only [p_bring, if_neg c_45, if_pos (And.intro c_78 c_85), p_br1]; simp (disch := omega) only [pk_us, pk_un, upd_hi, tf_upd_eq, tf_upd_w, tf_upd_lo, z_row_at]; done)
            | (simp only [p_bring, if_neg c_45, if_neg (fun q9 => c_85 (And.right q9)), p_br1]; done)
            | (simp only [p_bring, if_neg c_45, if_neg (fun q9 => c_78 (And.left q9)), p_br1]; done)⟩
  · simp only [z_row_at, tf_upd_lo _ _ (show 5 < 23 by decide), tf_upd_lo _ _ (show 6 < 23 by decide), tf_upd_lo _ _ (show 7 < 23 by decide)] at c_45
    refine v_aload_n (pc' := 49) dX5_bringOn_48 rfl rfl ?_
    refine v_iload_n (pc' := 50) dX5_bringOn_49 rfl rfl ?_
    refine v_iconst (pc' := 51) dX5_bringOn_50 kc_4 rfl ?_
    refine v_iconst (pc' := 52) dX5_bringOn_51 kc_1 rfl ?_
    refine v_cSV (pc' := 55) (c5_lay hl hq t 4 (1) rfl rfl (by omega)) dX5_bringOn_52 lk_X5_69 mwX5_lay msX5_lay rfl rfl (by decide) (Nat.le_of_ble_eq_true rfl) rfl ?_
    rintro _ rfl
    try simp only [z_up_row, z_row_row, z_row_at]
    refine v_aload_n (pc' := 56) dX5_bringOn_55 rfl rfl ?_
    refine v_iload_n (pc' := 57) dX5_bringOn_56 rfl rfl ?_
    refine v_iconst (pc' := 58) dX5_bringOn_57 kc_5 rfl ?_
    refine v_iload_n (pc' := 59) dX5_bringOn_58 rfl rfl ?_
    refine v_cSV (pc' := 62) (c5_lay hl hq t 5 (s) rfl rfl (by omega)) dX5_bringOn_59 lk_X5_69 mwX5_lay msX5_lay rfl rfl (by decide) (Nat.le_of_ble_eq_true rfl) rfl ?_
    rintro _ rfl
    try simp only [z_up_row, z_row_row, z_row_at]
    refine v_iload (pc' := 64) dX5_bringOn_62 rfl rfl ?_
    exact v_iret dX5_bringOn_64 rfl (Nat.le_refl _) (Nat.le_refl _) ⟨_, rfl, rfl, rfl, by simp only [p_bringv, if_pos c_45], by simp only [p_bring, if_pos c_45, p_br1]; try simp (disch := omega) only [pk_us, pk_un, upd_hi, tf_upd_eq, tf_upd_w, tf_upd_lo, z_row_at]⟩
set_option maxRecDepth 20000 in
set_option maxHeartbeats 4000000 in
theorem c5_turnOn (hl : l.stackTraces = false) (hq : (q, sI E 0 65) ∈ G) (hW : WF (I q)) (s : Nat) (hs : s < 12) {s3 : Int32} (hs3 : s3 = nI s) : z_CI E l mX5_turnOn 4 [.ref q, .int s3] G I sz (fun x I' => x = p_hurt (I q) (nI s) ∧ I' = z_row I q (p_bad (I q) s)) := by
  subst hs3
  have tail : z_V E l mX5_turnOn (z_rm 4 0 0) 0 0 (z_q (fun v' G' I' sz' => ∃ x, v' = some (.int x) ∧ G' = G ∧ sz' = sz ∧ (x = p_hurt (I q) (nI s) ∧ I' = z_row I q (p_bad (I q) s)))) 0 0 G (z_row I q (p_bad1 (I q) s)) sz 38 [some (.ref q), some (.int (nI s)), some (.int (p_hurt (I q) (nI s))), some (.int (p_comer (I q) (nI s)))] [] := by
    refine v_aload_n (pc' := 39) dX5_turnOn_38 rfl rfl ?_
    refine v_bipush (pc' := 41) dX5_turnOn_39 kb_11 rfl ?_
    refine v_iload_n (pc' := 42) dX5_turnOn_41 rfl rfl ?_
    refine v_iadd (pc' := 43) dX5_turnOn_42 rfl ?_
    refine v_iconst (pc' := 44) dX5_turnOn_43 kc_1 rfl ?_
    skip
    refine v_iast (pc' := 45) dX5_turnOn_44 (11 + s) (z_ix11 s) (by assumption) (by omega) (by decide) rfl ?_
    refine v_iload_n (pc' := 46) dX5_turnOn_45 rfl rfl ?_
    refine v_iconst (pc' := 47) dX5_turnOn_46 kc_m1 rfl ?_
    refine v_icmp_eq (tgt := 84) (pc' := 50) dX5_turnOn_47 (by decide) rfl (fun c_47 => ?_) (fun c_47 => ?_)
    · refine v_iload_n (pc' := 85) dX5_turnOn_84 rfl rfl ?_
      exact v_iret dX5_turnOn_85 rfl (Nat.le_refl _) (Nat.le_refl _) ⟨_, rfl, rfl, rfl, rfl, by
        try simp only [z_up_row, z_row_row, z_row_at]
        first
          | (simp only [p_bad, if_pos c_47]; done)
          | (simp only [p_bad, if_neg c_47, huc, p_off]; simp (disch := omega) only [pk_us, pk_un, upd_hi, tf_upd_eq, tf_upd_w, tf_upd_lo, z_row_at]; done)⟩
    · obtain ⟨u, hu1, hu6, hu⟩ : ∃ u, u < cnt (I q) ∧ u < 6 ∧ p_hurt (I q) (nI s) = nI u := (p_hurt_cases hW (nI s)).resolve_left c_47
      have huc : (p_hurt (I q) (nI s)).toNatClampNeg = u := nI_jt hu (by omega)
      try simp only [z_up_row, z_row_row, z_row_at]
      refine v_aload_n (pc' := 51) dX5_turnOn_50 rfl rfl ?_
      refine v_iload_n (pc' := 52) dX5_turnOn_51 rfl rfl ?_
      refine v_iconst (pc' := 53) dX5_turnOn_52 kc_4 rfl ?_
      refine v_iconst (pc' := 54) dX5_turnOn_53 kc_0 rfl ?_
      refine v_cSV (pc' := 57) (c5_lay hl hq u 4 (0) hu rfl (by omega)) dX5_turnOn_54 lk_X5_69 mwX5_lay msX5_lay rfl rfl (by decide) (Nat.le_of_ble_eq_true rfl) rfl ?_
      rintro _ rfl
      try simp only [z_up_row, z_row_row, z_row_at]
      refine v_aload_n (pc' := 58) dX5_turnOn_57 rfl rfl ?_
      refine v_iload_n (pc' := 59) dX5_turnOn_58 rfl rfl ?_
      refine v_iconst (pc' := 60) dX5_turnOn_59 kc_5 rfl ?_
      refine v_iconst (pc' := 61) dX5_turnOn_60 kc_m1 rfl ?_
      refine v_cSV (pc' := 64) (c5_lay hl hq u 5 (-1) hu rfl (by omega)) dX5_turnOn_61 lk_X5_69 mwX5_lay msX5_lay rfl rfl (by decide) (Nat.le_of_ble_eq_true rfl) rfl ?_
      rintro _ rfl
      try simp only [z_up_row, z_row_row, z_row_at]
      refine v_aload_n (pc' := 65) dX5_turnOn_64 rfl rfl ?_
      refine v_iload_n (pc' := 66) dX5_turnOn_65 rfl rfl ?_
      refine v_iconst (pc' := 67) dX5_turnOn_66 kc_1 rfl ?_
      refine v_aload_n (pc' := 68) dX5_turnOn_67 rfl rfl ?_
      refine v_iload_n (pc' := 69) dX5_turnOn_68 rfl rfl ?_
      refine v_iconst (pc' := 70) dX5_turnOn_69 kc_2 rfl ?_
      refine v_cSR (pc' := 73) (c5_of hl hq u 2 hu rfl (by omega)) dX5_turnOn_70 lk_X5_43 mwX5_of msX5_of rfl rfl (by decide) (Nat.le_of_ble_eq_true rfl) rfl ?_
      refine v_cSV (pc' := 76) (c5_lay hl hq u 1 (_) hu rfl (by omega)) dX5_turnOn_73 lk_X5_69 mwX5_lay msX5_lay rfl rfl (by decide) (Nat.le_of_ble_eq_true rfl) rfl ?_
      rintro _ rfl
      try simp only [z_up_row, z_row_row, z_row_at]
      refine v_aload_n (pc' := 77) dX5_turnOn_76 rfl rfl ?_
      refine v_iload_n (pc' := 78) dX5_turnOn_77 rfl rfl ?_
      refine v_bipush (pc' := 80) dX5_turnOn_78 kb_6 rfl ?_
      refine v_iconst (pc' := 81) dX5_turnOn_80 kc_0 rfl ?_
      refine v_cSV (pc' := 84) (c5_lay hl hq u 6 (0) hu rfl (by omega)) dX5_turnOn_81 lk_X5_69 mwX5_lay msX5_lay rfl rfl (by decide) (Nat.le_of_ble_eq_true rfl) rfl ?_
      rintro _ rfl
      try simp only [z_up_row, z_row_row, z_row_at]
      refine v_iload_n (pc' := 85) dX5_turnOn_84 rfl rfl ?_
      exact v_iret dX5_turnOn_85 rfl (Nat.le_refl _) (Nat.le_refl _) ⟨_, rfl, rfl, rfl, rfl, by
        try simp only [z_up_row, z_row_row, z_row_at]
        first
          | (simp only [p_bad, if_pos c_47]; done)
          | (simp only [p_bad, if_neg c_47, huc, p_off]; simp (disch := omega) only [pk_us, pk_un, upd_hi, tf_upd_eq, tf_upd_w, tf_upd_lo, z_row_at]; done)⟩
  refine z_Ct.of hl pn_X5 [some (.ref q), some (.int (nI s)), none, none] rfl (Nat.le_of_ble_eq_true rfl) ?_
  refine v_aload_n (pc' := 1) dX5_turnOn_0 rfl rfl ?_
  refine v_iload_n (pc' := 2) dX5_turnOn_1 rfl rfl ?_
  refine v_cSR (pc' := 5) (c5_hurt hl hq hW (nI s)) dX5_turnOn_2 lk_X5_82 mwX5_hurt msX5_hurt rfl rfl (by decide) (Nat.le_of_ble_eq_true rfl) rfl ?_
  refine v_istore_n2 (pc' := 6) dX5_turnOn_5 (by decide) rfl rfl ?_
  refine v_aload_n (pc' := 7) dX5_turnOn_6 rfl rfl ?_
  refine v_iload_n (pc' := 8) dX5_turnOn_7 rfl rfl ?_
  refine v_cSR (pc' := 11) (c5_comer hl hq hW (nI s)) dX5_turnOn_8 lk_X5_55 mwX5_comer msX5_comer rfl rfl (by decide) (Nat.le_of_ble_eq_true rfl) rfl ?_
  refine v_istore_n3 (pc' := 12) dX5_turnOn_11 (by decide) rfl rfl ?_
  refine v_iload_n (pc' := 13) dX5_turnOn_12 rfl rfl ?_
  refine v_iconst (pc' := 14) dX5_turnOn_13 kc_m1 rfl ?_
  refine v_icmp_eq (tgt := 24) (pc' := 17) dX5_turnOn_14 (by decide) rfl (fun c_14 => ?_) (fun c_14 => ?_)
  · refine v_iload_n (pc' := 25) dX5_turnOn_24 rfl rfl ?_
    refine v_iconst (pc' := 26) dX5_turnOn_25 kc_m1 rfl ?_
    refine v_icmp_ne (tgt := 38) (pc' := 29) dX5_turnOn_26 (by decide) rfl (fun c_26 => ?_) (fun c_26 => ?_)
    · first
        | exact absurd c_14 c_26
        | exact absurd c_26 c_14
        | (have e : p_bad1 (I q) s = p_drop (I q) := (by simp [p_bad1, *])
           rw [e] at tail
           exact tail)
        | (have e : p_bad1 (I q) s = I q := (by simp [p_bad1, *])
           rw [e, z_row_self] at tail
           exact tail)
    · refine v_iload_n (pc' := 30) dX5_turnOn_29 rfl rfl ?_
      refine v_iconst (pc' := 31) dX5_turnOn_30 kc_m1 rfl ?_
      refine v_icmp_eq (tgt := 38) (pc' := 34) dX5_turnOn_31 (by decide) rfl (fun c_31 => ?_) (fun c_31 => ?_)
      · first
          | exact absurd c_14 c_26
          | exact absurd c_26 c_14
          | (have e : p_bad1 (I q) s = p_drop (I q) := (by simp [p_bad1, *])
             rw [e] at tail
             exact tail)
          | (have e : p_bad1 (I q) s = I q := (by simp [p_bad1, *])
             rw [e, z_row_self] at tail
             exact tail)
      · refine v_aload_n (pc' := 35) dX5_turnOn_34 rfl rfl ?_
        refine v_cSV (pc' := 38) (c5_dropJob hl hq) dX5_turnOn_35 lk_X5_85 mwX5_dropJob msX5_dropJob rfl rfl (by decide) (Nat.le_of_ble_eq_true rfl) rfl ?_
        rintro _ rfl
        first
          | exact absurd c_14 c_26
          | exact absurd c_26 c_14
          | (have e : p_bad1 (I q) s = p_drop (I q) := (by simp [p_bad1, *])
             rw [e] at tail
             exact tail)
          | (have e : p_bad1 (I q) s = I q := (by simp [p_bad1, *])
             rw [e, z_row_self] at tail
             exact tail)
  · refine v_aload_n (pc' := 18) dX5_turnOn_17 rfl rfl ?_
    refine v_iconst (pc' := 19) dX5_turnOn_18 kc_5 rfl ?_
    refine v_iald (pc' := 20) dX5_turnOn_19 (5) rfl (by assumption) (by decide) (by decide) rfl ?_
    refine v_iload_n (pc' := 21) dX5_turnOn_20 rfl rfl ?_
    refine v_icmp_eq (tgt := 34) (pc' := 24) dX5_turnOn_21 (by decide) rfl (fun c_21 => ?_) (fun c_21 => ?_)
    · refine v_aload_n (pc' := 35) dX5_turnOn_34 rfl rfl ?_
      refine v_cSV (pc' := 38) (c5_dropJob hl hq) dX5_turnOn_35 lk_X5_85 mwX5_dropJob msX5_dropJob rfl rfl (by decide) (Nat.le_of_ble_eq_true rfl) rfl ?_
      rintro _ rfl
      first
        | exact absurd c_14 c_26
        | exact absurd c_26 c_14
        | (have e : p_bad1 (I q) s = p_drop (I q) := (by simp [p_bad1, *])
           rw [e] at tail
           exact tail)
        | (have e : p_bad1 (I q) s = I q := (by simp [p_bad1, *])
           rw [e, z_row_self] at tail
           exact tail)
    · refine v_iload_n (pc' := 25) dX5_turnOn_24 rfl rfl ?_
      refine v_iconst (pc' := 26) dX5_turnOn_25 kc_m1 rfl ?_
      refine v_icmp_ne (tgt := 38) (pc' := 29) dX5_turnOn_26 (by decide) rfl (fun c_26 => ?_) (fun c_26 => ?_)
      · first
          | exact absurd c_14 c_26
          | exact absurd c_26 c_14
          | (have e : p_bad1 (I q) s = p_drop (I q) := (by simp [p_bad1, *])
             rw [e] at tail
             exact tail)
          | (have e : p_bad1 (I q) s = I q := (by simp [p_bad1, *])
             rw [e, z_row_self] at tail
             exact tail)
      · refine v_iload_n (pc' := 30) dX5_turnOn_29 rfl rfl ?_
        refine v_iconst (pc' := 31) dX5_turnOn_30 kc_m1 rfl ?_
        refine v_icmp_eq (tgt := 38) (pc' := 34) dX5_turnOn_31 (by decide) rfl (fun c_31 => ?_) (fun c_31 => ?_)
        · first
            | exact absurd c_14 c_26
            | exact absurd c_26 c_14
            | (have e : p_bad1 (I q) s = p_drop (I q) := (by simp [p_bad1, *])
               rw [e] at tail
               exact tail)
            | (have e : p_bad1 (I q) s = I q := (by simp [p_bad1, *])
               rw [e, z_row_self] at tail
               exact tail)
        · refine v_aload_n (pc' := 35) dX5_turnOn_34 rfl rfl ?_
          refine v_cSV (pc' := 38) (c5_dropJob hl hq) dX5_turnOn_35 lk_X5_85 mwX5_dropJob msX5_dropJob rfl rfl (by decide) (Nat.le_of_ble_eq_true rfl) rfl ?_
          rintro _ rfl
          first
            | exact absurd c_14 c_26
            | exact absurd c_26 c_14
            | (have e : p_bad1 (I q) s = p_drop (I q) := (by simp [p_bad1, *])
               rw [e] at tail
               exact tail)
            | (have e : p_bad1 (I q) s = I q := (by simp [p_bad1, *])
               rw [e, z_row_self] at tail
               exact tail)
set_option maxRecDepth 20000 in
set_option maxHeartbeats 4000000 in
theorem c5_runOn (hl : l.stackTraces = false) (hq : (q, sI E 0 65) ∈ G) (hW : WF (I q)) (c : Nat) (hc : c < 1000) {c3 : Int32} (hc3 : c3 = nI c) : z_CI E l mX5_runOn 4 [.ref q, .int c3] G I sz (fun x I' => x = p_run c (I q) 4 - I q 4 ∧ I' = z_row I q (p_run c (I q))) := by
  subst hc3
  have loop : ∀ (n j : Nat) (r' : zR), c = j + n → WF r' → p_run n r' = p_run c (I q) → z_V E l mX5_runOn (z_rm 4 0 0) 0 0 (z_q (fun v' G' I' sz' => ∃ x, v' = some (.int x) ∧ G' = G ∧ sz' = sz ∧ (x = p_run c (I q) 4 - I q 4 ∧ I' = z_row I q (p_run c (I q))))) 0 0 G (z_row I q r') sz 6 [some (.ref q), some (.int (nI c)), some (.int (I q 4)), some (.int (nI j))] [] := by
    intro n
    induction n with
    | zero =>
      intro j r' hj hr hp
      refine v_iload_n (pc' := 7) dX5_runOn_6 rfl rfl ?_
      refine v_iload_n (pc' := 8) dX5_runOn_7 rfl rfl ?_
      refine v_icmp_ge (tgt := 21) (pc' := 11) dX5_runOn_8 (by decide) rfl (fun c_8 => ?_) (fun c_8 => ?_)
      · refine v_aload_n (pc' := 22) dX5_runOn_21 rfl rfl ?_
        refine v_iconst (pc' := 23) dX5_runOn_22 kc_4 rfl ?_
        refine v_iald (pc' := 24) dX5_runOn_23 (4) rfl (by assumption) (by decide) (by decide) rfl ?_
        refine v_iload_n (pc' := 25) dX5_runOn_24 rfl rfl ?_
        refine v_isub (pc' := 26) dX5_runOn_25 rfl ?_
        exact v_iret dX5_runOn_26 rfl (Nat.le_refl _) (Nat.le_refl _) ⟨_, rfl, rfl, rfl, by simp only [z_row_at]; rw [← hp]; rfl, by rw [← hp]; rfl⟩
      · exact absurd (nI_le (by omega) (by omega)) c_8
    | succ n ih =>
      intro j r' hj hr hp
      refine v_iload_n (pc' := 7) dX5_runOn_6 rfl rfl ?_
      refine v_iload_n (pc' := 8) dX5_runOn_7 rfl rfl ?_
      refine v_icmp_ge (tgt := 21) (pc' := 11) dX5_runOn_8 (by decide) rfl (fun c_8 => ?_) (fun c_8 => ?_)
      · exact absurd c_8 (nI_ge (by omega) (by omega))
      · refine v_aload_n (pc' := 12) dX5_runOn_11 rfl rfl ?_
        refine v_cSV (pc' := 15) (c5_tickOn hl hq (by rw [z_row_at]; exact hr)) dX5_runOn_12 lk_X5_79 mwX5_tickOn msX5_tickOn rfl rfl (by decide) (Nat.le_of_ble_eq_true rfl) rfl ?_
        rintro _ rfl
        simp only [z_row_row, z_row_at]
        refine v_iinc3 (pc' := 18) dX5_runOn_15 (by decide) rfl kc_1 (nI_1 j) rfl ?_
        refine v_goto (tgt := 6) dX5_runOn_18 (by decide) ?_
        exact ih (j + 1) (p_tick r') (by omega) (WF_tick hr) hp
  refine z_Ct.of hl pn_X5 [some (.ref q), some (.int (nI c)), none, none] rfl (Nat.le_of_ble_eq_true rfl) ?_
  refine v_aload_n (pc' := 1) dX5_runOn_0 rfl rfl ?_
  refine v_iconst (pc' := 2) dX5_runOn_1 kc_4 rfl ?_
  refine v_iald (pc' := 3) dX5_runOn_2 (4) rfl (by assumption) (by decide) (by decide) rfl ?_
  refine v_istore_n2 (pc' := 4) dX5_runOn_3 (by decide) rfl rfl ?_
  refine v_iconst (pc' := 5) dX5_runOn_4 kc_0 rfl ?_
  refine v_istore_n3 (pc' := 6) dX5_runOn_5 (by decide) rfl rfl ?_
  have h9 := loop c 0 (I q) (by omega) hW rfl
  rw [z_row_self] at h9
  exact h9
variable {qf qt nf nt : Nat}
set_option maxRecDepth 20000 in
set_option maxHeartbeats 4000000 in
theorem c5_copyTo (hl : l.stackTraces = false) (hf : (qf, sI E 0 nf) ∈ G) (ht : (qt, sI E 0 nt) ∈ G) (hne : qf ≠ qt) (fa ta : Nat) (hfa : fa + 65 ≤ nf) (hta : ta + 65 ≤ nt) (hnf : nf < 2 ^ 31) (hnt : nt < 2 ^ 31) {f3 t3 : Int32} (hf3 : f3 = nI fa) (ht3 : t3 = nI ta) : z_CV E l mX5_copyState 0 [.ref qf, .int f3, .ref qt, .int t3] G I sz (fun I' => I' = z_row I qt (cpy (I qf) (I qt) fa ta 65)) := by
  subst hf3; subst ht3
  have loop : ∀ (n j : Nat), 65 = j + n → z_V E l mX5_copyState (z_rm 0 0 0) 0 0 (z_q (fun v' G' I' sz' => v' = none ∧ G' = G ∧ sz' = sz ∧ I' = z_row I qt (cpy (I qf) (I qt) fa ta 65))) 0 0 G (z_row I qt (cpy (I qf) (I qt) fa ta j)) sz 3 [some (.ref qf), some (.int (nI fa)), some (.ref qt), some (.int (nI ta)), some (.int (nI j))] [] := by
    intro n
    induction n with
    | zero =>
      intro j hj
      refine v_iload (pc' := 5) dX5_copyState_3 rfl rfl ?_
      refine v_bipush (pc' := 7) dX5_copyState_5 kb_65 rfl ?_
      refine v_icmp_ge (tgt := 28) (pc' := 10) dX5_copyState_7 (by decide) rfl (fun c_7 => ?_) (fun c_7 => ?_)
      · exact v_vret dX5_copyState_28 rfl (Nat.le_refl _) (Nat.le_refl _) ⟨rfl, rfl, rfl, by rw [show j = 65 by omega]⟩
      · exact absurd (nI_le (a := 65) (b := j) (by omega) (by omega)) c_7
    | succ n ih =>
      intro j hj
      refine v_iload (pc' := 5) dX5_copyState_3 rfl rfl ?_
      refine v_bipush (pc' := 7) dX5_copyState_5 kb_65 rfl ?_
      refine v_icmp_ge (tgt := 28) (pc' := 10) dX5_copyState_7 (by decide) rfl (fun c_7 => ?_) (fun c_7 => ?_)
      · exact absurd c_7 (nI_ge (b := 65) (by omega) (by omega))
      · refine v_aload_n (pc' := 11) dX5_copyState_10 rfl rfl ?_
        refine v_iload_n (pc' := 12) dX5_copyState_11 rfl rfl ?_
        refine v_iload (pc' := 14) dX5_copyState_12 rfl rfl ?_
        refine v_iadd (pc' := 15) dX5_copyState_14 rfl ?_
        refine v_aload_n (pc' := 16) dX5_copyState_15 rfl rfl ?_
        refine v_iload_n (pc' := 17) dX5_copyState_16 rfl rfl ?_
        refine v_iload (pc' := 19) dX5_copyState_17 rfl rfl ?_
        refine v_iadd (pc' := 20) dX5_copyState_19 rfl ?_
        refine v_iald (pc' := 21) dX5_copyState_20 (fa + j) (nI_add fa j) hf (by omega) hnf rfl ?_
        refine v_iast (pc' := 22) dX5_copyState_21 (ta + j) (nI_add ta j) ht (by omega) hnt rfl ?_
        refine v_iinc4 (pc' := 25) dX5_copyState_22 (by decide) rfl kc_1 (nI_1 j) rfl ?_
        refine v_goto (tgt := 3) dX5_copyState_25 (by decide) ?_
        simp only [z_up_row, z_row_row, z_row_at, z_row_ne _ _ _ hne, cpy_s]
        exact ih (j + 1) (by omega)
  refine z_Ct.of hl pn_X5 [some (.ref qf), some (.int (nI fa)), some (.ref qt), some (.int (nI ta)), none] rfl (Nat.le_of_ble_eq_true rfl) ?_
  refine v_iconst (pc' := 1) dX5_copyState_0 kc_0 rfl ?_
  refine v_istore4 (pc' := 3) dX5_copyState_1 (by decide) rfl rfl ?_
  have h9 := loop 65 0 rfl
  rw [cpy_0, z_row_self] at h9
  exact h9
set_option maxRecDepth 20000 in
set_option maxHeartbeats 4000000 in
theorem c5_clear (hl : l.stackTraces = false) (hq : (q, sI E 0 65) ∈ G) : z_CV E l mX5_clear 0 [.ref q] G I sz (fun I' => I' = z_row I q (p_new)) := by
  have loop : ∀ (n j : Nat), 65 = j + n → z_V E l mX5_clear (z_rm 0 0 0) 0 0 (z_q (fun v' G' I' sz' => v' = none ∧ G' = G ∧ sz' = sz ∧ I' = z_row I q p_new)) 0 0 G (z_row I q (fun k => if k < j then 0 else I q k)) sz 2 [some (.ref q), some (.int (nI j))] [] := by
    intro n
    induction n with
    | zero =>
      intro j hj
      refine v_iload_n (pc' := 3) dX5_clear_2 rfl rfl ?_
      refine v_bipush (pc' := 5) dX5_clear_3 kb_65 rfl ?_
      refine v_icmp_ge (tgt := 18) (pc' := 8) dX5_clear_5 (by decide) rfl (fun c_5 => ?_) (fun c_5 => ?_)
      · refine v_ext (I' := z_row I q (fun _ => 0)) hq (fun q9 h9 => by rw [z_row_ne _ _ _ h9, z_row_ne _ _ _ h9]) (fun j9 h9 => by rw [z_row_at, z_row_at, if_pos (by omega)]) ?_
        refine v_aload_n (pc' := 19) dX5_clear_18 rfl rfl ?_
        refine v_iconst (pc' := 20) dX5_clear_19 kc_5 rfl ?_
        refine v_iconst (pc' := 21) dX5_clear_20 kc_m1 rfl ?_
        refine v_iast (pc' := 22) dX5_clear_21 (5) rfl (by assumption) (by decide) (by decide) rfl ?_
        refine v_aload_n (pc' := 23) dX5_clear_22 rfl rfl ?_
        refine v_bipush (pc' := 25) dX5_clear_23 kb_8 rfl ?_
        refine v_iconst (pc' := 26) dX5_clear_25 kc_3 rfl ?_
        refine v_iast (pc' := 27) dX5_clear_26 (8) rfl (by assumption) (by decide) (by decide) rfl ?_
        refine v_aload_n (pc' := 28) dX5_clear_27 rfl rfl ?_
        refine v_bipush (pc' := 30) dX5_clear_28 kb_9 rfl ?_
        refine v_iconst (pc' := 31) dX5_clear_30 kc_2 rfl ?_
        refine v_iast (pc' := 32) dX5_clear_31 (9) rfl (by assumption) (by decide) (by decide) rfl ?_
        refine v_aload_n (pc' := 33) dX5_clear_32 rfl rfl ?_
        refine v_bipush (pc' := 35) dX5_clear_33 kb_10 rfl ?_
        refine v_bipush (pc' := 37) dX5_clear_35 kb_10 rfl ?_
        refine v_iast (pc' := 38) dX5_clear_37 (10) rfl (by assumption) (by decide) (by decide) rfl ?_
        exact v_vret dX5_clear_38 rfl (Nat.le_refl _) (Nat.le_refl _) ⟨rfl, rfl, rfl, by simp only [z_up_row, z_row_row, z_row_at]; rfl⟩
      · exact absurd (nI_le (a := 65) (b := j) (by omega) (by omega)) c_5
    | succ n ih =>
      intro j hj
      refine v_iload_n (pc' := 3) dX5_clear_2 rfl rfl ?_
      refine v_bipush (pc' := 5) dX5_clear_3 kb_65 rfl ?_
      refine v_icmp_ge (tgt := 18) (pc' := 8) dX5_clear_5 (by decide) rfl (fun c_5 => ?_) (fun c_5 => ?_)
      · exact absurd c_5 (nI_ge (b := 65) (by omega) (by omega))
      · refine v_aload_n (pc' := 9) dX5_clear_8 rfl rfl ?_
        refine v_iload_n (pc' := 10) dX5_clear_9 rfl rfl ?_
        refine v_iconst (pc' := 11) dX5_clear_10 kc_0 rfl ?_
        refine v_iast (pc' := 12) dX5_clear_11 (j) rfl (by assumption) (by omega) (by decide) rfl ?_
        refine v_iinc1 (pc' := 15) dX5_clear_12 (by decide) rfl kc_1 (nI_1 j) rfl ?_
        refine v_goto (tgt := 2) dX5_clear_15 (by decide) ?_
        simp only [z_up_row, z_row_row, z_row_at]
        rw [show upd (fun k => if k < j then 0 else I q k) j 0 = fun k => if k < j + 1 then 0 else I q k from funext fun k => by simp only [upd]; split <;> split <;> first | rfl | omega | (split <;> first | rfl | omega)]
        exact ih (j + 1) (by omega)
  refine z_Ct.of hl pn_X5 [some (.ref q), none] rfl (Nat.le_of_ble_eq_true rfl) ?_
  refine v_iconst (pc' := 1) dX5_clear_0 kc_0 rfl ?_
  refine v_istore_n1 (pc' := 2) dX5_clear_1 (by decide) rfl rfl ?_
  have h9 := loop 65 0 rfl
  rw [show (fun k => if k < 0 then (0 : Int32) else I q k) = I q from funext fun k => if_neg (by omega), z_row_self] at h9
  exact h9
end REF4
