/-! THE CLASS: small statics, a task's methods, what a state tells (written by wip/whole/gen_cls1.py) -/
section CLS1
variable {E : zE} {l : Launch} {G : zG} {I : zI} {sz a b : Nat} {r : zR}
set_option maxRecDepth 20000 in
set_option maxHeartbeats 4000000 in
theorem c4_isBetween (hl : l.stackTraces = false) (v lo hi : Int32) : z_CR E l mX4_isBetween 0 [.int v, .int lo, .int hi] G I sz (.int (z_b (z_in v lo hi))) := by
  refine z_Ct.of hl pn_X4 [some (.int v), some (.int lo), some (.int hi)] rfl (Nat.le_of_ble_eq_true rfl) ?_
  refine v_iload_n (pc' := 1) dX4_isBetween_0 rfl rfl ?_
  refine v_iload_n (pc' := 2) dX4_isBetween_1 rfl rfl ?_
  refine v_icmp_lt (tgt := 14) (pc' := 5) dX4_isBetween_2 (by decide) rfl (fun c_2 => ?_) (fun c_2 => ?_)
  · rw [← Int32.not_le] at c_2
    refine v_iconst (pc' := 15) dX4_isBetween_14 kc_0 rfl ?_
    exact v_zret dX4_isBetween_15 rfl (Nat.le_refl _) (Nat.le_refl _) rfl (z_rdi (by simp [z_b, z_in, *]))
  · rw [Int32.not_lt] at c_2
    refine v_iload_n (pc' := 6) dX4_isBetween_5 rfl rfl ?_
    refine v_iload_n (pc' := 7) dX4_isBetween_6 rfl rfl ?_
    refine v_icmp_gt (tgt := 14) (pc' := 10) dX4_isBetween_7 (by decide) rfl (fun c_7 => ?_) (fun c_7 => ?_)
    · rw [← Int32.not_le] at c_7
      refine v_iconst (pc' := 15) dX4_isBetween_14 kc_0 rfl ?_
      exact v_zret dX4_isBetween_15 rfl (Nat.le_refl _) (Nat.le_refl _) rfl (z_rdi (by simp [z_b, z_in, *]))
    · rw [Int32.not_lt] at c_7
      refine v_iconst (pc' := 11) dX4_isBetween_10 kc_1 rfl ?_
      refine v_goto (tgt := 15) dX4_isBetween_11 (by decide) ?_
      exact v_zret dX4_isBetween_15 rfl (Nat.le_refl _) (Nat.le_refl _) rfl (z_rdi (by simp [z_b, z_in, *]))
set_option maxRecDepth 20000 in
set_option maxHeartbeats 4000000 in
theorem c4_isStripe (hl : l.stackTraces = false) (v : Int32) : z_CR E l mX4_isStripe 1 [.int v] G I sz (.int (z_b (p_isStripe v))) := by
  refine z_Ct.of hl pn_X4 [some (.int v)] rfl (Nat.le_of_ble_eq_true rfl) ?_
  refine v_iload_n (pc' := 1) dX4_isStripe_0 rfl rfl ?_
  refine v_iconst (pc' := 2) dX4_isStripe_1 kc_0 rfl ?_
  refine v_bipush (pc' := 4) dX4_isStripe_2 kb_11 rfl ?_
  refine v_cSR (pc' := 7) (c4_isBetween hl v 0 11) dX4_isStripe_4 lk_X4_41 mwX4_isBetween msX4_isBetween rfl rfl (by decide) (Nat.le_of_ble_eq_true rfl) rfl ?_
  exact v_zret dX4_isStripe_7 rfl (Nat.le_refl _) (Nat.le_refl _) (z_b_nar _) (z_rdi rfl)
set_option maxRecDepth 20000 in
set_option maxHeartbeats 4000000 in
theorem c4_isWidth (hl : l.stackTraces = false) (v : Int32) : z_CR E l mX4_isWidth 1 [.int v] G I sz (.int (z_b (z_in v 1 6))) := by
  refine z_Ct.of hl pn_X4 [some (.int v)] rfl (Nat.le_of_ble_eq_true rfl) ?_
  refine v_iload_n (pc' := 1) dX4_isWidth_0 rfl rfl ?_
  refine v_iconst (pc' := 2) dX4_isWidth_1 kc_1 rfl ?_
  refine v_bipush (pc' := 4) dX4_isWidth_2 kb_6 rfl ?_
  refine v_cSR (pc' := 7) (c4_isBetween hl v 1 6) dX4_isWidth_4 lk_X4_41 mwX4_isBetween msX4_isBetween rfl rfl (by decide) (Nat.le_of_ble_eq_true rfl) rfl ?_
  exact v_zret dX4_isWidth_7 rfl (Nat.le_refl _) (Nat.le_refl _) (z_b_nar _) (z_rdi rfl)
set_option maxRecDepth 20000 in
set_option maxHeartbeats 4000000 in
theorem c4_isValue (hl : l.stackTraces = false) (v : Int32) : z_CR E l mX4_isValue 1 [.int v] G I sz (.int (z_b (z_in v 0 996))) := by
  refine z_Ct.of hl pn_X4 [some (.int v)] rfl (Nat.le_of_ble_eq_true rfl) ?_
  refine v_iload_n (pc' := 1) dX4_isValue_0 rfl rfl ?_
  refine v_iconst (pc' := 2) dX4_isValue_1 kc_0 rfl ?_
  refine v_sipush (pc' := 5) dX4_isValue_2 ks_996 rfl ?_
  refine v_cSR (pc' := 8) (c4_isBetween hl v 0 996) dX4_isValue_5 lk_X4_41 mwX4_isBetween msX4_isBetween rfl rfl (by decide) (Nat.le_of_ble_eq_true rfl) rfl ?_
  exact v_zret dX4_isValue_8 rfl (Nat.le_refl _) (Nat.le_refl _) (z_b_nar _) (z_rdi rfl)
set_option maxRecDepth 20000 in
set_option maxHeartbeats 4000000 in
theorem c4_isSetting (hl : l.stackTraces = false) (v : Int32) : z_CR E l mX4_isSetting 1 [.int v] G I sz (.int (z_b (z_in v 0 2))) := by
  refine z_Ct.of hl pn_X4 [some (.int v)] rfl (Nat.le_of_ble_eq_true rfl) ?_
  refine v_iload_n (pc' := 1) dX4_isSetting_0 rfl rfl ?_
  refine v_iconst (pc' := 2) dX4_isSetting_1 kc_0 rfl ?_
  refine v_iconst (pc' := 3) dX4_isSetting_2 kc_2 rfl ?_
  refine v_cSR (pc' := 6) (c4_isBetween hl v 0 2) dX4_isSetting_3 lk_X4_41 mwX4_isBetween msX4_isBetween rfl rfl (by decide) (Nat.le_of_ble_eq_true rfl) rfl ?_
  exact v_zret dX4_isSetting_6 rfl (Nat.le_refl _) (Nat.le_refl _) (z_b_nar _) (z_rdi rfl)
set_option maxRecDepth 20000 in
set_option maxHeartbeats 4000000 in
theorem c2_takes (hl : l.stackTraces = false) (hb : (b, sTk) ∈ G) (s : Int32) : z_CR E l mX2_takes 0 [.ref b, .int s] G I sz (.int (z_b (k_takes (I b) s))) := by
  refine z_Ct.of hl pn_X2 [some (.ref b), some (.int s)] rfl (Nat.le_of_ble_eq_true rfl) ?_
  refine v_aload_n (pc' := 1) dX2_takes_0 rfl rfl ?_
  refine g_X2_33 (pc' := 4) rfl dX2_takes_1 (by assumption) rfl ?_
  refine v_iconst (pc' := 5) dX2_takes_4 kc_m1 rfl ?_
  refine v_icmp_eq (tgt := 33) (pc' := 8) dX2_takes_5 (by decide) rfl (fun c_5 => ?_) (fun c_5 => ?_)
  · refine v_iconst (pc' := 34) dX2_takes_33 kc_0 rfl ?_
    exact v_zret dX2_takes_34 rfl (Nat.le_refl _) (Nat.le_refl _) rfl (z_rdi (by simp [z_b, k_takes, *]))
  · refine v_iload_n (pc' := 9) dX2_takes_8 rfl rfl ?_
    refine v_aload_n (pc' := 10) dX2_takes_9 rfl rfl ?_
    refine g_X2_33 (pc' := 13) rfl dX2_takes_10 (by assumption) rfl ?_
    refine v_icmp_lt (tgt := 33) (pc' := 16) dX2_takes_13 (by decide) rfl (fun c_13 => ?_) (fun c_13 => ?_)
    · rw [← Int32.not_le] at c_13
      refine v_iconst (pc' := 34) dX2_takes_33 kc_0 rfl ?_
      exact v_zret dX2_takes_34 rfl (Nat.le_refl _) (Nat.le_refl _) rfl (z_rdi (by simp [z_b, k_takes, *]))
    · rw [Int32.not_lt] at c_13
      refine v_iload_n (pc' := 17) dX2_takes_16 rfl rfl ?_
      refine v_aload_n (pc' := 18) dX2_takes_17 rfl rfl ?_
      refine g_X2_33 (pc' := 21) rfl dX2_takes_18 (by assumption) rfl ?_
      refine v_aload_n (pc' := 22) dX2_takes_21 rfl rfl ?_
      refine g_X2_9 (pc' := 25) rfl dX2_takes_22 (by assumption) rfl ?_
      refine v_iadd (pc' := 26) dX2_takes_25 rfl ?_
      refine v_icmp_ge (tgt := 33) (pc' := 29) dX2_takes_26 (by decide) rfl (fun c_26 => ?_) (fun c_26 => ?_)
      · rw [← Int32.not_lt] at c_26
        refine v_iconst (pc' := 34) dX2_takes_33 kc_0 rfl ?_
        exact v_zret dX2_takes_34 rfl (Nat.le_refl _) (Nat.le_refl _) rfl (z_rdi (by simp [z_b, k_takes, *]))
      · rw [Int32.not_le] at c_26
        refine v_iconst (pc' := 30) dX2_takes_29 kc_1 rfl ?_
        refine v_goto (tgt := 34) dX2_takes_30 (by decide) ?_
        exact v_zret dX2_takes_34 rfl (Nat.le_refl _) (Nat.le_refl _) rfl (z_rdi (by simp [z_b, k_takes, *]))
set_option maxRecDepth 20000 in
set_option maxHeartbeats 4000000 in
theorem c2_takesOneOf (hl : l.stackTraces = false) (hb : (b, sTk) ∈ G) (f n : Int32) : z_CR E l mX2_takesOneOf 0 [.ref b, .int f, .int n] G I sz (.int (z_b (k_one (I b) f n))) := by
  refine z_Ct.of hl pn_X2 [some (.ref b), some (.int f), some (.int n)] rfl (Nat.le_of_ble_eq_true rfl) ?_
  refine v_aload_n (pc' := 1) dX2_takesOneOf_0 rfl rfl ?_
  refine g_X2_33 (pc' := 4) rfl dX2_takesOneOf_1 (by assumption) rfl ?_
  refine v_iconst (pc' := 5) dX2_takesOneOf_4 kc_m1 rfl ?_
  refine v_icmp_eq (tgt := 35) (pc' := 8) dX2_takesOneOf_5 (by decide) rfl (fun c_5 => ?_) (fun c_5 => ?_)
  · refine v_iconst (pc' := 36) dX2_takesOneOf_35 kc_0 rfl ?_
    exact v_zret dX2_takesOneOf_36 rfl (Nat.le_refl _) (Nat.le_refl _) rfl (z_rdi (by simp [z_b, k_one, *]))
  · refine v_aload_n (pc' := 9) dX2_takesOneOf_8 rfl rfl ?_
    refine g_X2_33 (pc' := 12) rfl dX2_takesOneOf_9 (by assumption) rfl ?_
    refine v_iload_n (pc' := 13) dX2_takesOneOf_12 rfl rfl ?_
    refine v_iload_n (pc' := 14) dX2_takesOneOf_13 rfl rfl ?_
    refine v_iadd (pc' := 15) dX2_takesOneOf_14 rfl ?_
    refine v_icmp_ge (tgt := 35) (pc' := 18) dX2_takesOneOf_15 (by decide) rfl (fun c_15 => ?_) (fun c_15 => ?_)
    · rw [← Int32.not_lt] at c_15
      refine v_iconst (pc' := 36) dX2_takesOneOf_35 kc_0 rfl ?_
      exact v_zret dX2_takesOneOf_36 rfl (Nat.le_refl _) (Nat.le_refl _) rfl (z_rdi (by simp [z_b, k_one, *]))
    · rw [Int32.not_le] at c_15
      refine v_iload_n (pc' := 19) dX2_takesOneOf_18 rfl rfl ?_
      refine v_aload_n (pc' := 20) dX2_takesOneOf_19 rfl rfl ?_
      refine g_X2_33 (pc' := 23) rfl dX2_takesOneOf_20 (by assumption) rfl ?_
      refine v_aload_n (pc' := 24) dX2_takesOneOf_23 rfl rfl ?_
      refine g_X2_9 (pc' := 27) rfl dX2_takesOneOf_24 (by assumption) rfl ?_
      refine v_iadd (pc' := 28) dX2_takesOneOf_27 rfl ?_
      refine v_icmp_ge (tgt := 35) (pc' := 31) dX2_takesOneOf_28 (by decide) rfl (fun c_28 => ?_) (fun c_28 => ?_)
      · rw [← Int32.not_lt] at c_28
        refine v_iconst (pc' := 36) dX2_takesOneOf_35 kc_0 rfl ?_
        exact v_zret dX2_takesOneOf_36 rfl (Nat.le_refl _) (Nat.le_refl _) rfl (z_rdi (by simp [z_b, k_one, *]))
      · rw [Int32.not_le] at c_28
        refine v_iconst (pc' := 32) dX2_takesOneOf_31 kc_1 rfl ?_
        refine v_goto (tgt := 36) dX2_takesOneOf_32 (by decide) ?_
        exact v_zret dX2_takesOneOf_36 rfl (Nat.le_refl _) (Nat.le_refl _) rfl (z_rdi (by simp [z_b, k_one, *]))
set_option maxRecDepth 20000 in
set_option maxHeartbeats 4000000 in
theorem c2_switchOff (hl : l.stackTraces = false) (hb : (b, sTk) ∈ G) : z_CV E l mX2_switchOff 0 [.ref b] G I sz (fun I' => I' = z_row I b (k_off (I b))) := by
  refine z_Ct.of hl pn_X2 [some (.ref b)] rfl (Nat.le_of_ble_eq_true rfl) ?_
  refine v_aload_n (pc' := 1) dX2_switchOff_0 rfl rfl ?_
  refine v_iconst (pc' := 2) dX2_switchOff_1 kc_0 rfl ?_
  refine p_X2_30 (pc' := 5) rfl dX2_switchOff_2 (by assumption) rfl ?_
  refine v_aload_n (pc' := 6) dX2_switchOff_5 rfl rfl ?_
  refine v_iconst (pc' := 7) dX2_switchOff_6 kc_m1 rfl ?_
  refine p_X2_33 (pc' := 10) rfl dX2_switchOff_7 (by assumption) rfl ?_
  exact v_vret dX2_switchOff_10 rfl (Nat.le_refl _) (Nat.le_refl _) ⟨rfl, rfl, rfl, by simp only [z_up_row, z_row_row, z_row_at, k_off]; try (simp (disch := omega) only [pk_us, pk_un])⟩
set_option maxRecDepth 20000 in
set_option maxHeartbeats 4000000 in
theorem c2_begin (hl : l.stackTraces = false) (hb : (b, sTk) ∈ G) (w v : Int32) : z_CV E l mX2_begin 1 [.ref b, .int w, .int v] G I sz (fun I' => I' = z_row I b (k_begin (I b) w v)) := by
  refine z_Ct.of hl pn_X2 [some (.ref b), some (.int w), some (.int v)] rfl (Nat.le_of_ble_eq_true rfl) ?_
  refine v_aload_n (pc' := 1) dX2_begin_0 rfl rfl ?_
  refine v_iload_n (pc' := 2) dX2_begin_1 rfl rfl ?_
  refine p_X2_9 (pc' := 5) rfl dX2_begin_2 (by assumption) rfl ?_
  refine v_aload_n (pc' := 6) dX2_begin_5 rfl rfl ?_
  refine v_iload_n (pc' := 7) dX2_begin_6 rfl rfl ?_
  refine p_X2_15 (pc' := 10) rfl dX2_begin_7 (by assumption) rfl ?_
  refine v_aload_n (pc' := 11) dX2_begin_10 rfl rfl ?_
  refine v_iload_n (pc' := 12) dX2_begin_11 rfl rfl ?_
  refine p_X2_18 (pc' := 15) rfl dX2_begin_12 (by assumption) rfl ?_
  refine v_aload_n (pc' := 16) dX2_begin_15 rfl rfl ?_
  refine v_iconst (pc' := 17) dX2_begin_16 kc_0 rfl ?_
  refine p_X2_21 (pc' := 20) rfl dX2_begin_17 (by assumption) rfl ?_
  refine v_aload_n (pc' := 21) dX2_begin_20 rfl rfl ?_
  refine v_iconst (pc' := 22) dX2_begin_21 kc_0 rfl ?_
  refine p_X2_24 (pc' := 25) rfl dX2_begin_22 (by assumption) rfl ?_
  refine v_aload_n (pc' := 26) dX2_begin_25 rfl rfl ?_
  refine v_cVV (pc' := 29) (c2_switchOff hl hb) dX2_begin_26 lk_X2_27 mwX2_switchOff miX2_switchOff hb rfl rfl rfl rfl (by decide) (Nat.le_of_ble_eq_true rfl) rfl ?_
  rintro _ rfl
  exact v_vret dX2_begin_29 rfl (Nat.le_refl _) (Nat.le_refl _) ⟨rfl, rfl, rfl, by simp only [z_up_row, z_row_row, z_row_at, k_begin]; try (simp (disch := omega) only [pk_us, pk_un])⟩
set_option maxRecDepth 20000 in
set_option maxHeartbeats 4000000 in
theorem c2_work (hl : l.stackTraces = false) (hb : (b, sTk) ∈ G) : z_CV E l mX2_work 0 [.ref b] G I sz (fun I' => I' = z_row I b (k_work (I b))) := by
  refine z_Ct.of hl pn_X2 [some (.ref b)] rfl (Nat.le_of_ble_eq_true rfl) ?_
  refine v_aload_n (pc' := 1) dX2_work_0 rfl rfl ?_
  refine v_bipush (pc' := 3) dX2_work_1 kb_31 rfl ?_
  refine v_aload_n (pc' := 4) dX2_work_3 rfl rfl ?_
  refine g_X2_15 (pc' := 7) rfl dX2_work_4 (by assumption) rfl ?_
  refine v_imul (pc' := 8) dX2_work_7 rfl ?_
  refine v_bipush (pc' := 10) dX2_work_8 kb_7 rfl ?_
  refine v_aload_n (pc' := 11) dX2_work_10 rfl rfl ?_
  refine g_X2_9 (pc' := 14) rfl dX2_work_11 (by assumption) rfl ?_
  refine v_imul (pc' := 15) dX2_work_14 rfl ?_
  refine v_iadd (pc' := 16) dX2_work_15 rfl ?_
  refine v_iconst (pc' := 17) dX2_work_16 kc_1 rfl ?_
  refine v_iadd (pc' := 18) dX2_work_17 rfl ?_
  refine v_sipush (pc' := 21) dX2_work_18 ks_997 rfl ?_
  refine v_irem (pc' := 22) dX2_work_21 (by decide) rfl ?_
  refine p_X2_15 (pc' := 25) rfl dX2_work_22 (by assumption) rfl ?_
  refine v_aload_n (pc' := 26) dX2_work_25 rfl rfl ?_
  refine v_dup (pc' := 27) dX2_work_26 rfl rfl ?_
  refine g_X2_21 (pc' := 30) rfl dX2_work_27 (by assumption) rfl ?_
  refine v_iconst (pc' := 31) dX2_work_30 kc_1 rfl ?_
  refine v_iadd (pc' := 32) dX2_work_31 rfl ?_
  refine p_X2_21 (pc' := 35) rfl dX2_work_32 (by assumption) rfl ?_
  refine v_aload_n (pc' := 36) dX2_work_35 rfl rfl ?_
  refine v_dup (pc' := 37) dX2_work_36 rfl rfl ?_
  refine g_X2_24 (pc' := 40) rfl dX2_work_37 (by assumption) rfl ?_
  refine v_iconst (pc' := 41) dX2_work_40 kc_1 rfl ?_
  refine v_iadd (pc' := 42) dX2_work_41 rfl ?_
  refine p_X2_24 (pc' := 45) rfl dX2_work_42 (by assumption) rfl ?_
  exact v_vret dX2_work_45 rfl (Nat.le_refl _) (Nat.le_refl _) ⟨rfl, rfl, rfl, by simp only [z_up_row, z_row_row, z_row_at, k_work, z_rem]; try (simp (disch := omega) only [pk_us, pk_un])⟩
set_option maxRecDepth 20000 in
set_option maxHeartbeats 4000000 in
theorem c2_saveValue (hl : l.stackTraces = false) (hb : (b, sTk) ∈ G) : z_CV E l mX2_saveValue 0 [.ref b] G I sz (fun I' => I' = z_row I b (k_save (I b))) := by
  refine z_Ct.of hl pn_X2 [some (.ref b)] rfl (Nat.le_of_ble_eq_true rfl) ?_
  refine v_aload_n (pc' := 1) dX2_saveValue_0 rfl rfl ?_
  refine v_aload_n (pc' := 2) dX2_saveValue_1 rfl rfl ?_
  refine g_X2_15 (pc' := 5) rfl dX2_saveValue_2 (by assumption) rfl ?_
  refine p_X2_18 (pc' := 8) rfl dX2_saveValue_5 (by assumption) rfl ?_
  refine v_aload_n (pc' := 9) dX2_saveValue_8 rfl rfl ?_
  refine v_iconst (pc' := 10) dX2_saveValue_9 kc_0 rfl ?_
  refine p_X2_24 (pc' := 13) rfl dX2_saveValue_10 (by assumption) rfl ?_
  exact v_vret dX2_saveValue_13 rfl (Nat.le_refl _) (Nat.le_refl _) ⟨rfl, rfl, rfl, by simp only [z_up_row, z_row_row, z_row_at, k_save]; try (simp (disch := omega) only [pk_us, pk_un])⟩
set_option maxRecDepth 20000 in
set_option maxHeartbeats 4000000 in
theorem c2_fallBack (hl : l.stackTraces = false) (hb : (b, sTk) ∈ G) : z_CV E l mX2_fallBack 1 [.ref b] G I sz (fun I' => I' = z_row I b (k_fall (I b))) := by
  refine z_Ct.of hl pn_X2 [some (.ref b)] rfl (Nat.le_of_ble_eq_true rfl) ?_
  refine v_aload_n (pc' := 1) dX2_fallBack_0 rfl rfl ?_
  refine v_cVV (pc' := 4) (c2_switchOff hl hb) dX2_fallBack_1 lk_X2_27 mwX2_switchOff miX2_switchOff hb rfl rfl rfl rfl (by decide) (Nat.le_of_ble_eq_true rfl) rfl ?_
  rintro _ rfl
  refine v_aload_n (pc' := 5) dX2_fallBack_4 rfl rfl ?_
  refine v_aload_n (pc' := 6) dX2_fallBack_5 rfl rfl ?_
  refine g_X2_18 (pc' := 9) rfl dX2_fallBack_6 (by assumption) rfl ?_
  refine p_X2_15 (pc' := 12) rfl dX2_fallBack_9 (by assumption) rfl ?_
  refine v_aload_n (pc' := 13) dX2_fallBack_12 rfl rfl ?_
  refine v_iconst (pc' := 14) dX2_fallBack_13 kc_0 rfl ?_
  refine p_X2_24 (pc' := 17) rfl dX2_fallBack_14 (by assumption) rfl ?_
  exact v_vret dX2_fallBack_17 rfl (Nat.le_refl _) (Nat.le_refl _) ⟨rfl, rfl, rfl, by simp only [z_up_row, z_row_row, z_row_at, k_fall, k_off]; try (simp (disch := omega) only [pk_us, pk_un])⟩
variable {c : Nat}
def k_copy (ρ σ : zR) : zR := upd (upd (upd (upd (upd (upd (upd ρ 0 (σ 0)) 1 (σ 1)) 2 (σ 2)) 3 (σ 3)) 4 (σ 4)) 5 (σ 5)) 6 (σ 6)
set_option maxRecDepth 20000 in
set_option maxHeartbeats 4000000 in
theorem c2_copyFrom (hl : l.stackTraces = false) (hb : (b, sTk) ∈ G) (hc : (c, sTk) ∈ G) (hne : c ≠ b) : z_CV E l mX2_copyFrom 0 [.ref b, .ref c] G I sz (fun I' => I' = z_row I b (k_copy (I b) (I c))) := by
  refine z_Ct.of hl pn_X2 [some (.ref b), some (.ref c)] rfl (Nat.le_of_ble_eq_true rfl) ?_
  refine v_aload_n (pc' := 1) dX2_copyFrom_0 rfl rfl ?_
  refine v_aload_n (pc' := 2) dX2_copyFrom_1 rfl rfl ?_
  refine g_X2_9 (pc' := 5) rfl dX2_copyFrom_2 (by assumption) rfl ?_
  refine p_X2_9 (pc' := 8) rfl dX2_copyFrom_5 (by assumption) rfl ?_
  refine v_aload_n (pc' := 9) dX2_copyFrom_8 rfl rfl ?_
  refine v_aload_n (pc' := 10) dX2_copyFrom_9 rfl rfl ?_
  refine g_X2_15 (pc' := 13) rfl dX2_copyFrom_10 (by assumption) rfl ?_
  refine p_X2_15 (pc' := 16) rfl dX2_copyFrom_13 (by assumption) rfl ?_
  refine v_aload_n (pc' := 17) dX2_copyFrom_16 rfl rfl ?_
  refine v_aload_n (pc' := 18) dX2_copyFrom_17 rfl rfl ?_
  refine g_X2_18 (pc' := 21) rfl dX2_copyFrom_18 (by assumption) rfl ?_
  refine p_X2_18 (pc' := 24) rfl dX2_copyFrom_21 (by assumption) rfl ?_
  refine v_aload_n (pc' := 25) dX2_copyFrom_24 rfl rfl ?_
  refine v_aload_n (pc' := 26) dX2_copyFrom_25 rfl rfl ?_
  refine g_X2_21 (pc' := 29) rfl dX2_copyFrom_26 (by assumption) rfl ?_
  refine p_X2_21 (pc' := 32) rfl dX2_copyFrom_29 (by assumption) rfl ?_
  refine v_aload_n (pc' := 33) dX2_copyFrom_32 rfl rfl ?_
  refine v_aload_n (pc' := 34) dX2_copyFrom_33 rfl rfl ?_
  refine g_X2_24 (pc' := 37) rfl dX2_copyFrom_34 (by assumption) rfl ?_
  refine p_X2_24 (pc' := 40) rfl dX2_copyFrom_37 (by assumption) rfl ?_
  refine v_aload_n (pc' := 41) dX2_copyFrom_40 rfl rfl ?_
  refine v_aload_n (pc' := 42) dX2_copyFrom_41 rfl rfl ?_
  refine g_X2_30 (pc' := 45) rfl dX2_copyFrom_42 (by assumption) rfl ?_
  refine p_X2_30 (pc' := 48) rfl dX2_copyFrom_45 (by assumption) rfl ?_
  refine v_aload_n (pc' := 49) dX2_copyFrom_48 rfl rfl ?_
  refine v_aload_n (pc' := 50) dX2_copyFrom_49 rfl rfl ?_
  refine g_X2_33 (pc' := 53) rfl dX2_copyFrom_50 (by assumption) rfl ?_
  refine p_X2_33 (pc' := 56) rfl dX2_copyFrom_53 (by assumption) rfl ?_
  exact v_vret dX2_copyFrom_56 rfl (Nat.le_refl _) (Nat.le_refl _) ⟨rfl, rfl, rfl, by simp only [z_up_row, z_row_row, z_row_at, z_row_ne _ _ _ hne, k_copy]⟩
set_option maxRecDepth 20000 in
set_option maxHeartbeats 4000000 in
theorem c1_isIdle (hl : l.stackTraces = false) (hS : ShS E G a) (hA : Abs I a r) (hW : WF r) : z_CR E l mX1_isIdle 0 [.ref a] G I sz (.int (z_b (decide (r 5 = -1)))) := by
  obtain ⟨h0, h1, h2, h3, hT⟩ := id hS
  obtain ⟨⟨⟨g3, g4, g5, g6, g9, g10⟩, g78⟩, gb, gs, gt⟩ := id hA
  obtain ⟨⟨hc6, hc0⟩, -⟩ := id hW
  refine z_Ct.of hl pn_X1 [some (.ref a)] rfl (Nat.le_of_ble_eq_true rfl) ?_
  refine v_aload_n (pc' := 1) dX1_isIdle_0 rfl rfl ?_
  refine g_X1_55 (pc' := 4) rfl dX1_isIdle_1 (by assumption) rfl ?_
  refine v_iconst (pc' := 5) dX1_isIdle_4 kc_m1 rfl ?_
  refine v_icmp_ne (tgt := 12) (pc' := 8) dX1_isIdle_5 (by decide) rfl (fun c_5 => ?_) (fun c_5 => ?_)
  · rw [g6] at c_5
    refine v_iconst (pc' := 13) dX1_isIdle_12 kc_0 rfl ?_
    exact v_zret dX1_isIdle_13 rfl (Nat.le_refl _) (Nat.le_refl _) rfl (z_rdi (by simp [z_b, *]))
  · rw [g6] at c_5
    refine v_iconst (pc' := 9) dX1_isIdle_8 kc_1 rfl ?_
    refine v_goto (tgt := 13) dX1_isIdle_9 (by decide) ?_
    exact v_zret dX1_isIdle_13 rfl (Nat.le_refl _) (Nat.le_refl _) rfl (z_rdi (by simp [z_b, *]))
set_option maxRecDepth 20000 in
set_option maxHeartbeats 4000000 in
theorem c1_taskNumbered (hl : l.stackTraces = false) (hS : ShS E G a) (hA : Abs I a r) (hW : WF r) (u : Nat) (hu : u < cnt r) {t : Int32} (ht : t = nI u) : z_CR E l mX1_taskNumbered 0 [.ref a, .int t] G I sz (.ref (a + 4 + 1 * u)) := by
  obtain ⟨h0, h1, h2, h3, hT⟩ := id hS
  obtain ⟨⟨⟨g3, g4, g5, g6, g9, g10⟩, g78⟩, gb, gs, gt⟩ := id hA
  obtain ⟨⟨hc6, hc0⟩, -⟩ := id hW
  have hi : p_isTask r t = true := by rw [ht]; exact p_isTask_of hW hu
  rw [p_isTask_lt hW] at hi
  simp only [Bool.and_eq_true, decide_eq_true_eq] at hi
  refine z_Ct.of hl pn_X1 [some (.ref a), some (.int t)] rfl (Nat.le_of_ble_eq_true rfl) ?_
  refine v_iload_n (pc' := 1) dX1_taskNumbered_0 rfl rfl ?_
  refine v_if_lt (tgt := 27) (pc' := 4) dX1_taskNumbered_1 (by decide) rfl (fun c_1 => ?_) (fun c_1 => ?_)
  · exact absurd hi.1 (Int32.not_le.mpr c_1)
  · refine v_iload_n (pc' := 5) dX1_taskNumbered_4 rfl rfl ?_
    refine v_aload_n (pc' := 6) dX1_taskNumbered_5 rfl rfl ?_
    refine g_X1_32 (pc' := 9) rfl dX1_taskNumbered_6 (by assumption) rfl ?_
    refine v_icmp_ge (tgt := 27) (pc' := 12) dX1_taskNumbered_9 (by decide) rfl (fun c_9 => ?_) (fun c_9 => ?_)
    · rw [g3] at c_9
      exact absurd c_9 hi.2
    · refine v_iload_n (pc' := 13) dX1_taskNumbered_12 rfl rfl ?_
      refine v_bipush (pc' := 15) dX1_taskNumbered_13 kb_6 rfl ?_
      refine v_icmp_ge (tgt := 27) (pc' := 18) dX1_taskNumbered_15 (by decide) rfl (fun c_15 => ?_) (fun c_15 => ?_)
      · exact absurd (Int32.le_trans (nI_le (a := cnt r) (b := 6) (by omega) (by decide)) c_15) (by rw [← hc0]; exact hi.2)
      · refine v_aload_n (pc' := 19) dX1_taskNumbered_18 rfl rfl ?_
        refine g_X1_11 (pc' := 22) rfl dX1_taskNumbered_19 (by assumption) rfl ?_
        refine v_iload_n (pc' := 23) dX1_taskNumbered_22 rfl rfl ?_
        refine v_aald (t := 4) (pc' := 24) rfl dX1_taskNumbered_23 (u) ht (by assumption) (by omega) (by decide) rfl ?_
        refine v_goto (tgt := 28) dX1_taskNumbered_24 (by decide) ?_
        exact v_aret dX1_taskNumbered_28 rfl (Nat.le_refl _) (Nat.le_refl _) (Or.inr ⟨_, rfl⟩) (z_rd rfl)
set_option maxRecDepth 20000 in
set_option maxHeartbeats 4000000 in
theorem c1_taskNone (hl : l.stackTraces = false) (hS : ShS E G a) (hA : Abs I a r) (hW : WF r) (t : Int32) (ht : p_isTask r t = false) : z_CR E l mX1_taskNumbered 0 [.ref a, .int t] G I sz .null := by
  obtain ⟨h0, h1, h2, h3, hT⟩ := id hS
  obtain ⟨⟨⟨g3, g4, g5, g6, g9, g10⟩, g78⟩, gb, gs, gt⟩ := id hA
  obtain ⟨⟨hc6, hc0⟩, -⟩ := id hW
  refine z_Ct.of hl pn_X1 [some (.ref a), some (.int t)] rfl (Nat.le_of_ble_eq_true rfl) ?_
  refine v_iload_n (pc' := 1) dX1_taskNumbered_0 rfl rfl ?_
  refine v_if_lt (tgt := 27) (pc' := 4) dX1_taskNumbered_1 (by decide) rfl (fun c_1 => ?_) (fun c_1 => ?_)
  · refine v_null (pc' := 28) dX1_taskNumbered_27 rfl ?_
    exact v_aret dX1_taskNumbered_28 rfl (Nat.le_refl _) (Nat.le_refl _) (Or.inl rfl) (z_rd rfl)
  · rw [Int32.not_lt] at c_1
    refine v_iload_n (pc' := 5) dX1_taskNumbered_4 rfl rfl ?_
    refine v_aload_n (pc' := 6) dX1_taskNumbered_5 rfl rfl ?_
    refine g_X1_32 (pc' := 9) rfl dX1_taskNumbered_6 (by assumption) rfl ?_
    refine v_icmp_ge (tgt := 27) (pc' := 12) dX1_taskNumbered_9 (by decide) rfl (fun c_9 => ?_) (fun c_9 => ?_)
    · rw [g3] at c_9
      refine v_null (pc' := 28) dX1_taskNumbered_27 rfl ?_
      exact v_aret dX1_taskNumbered_28 rfl (Nat.le_refl _) (Nat.le_refl _) (Or.inl rfl) (z_rd rfl)
    · rw [g3] at c_9
      refine v_iload_n (pc' := 13) dX1_taskNumbered_12 rfl rfl ?_
      refine v_bipush (pc' := 15) dX1_taskNumbered_13 kb_6 rfl ?_
      refine v_icmp_ge (tgt := 27) (pc' := 18) dX1_taskNumbered_15 (by decide) rfl (fun c_15 => ?_) (fun c_15 => ?_)
      · refine v_null (pc' := 28) dX1_taskNumbered_27 rfl ?_
        exact v_aret dX1_taskNumbered_28 rfl (Nat.le_refl _) (Nat.le_refl _) (Or.inl rfl) (z_rd rfl)
      · rw [p_isTask_lt hW] at ht
        simp [c_1, c_9] at ht
set_option maxRecDepth 20000 in
set_option maxHeartbeats 4000000 in
theorem c1_hasTask (hl : l.stackTraces = false) (hS : ShS E G a) (hA : Abs I a r) (hW : WF r) (t : Int32) : z_CR E l mX1_hasTask 1 [.ref a, .int t] G I sz (.int (z_b (p_isTask r t))) := by
  obtain ⟨h0, h1, h2, h3, hT⟩ := id hS
  obtain ⟨⟨⟨g3, g4, g5, g6, g9, g10⟩, g78⟩, gb, gs, gt⟩ := id hA
  obtain ⟨⟨hc6, hc0⟩, -⟩ := id hW
  rcases nI_isTask hW (t := t) with ⟨hi, u, hu, hu6, rfl⟩ | hi
  · refine z_Ct.of hl pn_X1 [some (.ref a), some (.int (nI u))] rfl (Nat.le_of_ble_eq_true rfl) ?_
    refine v_aload_n (pc' := 1) dX1_hasTask_0 rfl rfl ?_
    refine v_iload_n (pc' := 2) dX1_hasTask_1 rfl rfl ?_
    refine v_cVR (pc' := 5) (c1_taskNumbered hl hS hA hW u hu rfl) dX1_hasTask_2 lk_X1_64 mwX1_taskNumbered miX1_taskNumbered h0 rfl rfl rfl rfl (by decide) (Nat.le_of_ble_eq_true rfl) rfl ?_
    refine v_ifnull (pc' := 8) dX1_hasTask_5 rfl ?_
    refine v_iconst (pc' := 9) dX1_hasTask_8 kc_1 rfl ?_
    refine v_goto (tgt := 13) dX1_hasTask_9 (by decide) ?_
    exact v_zret dX1_hasTask_13 rfl (Nat.le_refl _) (Nat.le_refl _) rfl (z_rdi (by rw [hi]; rfl))
  · refine z_Ct.of hl pn_X1 [some (.ref a), some (.int t)] rfl (Nat.le_of_ble_eq_true rfl) ?_
    refine v_aload_n (pc' := 1) dX1_hasTask_0 rfl rfl ?_
    refine v_iload_n (pc' := 2) dX1_hasTask_1 rfl rfl ?_
    refine v_cVR (pc' := 5) (c1_taskNone hl hS hA hW t hi) dX1_hasTask_2 lk_X1_64 mwX1_taskNumbered miX1_taskNumbered h0 rfl rfl rfl rfl (by decide) (Nat.le_of_ble_eq_true rfl) rfl ?_
    refine v_ifnullN (tgt := 12) dX1_hasTask_5 (by decide) ?_
    refine v_iconst (pc' := 13) dX1_hasTask_12 kc_0 rfl ?_
    exact v_zret dX1_hasTask_13 rfl (Nat.le_refl _) (Nat.le_refl _) rfl (z_rdi (by rw [hi]; rfl))

set_option maxRecDepth 20000 in
set_option maxHeartbeats 4000000 in
theorem c1_hasRoom (hl : l.stackTraces = false) (hS : ShS E G a) (hA : Abs I a r) (hW : WF r) : z_CR E l mX1_hasRoomForTask 1 [.ref a] G I sz (.int (z_b (z_in (r 0) 0 5))) := by
  obtain ⟨h0, h1, h2, h3, hT⟩ := id hS
  obtain ⟨⟨⟨g3, g4, g5, g6, g9, g10⟩, g78⟩, gb, gs, gt⟩ := id hA
  obtain ⟨⟨hc6, hc0⟩, -⟩ := id hW
  refine z_Ct.of hl pn_X1 [some (.ref a)] rfl (Nat.le_of_ble_eq_true rfl) ?_
  refine v_aload_n (pc' := 1) dX1_hasRoomForTask_0 rfl rfl ?_
  refine g_X1_32 (pc' := 4) rfl dX1_hasRoomForTask_1 (by assumption) rfl ?_
  refine v_iconst (pc' := 5) dX1_hasRoomForTask_4 kc_0 rfl ?_
  refine v_iconst (pc' := 6) dX1_hasRoomForTask_5 kc_5 rfl ?_
  refine v_cSNR (pc' := 9) (c4_isBetween hl (I a 3) 0 5) dX1_hasRoomForTask_6 lk_X1_68 mwX4_isBetween msX4_isBetween rfl rfl (by decide) (Nat.le_of_ble_eq_true rfl) rfl ?_
  exact v_zret dX1_hasRoomForTask_9 rfl (Nat.le_refl _) (Nat.le_refl _) (z_b_nar _) (z_rdi (by rw [g3]))
set_option maxRecDepth 20000 in
set_option maxHeartbeats 4000000 in
theorem c1_isTaskInStatus (hl : l.stackTraces = false) (hS : ShS E G a) (hA : Abs I a r) (hW : WF r) (t x : Int32) : z_CR E l mX1_isTaskInStatus 2 [.ref a, .int t, .int x] G I sz (.int (z_b (p_isTask r t && decide (tf r t.toNatClampNeg 4 = x)))) := by
  obtain ⟨h0, h1, h2, h3, hT⟩ := id hS
  obtain ⟨⟨⟨g3, g4, g5, g6, g9, g10⟩, g78⟩, gb, gs, gt⟩ := id hA
  obtain ⟨⟨hc6, hc0⟩, -⟩ := id hW
  rcases nI_isTask hW (t := t) with ⟨hi, u, hu, hu6, rfl⟩ | hi
  · have g := gt u hu
    have hcl : (nI u).toNatClampNeg = u := nI_clamp (by omega)
    refine z_Ct.of hl pn_X1 [some (.ref a), some (.int (nI u)), some (.int x), none] rfl (Nat.le_of_ble_eq_true rfl) ?_
    refine v_aload_n (pc' := 1) dX1_isTaskInStatus_0 rfl rfl ?_
    refine v_iload_n (pc' := 2) dX1_isTaskInStatus_1 rfl rfl ?_
    refine v_cVR (pc' := 5) (c1_taskNumbered hl hS hA hW u hu rfl) dX1_isTaskInStatus_2 lk_X1_64 mwX1_taskNumbered miX1_taskNumbered h0 rfl rfl rfl rfl (by decide) (Nat.le_of_ble_eq_true rfl) rfl ?_
    refine v_astore_n3 (pc' := 6) dX1_isTaskInStatus_5 (by decide) rfl rfl ?_
    refine v_aload_n (pc' := 7) dX1_isTaskInStatus_6 rfl rfl ?_
    refine v_ifnull (pc' := 10) dX1_isTaskInStatus_7 rfl ?_
    refine v_aload_n (pc' := 11) dX1_isTaskInStatus_10 rfl rfl ?_
    refine g_X1_80 (pc' := 14) rfl dX1_isTaskInStatus_11 (hT u hu6) rfl ?_
    refine v_iload_n (pc' := 15) dX1_isTaskInStatus_14 rfl rfl ?_
    refine v_icmp_ne (tgt := 22) (pc' := 18) dX1_isTaskInStatus_15 (by decide) rfl (fun c_15 => ?_) (fun c_15 => ?_)
    · rw [g.2.2.2.2.2.1] at c_15
      refine v_iconst (pc' := 23) dX1_isTaskInStatus_22 kc_0 rfl ?_
      exact v_zret dX1_isTaskInStatus_23 rfl (Nat.le_refl _) (Nat.le_refl _) rfl (z_rdi (by rw [hi, hcl]; simp [z_b, c_15]))
    · rw [g.2.2.2.2.2.1] at c_15
      refine v_iconst (pc' := 19) dX1_isTaskInStatus_18 kc_1 rfl ?_
      refine v_goto (tgt := 23) dX1_isTaskInStatus_19 (by decide) ?_
      exact v_zret dX1_isTaskInStatus_23 rfl (Nat.le_refl _) (Nat.le_refl _) rfl (z_rdi (by rw [hi, hcl]; simp [z_b, c_15]))
  · refine z_Ct.of hl pn_X1 [some (.ref a), some (.int t), some (.int x), none] rfl (Nat.le_of_ble_eq_true rfl) ?_
    refine v_aload_n (pc' := 1) dX1_isTaskInStatus_0 rfl rfl ?_
    refine v_iload_n (pc' := 2) dX1_isTaskInStatus_1 rfl rfl ?_
    refine v_cVR (pc' := 5) (c1_taskNone hl hS hA hW t hi) dX1_isTaskInStatus_2 lk_X1_64 mwX1_taskNumbered miX1_taskNumbered h0 rfl rfl rfl rfl (by decide) (Nat.le_of_ble_eq_true rfl) rfl ?_
    refine v_astoreN_n3 (pc' := 6) dX1_isTaskInStatus_5 (by decide) rfl rfl ?_
    refine v_aloadN_n (pc' := 7) dX1_isTaskInStatus_6 rfl rfl ?_
    refine v_ifnullN (tgt := 22) dX1_isTaskInStatus_7 (by decide) ?_
    refine v_iconst (pc' := 23) dX1_isTaskInStatus_22 kc_0 rfl ?_
    exact v_zret dX1_isTaskInStatus_23 rfl (Nat.le_refl _) (Nat.le_refl _) rfl (z_rdi (by rw [hi]; rfl))

set_option maxRecDepth 20000 in
set_option maxHeartbeats 4000000 in
theorem c1_isTaskAtValue (hl : l.stackTraces = false) (hS : ShS E G a) (hA : Abs I a r) (hW : WF r) (t x : Int32) : z_CR E l mX1_isTaskAtValue 2 [.ref a, .int t, .int x] G I sz (.int (z_b (p_isTask r t && decide (tf r t.toNatClampNeg 1 = x)))) := by
  obtain ⟨h0, h1, h2, h3, hT⟩ := id hS
  obtain ⟨⟨⟨g3, g4, g5, g6, g9, g10⟩, g78⟩, gb, gs, gt⟩ := id hA
  obtain ⟨⟨hc6, hc0⟩, -⟩ := id hW
  rcases nI_isTask hW (t := t) with ⟨hi, u, hu, hu6, rfl⟩ | hi
  · have g := gt u hu
    have hcl : (nI u).toNatClampNeg = u := nI_clamp (by omega)
    refine z_Ct.of hl pn_X1 [some (.ref a), some (.int (nI u)), some (.int x), none] rfl (Nat.le_of_ble_eq_true rfl) ?_
    refine v_aload_n (pc' := 1) dX1_isTaskAtValue_0 rfl rfl ?_
    refine v_iload_n (pc' := 2) dX1_isTaskAtValue_1 rfl rfl ?_
    refine v_cVR (pc' := 5) (c1_taskNumbered hl hS hA hW u hu rfl) dX1_isTaskAtValue_2 lk_X1_64 mwX1_taskNumbered miX1_taskNumbered h0 rfl rfl rfl rfl (by decide) (Nat.le_of_ble_eq_true rfl) rfl ?_
    refine v_astore_n3 (pc' := 6) dX1_isTaskAtValue_5 (by decide) rfl rfl ?_
    refine v_aload_n (pc' := 7) dX1_isTaskAtValue_6 rfl rfl ?_
    refine v_ifnull (pc' := 10) dX1_isTaskAtValue_7 rfl ?_
    refine v_aload_n (pc' := 11) dX1_isTaskAtValue_10 rfl rfl ?_
    refine g_X1_93 (pc' := 14) rfl dX1_isTaskAtValue_11 (hT u hu6) rfl ?_
    refine v_iload_n (pc' := 15) dX1_isTaskAtValue_14 rfl rfl ?_
    refine v_icmp_ne (tgt := 22) (pc' := 18) dX1_isTaskAtValue_15 (by decide) rfl (fun c_15 => ?_) (fun c_15 => ?_)
    · rw [g.2.1] at c_15
      refine v_iconst (pc' := 23) dX1_isTaskAtValue_22 kc_0 rfl ?_
      exact v_zret dX1_isTaskAtValue_23 rfl (Nat.le_refl _) (Nat.le_refl _) rfl (z_rdi (by rw [hi, hcl]; simp [z_b, c_15]))
    · rw [g.2.1] at c_15
      refine v_iconst (pc' := 19) dX1_isTaskAtValue_18 kc_1 rfl ?_
      refine v_goto (tgt := 23) dX1_isTaskAtValue_19 (by decide) ?_
      exact v_zret dX1_isTaskAtValue_23 rfl (Nat.le_refl _) (Nat.le_refl _) rfl (z_rdi (by rw [hi, hcl]; simp [z_b, c_15]))
  · refine z_Ct.of hl pn_X1 [some (.ref a), some (.int t), some (.int x), none] rfl (Nat.le_of_ble_eq_true rfl) ?_
    refine v_aload_n (pc' := 1) dX1_isTaskAtValue_0 rfl rfl ?_
    refine v_iload_n (pc' := 2) dX1_isTaskAtValue_1 rfl rfl ?_
    refine v_cVR (pc' := 5) (c1_taskNone hl hS hA hW t hi) dX1_isTaskAtValue_2 lk_X1_64 mwX1_taskNumbered miX1_taskNumbered h0 rfl rfl rfl rfl (by decide) (Nat.le_of_ble_eq_true rfl) rfl ?_
    refine v_astoreN_n3 (pc' := 6) dX1_isTaskAtValue_5 (by decide) rfl rfl ?_
    refine v_aloadN_n (pc' := 7) dX1_isTaskAtValue_6 rfl rfl ?_
    refine v_ifnullN (tgt := 22) dX1_isTaskAtValue_7 (by decide) ?_
    refine v_iconst (pc' := 23) dX1_isTaskAtValue_22 kc_0 rfl ?_
    exact v_zret dX1_isTaskAtValue_23 rfl (Nat.le_refl _) (Nat.le_refl _) rfl (z_rdi (by rw [hi]; rfl))

set_option maxRecDepth 20000 in
set_option maxHeartbeats 4000000 in
theorem c1_jobOwner (hl : l.stackTraces = false) (hS : ShS E G a) (hA : Abs I a r) (hW : WF r) (hj : ¬ r 5 = -1) : z_CR E l mX1_jobOwner 2 [.ref a] G I sz (.ref (a + 4 + 1 * jt r)) := by
  obtain ⟨h0, h1, h2, h3, hT⟩ := id hS
  obtain ⟨⟨⟨g3, g4, g5, g6, g9, g10⟩, g78⟩, gb, gs, gt⟩ := id hA
  obtain ⟨⟨hc6, hc0⟩, -⟩ := id hW
  obtain ⟨j1, j2, j3⟩ := hW.job hj
  refine z_Ct.of hl pn_X1 [some (.ref a)] rfl (Nat.le_of_ble_eq_true rfl) ?_
  refine v_aload_n (pc' := 1) dX1_jobOwner_0 rfl rfl ?_
  refine v_aload_n (pc' := 2) dX1_jobOwner_1 rfl rfl ?_
  refine g_X1_55 (pc' := 5) rfl dX1_jobOwner_2 (by assumption) rfl ?_
  refine v_cVR (pc' := 8) (c1_taskNumbered hl hS hA hW (jt r) j1 (g6.trans j2)) dX1_jobOwner_5 lk_X1_64 mwX1_taskNumbered miX1_taskNumbered h0 rfl rfl rfl rfl (by decide) (Nat.le_of_ble_eq_true rfl) rfl ?_
  exact v_aret dX1_jobOwner_8 rfl (Nat.le_refl _) (Nat.le_refl _) (Or.inr ⟨_, rfl⟩) (z_rd rfl)
set_option maxRecDepth 20000 in
set_option maxHeartbeats 4000000 in
theorem c1_jobNone (hl : l.stackTraces = false) (hS : ShS E G a) (hA : Abs I a r) (hW : WF r) (hj : r 5 = -1) : z_CR E l mX1_jobOwner 2 [.ref a] G I sz .null := by
  obtain ⟨h0, h1, h2, h3, hT⟩ := id hS
  obtain ⟨⟨⟨g3, g4, g5, g6, g9, g10⟩, g78⟩, gb, gs, gt⟩ := id hA
  obtain ⟨⟨hc6, hc0⟩, -⟩ := id hW
  refine z_Ct.of hl pn_X1 [some (.ref a)] rfl (Nat.le_of_ble_eq_true rfl) ?_
  refine v_aload_n (pc' := 1) dX1_jobOwner_0 rfl rfl ?_
  refine v_aload_n (pc' := 2) dX1_jobOwner_1 rfl rfl ?_
  refine g_X1_55 (pc' := 5) rfl dX1_jobOwner_2 (by assumption) rfl ?_
  refine v_cVR (pc' := 8) (c1_taskNone hl hS hA hW (I a 6) (by rw [g6, hj]; exact p_isTask_m1)) dX1_jobOwner_5 lk_X1_64 mwX1_taskNumbered miX1_taskNumbered h0 rfl rfl rfl rfl (by decide) (Nat.le_of_ble_eq_true rfl) rfl ?_
  exact v_aret dX1_jobOwner_8 rfl (Nat.le_refl _) (Nat.le_refl _) (Or.inl rfl) (z_rd rfl)
set_option maxRecDepth 20000 in
set_option maxHeartbeats 4000000 in
theorem c1_isGood (hl : l.stackTraces = false) (hS : ShS E G a) (hA : Abs I a r) (hW : WF r) (s : Nat) (hs : s < 12) {s3 : Int32} (hs3 : s3 = nI s) : z_CR E l mX1_isGood 2 [.ref a, .int s3] G I sz (.int (z_b (decide (r (11 + s) = 0)))) := by
  obtain ⟨h0, h1, h2, h3, hT⟩ := id hS
  obtain ⟨⟨⟨g3, g4, g5, g6, g9, g10⟩, g78⟩, gb, gs, gt⟩ := id hA
  obtain ⟨⟨hc6, hc0⟩, -⟩ := id hW
  subst hs3
  have hb01 := hW.2.2.2.1 s hs
  refine z_Ct.of hl pn_X1 [some (.ref a), some (.int (nI s))] rfl (Nat.le_of_ble_eq_true rfl) ?_
  refine v_iload_n (pc' := 1) dX1_isGood_0 rfl rfl ?_
  refine v_cSNR (pc' := 4) (c4_isStripe hl (nI s)) dX1_isGood_1 lk_X1_100 mwX4_isStripe msX4_isStripe rfl rfl (by decide) (Nat.le_of_ble_eq_true rfl) rfl ?_
  refine v_if_eq (tgt := 20) (pc' := 7) dX1_isGood_4 (by decide) rfl (fun c_4 => ?_) (fun c_4 => ?_)
  · rw [z_b_eq0, p_isStripe_of hs] at c_4
    cases c_4
  · refine v_aload_n (pc' := 8) dX1_isGood_7 rfl rfl ?_
    refine g_X1_17 (pc' := 11) rfl dX1_isGood_8 (by assumption) rfl ?_
    refine v_iload_n (pc' := 12) dX1_isGood_11 rfl rfl ?_
    refine v_zald (pc' := 13) dX1_isGood_12 (s) rfl (by assumption) hs (by decide) rfl ?_
    refine v_if_ne (tgt := 20) (pc' := 16) dX1_isGood_13 (by decide) rfl (fun c_13 => ?_) (fun c_13 => ?_)
    · rw [gb s hs] at c_13
      refine v_iconst (pc' := 21) dX1_isGood_20 kc_0 rfl ?_
      exact v_zret dX1_isGood_21 rfl (Nat.le_refl _) (Nat.le_refl _) rfl (z_rdi (by rcases hb01 with hb01 | hb01 <;> first | (simp [z_b, hb01]; done) | (exact absurd hb01 c_13) | (rw [c_13] at hb01; exact absurd hb01 (by decide))))
    · rw [gb s hs] at c_13
      refine v_iconst (pc' := 17) dX1_isGood_16 kc_1 rfl ?_
      refine v_goto (tgt := 21) dX1_isGood_17 (by decide) ?_
      exact v_zret dX1_isGood_21 rfl (Nat.le_refl _) (Nat.le_refl _) rfl (z_rdi (by rcases hb01 with hb01 | hb01 <;> first | (simp [z_b, hb01]; done) | (exact absurd hb01 c_13) | (rw [c_13] at hb01; exact absurd hb01 (by decide))))
set_option maxRecDepth 20000 in
set_option maxHeartbeats 4000000 in
theorem c1_isGoodOut (hl : l.stackTraces = false) (hS : ShS E G a) (hA : Abs I a r) (hW : WF r) (s : Int32) (hs : p_isStripe s = false) : z_CR E l mX1_isGood 2 [.ref a, .int s] G I sz (.int 0) := by
  obtain ⟨h0, h1, h2, h3, hT⟩ := id hS
  obtain ⟨⟨⟨g3, g4, g5, g6, g9, g10⟩, g78⟩, gb, gs, gt⟩ := id hA
  obtain ⟨⟨hc6, hc0⟩, -⟩ := id hW
  refine z_Ct.of hl pn_X1 [some (.ref a), some (.int s)] rfl (Nat.le_of_ble_eq_true rfl) ?_
  refine v_iload_n (pc' := 1) dX1_isGood_0 rfl rfl ?_
  refine v_cSNR (pc' := 4) (c4_isStripe hl s) dX1_isGood_1 lk_X1_100 mwX4_isStripe msX4_isStripe rfl rfl (by decide) (Nat.le_of_ble_eq_true rfl) rfl ?_
  refine v_if_eq (tgt := 20) (pc' := 7) dX1_isGood_4 (by decide) rfl (fun c_4 => ?_) (fun c_4 => ?_)
  · refine v_iconst (pc' := 21) dX1_isGood_20 kc_0 rfl ?_
    exact v_zret dX1_isGood_21 rfl (Nat.le_refl _) (Nat.le_refl _) rfl (z_rdi rfl)
  · rw [z_b_ne0, hs] at c_4
    cases c_4
set_option maxRecDepth 20000 in
set_option maxHeartbeats 4000000 in
theorem c1_isBad (hl : l.stackTraces = false) (hS : ShS E G a) (hA : Abs I a r) (hW : WF r) (s : Nat) (hs : s < 12) {s3 : Int32} (hs3 : s3 = nI s) : z_CR E l mX1_isBad 2 [.ref a, .int s3] G I sz (.int (z_b (decide (r (11 + s) = 1)))) := by
  obtain ⟨h0, h1, h2, h3, hT⟩ := id hS
  obtain ⟨⟨⟨g3, g4, g5, g6, g9, g10⟩, g78⟩, gb, gs, gt⟩ := id hA
  obtain ⟨⟨hc6, hc0⟩, -⟩ := id hW
  subst hs3
  have hb01 := hW.2.2.2.1 s hs
  refine z_Ct.of hl pn_X1 [some (.ref a), some (.int (nI s))] rfl (Nat.le_of_ble_eq_true rfl) ?_
  refine v_iload_n (pc' := 1) dX1_isBad_0 rfl rfl ?_
  refine v_cSNR (pc' := 4) (c4_isStripe hl (nI s)) dX1_isBad_1 lk_X1_100 mwX4_isStripe msX4_isStripe rfl rfl (by decide) (Nat.le_of_ble_eq_true rfl) rfl ?_
  refine v_if_eq (tgt := 20) (pc' := 7) dX1_isBad_4 (by decide) rfl (fun c_4 => ?_) (fun c_4 => ?_)
  · rw [z_b_eq0, p_isStripe_of hs] at c_4
    cases c_4
  · refine v_aload_n (pc' := 8) dX1_isBad_7 rfl rfl ?_
    refine g_X1_17 (pc' := 11) rfl dX1_isBad_8 (by assumption) rfl ?_
    refine v_iload_n (pc' := 12) dX1_isBad_11 rfl rfl ?_
    refine v_zald (pc' := 13) dX1_isBad_12 (s) rfl (by assumption) hs (by decide) rfl ?_
    refine v_if_eq (tgt := 20) (pc' := 16) dX1_isBad_13 (by decide) rfl (fun c_13 => ?_) (fun c_13 => ?_)
    · rw [gb s hs] at c_13
      refine v_iconst (pc' := 21) dX1_isBad_20 kc_0 rfl ?_
      exact v_zret dX1_isBad_21 rfl (Nat.le_refl _) (Nat.le_refl _) rfl (z_rdi (by rcases hb01 with hb01 | hb01 <;> first | (simp [z_b, hb01]; done) | (exact absurd hb01 c_13) | (rw [c_13] at hb01; exact absurd hb01 (by decide))))
    · rw [gb s hs] at c_13
      refine v_iconst (pc' := 17) dX1_isBad_16 kc_1 rfl ?_
      refine v_goto (tgt := 21) dX1_isBad_17 (by decide) ?_
      exact v_zret dX1_isBad_21 rfl (Nat.le_refl _) (Nat.le_refl _) rfl (z_rdi (by rcases hb01 with hb01 | hb01 <;> first | (simp [z_b, hb01]; done) | (exact absurd hb01 c_13) | (rw [c_13] at hb01; exact absurd hb01 (by decide))))
set_option maxRecDepth 20000 in
set_option maxHeartbeats 4000000 in
theorem c1_isBadOut (hl : l.stackTraces = false) (hS : ShS E G a) (hA : Abs I a r) (hW : WF r) (s : Int32) (hs : p_isStripe s = false) : z_CR E l mX1_isBad 2 [.ref a, .int s] G I sz (.int 0) := by
  obtain ⟨h0, h1, h2, h3, hT⟩ := id hS
  obtain ⟨⟨⟨g3, g4, g5, g6, g9, g10⟩, g78⟩, gb, gs, gt⟩ := id hA
  obtain ⟨⟨hc6, hc0⟩, -⟩ := id hW
  refine z_Ct.of hl pn_X1 [some (.ref a), some (.int s)] rfl (Nat.le_of_ble_eq_true rfl) ?_
  refine v_iload_n (pc' := 1) dX1_isBad_0 rfl rfl ?_
  refine v_cSNR (pc' := 4) (c4_isStripe hl s) dX1_isBad_1 lk_X1_100 mwX4_isStripe msX4_isStripe rfl rfl (by decide) (Nat.le_of_ble_eq_true rfl) rfl ?_
  refine v_if_eq (tgt := 20) (pc' := 7) dX1_isBad_4 (by decide) rfl (fun c_4 => ?_) (fun c_4 => ?_)
  · refine v_iconst (pc' := 21) dX1_isBad_20 kc_0 rfl ?_
    exact v_zret dX1_isBad_21 rfl (Nat.le_refl _) (Nat.le_refl _) rfl (z_rdi rfl)
  · rw [z_b_ne0, hs] at c_4
    cases c_4
set_option maxRecDepth 20000 in
set_option maxHeartbeats 4000000 in
theorem c1_takerOf (hl : l.stackTraces = false) (hS : ShS E G a) (hA : Abs I a r) (hW : WF r) (s : Int32) : z_CR E l mX1_takerOf 1 [.ref a, .int s] G I sz (.int (p_taker r s)) := by
  obtain ⟨h0, h1, h2, h3, hT⟩ := id hS
  obtain ⟨⟨⟨g3, g4, g5, g6, g9, g10⟩, g78⟩, gb, gs, gt⟩ := id hA
  obtain ⟨⟨hc6, hc0⟩, -⟩ := id hW
  have loop : ∀ (n t : Nat), cnt r = t + n → p_tkf r s n t = p_taker r s → z_V E l mX1_takerOf (z_rm 1 0 0) 0 0 (z_q (fun v' G' I' sz' => v' = some (.int (p_taker r s)) ∧ G' = G ∧ I' = I ∧ sz' = sz)) 0 0 G I sz 2 [some (.ref a), some (.int s), some (.int (nI t))] [] := by
    intro n
    induction n with
    | zero =>
      intro t ht hp
      refine v_iload_n (pc' := 3) dX1_takerOf_2 rfl rfl ?_
      refine v_aload_n (pc' := 4) dX1_takerOf_3 rfl rfl ?_
      refine g_X1_32 (pc' := 7) rfl dX1_takerOf_4 (by assumption) rfl ?_
      refine v_icmp_ge (tgt := 37) (pc' := 10) dX1_takerOf_7 (by decide) rfl (fun c_7 => ?_) (fun c_7 => ?_)
      · refine v_iconst (pc' := 38) dX1_takerOf_37 kc_m1 rfl ?_
        exact v_iret dX1_takerOf_38 rfl (Nat.le_refl _) (Nat.le_refl _) (z_rdi hp)
      · exact absurd (by rw [g3, hc0, ht]; exact nI_le (by omega) (by omega)) c_7
    | succ n ih =>
      intro t ht hp
      refine v_iload_n (pc' := 3) dX1_takerOf_2 rfl rfl ?_
      refine v_aload_n (pc' := 4) dX1_takerOf_3 rfl rfl ?_
      refine g_X1_32 (pc' := 7) rfl dX1_takerOf_4 (by assumption) rfl ?_
      refine v_icmp_ge (tgt := 37) (pc' := 10) dX1_takerOf_7 (by decide) rfl (fun c_7 => ?_) (fun c_7 => ?_)
      · rw [g3, hc0, ht] at c_7
        exact absurd c_7 (nI_ge (by omega) (by omega))
      · refine v_iload_n (pc' := 11) dX1_takerOf_10 rfl rfl ?_
        refine v_bipush (pc' := 13) dX1_takerOf_11 kb_6 rfl ?_
        refine v_icmp_ge (tgt := 37) (pc' := 16) dX1_takerOf_13 (by decide) rfl (fun c_13 => ?_) (fun c_13 => ?_)
        · exact absurd c_13 (nI_ge (b := 6) (by omega) (by decide))
        · refine v_aload_n (pc' := 17) dX1_takerOf_16 rfl rfl ?_
          refine g_X1_11 (pc' := 20) rfl dX1_takerOf_17 (by assumption) rfl ?_
          refine v_iload_n (pc' := 21) dX1_takerOf_20 rfl rfl ?_
          refine v_aald (t := 4) (pc' := 22) rfl dX1_takerOf_21 (t) rfl (by assumption) (by omega) (by decide) rfl ?_
          refine v_iload_n (pc' := 23) dX1_takerOf_22 rfl rfl ?_
          refine v_cVR (pc' := 26) (c2_takes hl (hT t (by omega)) s) dX1_takerOf_23 lk_X1_103 mwX2_takes miX2_takes (hT t (by omega)) rfl rfl rfl rfl (by decide) (Nat.le_of_ble_eq_true rfl) rfl ?_
          refine v_if_eq (tgt := 31) (pc' := 29) dX1_takerOf_26 (by decide) rfl (fun c_26 => ?_) (fun c_26 => ?_)
          · rw [z_b_eq0, (gt t (by omega)).takes s] at c_26
            simp only [p_tkf, c_26, Bool.false_eq_true, if_false] at hp
            refine v_iinc2 (pc' := 34) dX1_takerOf_31 (by decide) rfl kc_1 (nI_1 t) rfl ?_
            refine v_goto (tgt := 2) dX1_takerOf_34 (by decide) ?_
            exact ih (t + 1) (by omega) hp
          · rw [z_b_ne0, (gt t (by omega)).takes s] at c_26
            simp only [p_tkf, c_26, if_true] at hp
            refine v_iload_n (pc' := 30) dX1_takerOf_29 rfl rfl ?_
            exact v_iret dX1_takerOf_30 rfl (Nat.le_refl _) (Nat.le_refl _) (z_rdi hp)
  refine z_Ct.of hl pn_X1 [some (.ref a), some (.int s), none] rfl (Nat.le_of_ble_eq_true rfl) ?_
  refine v_iconst (pc' := 1) dX1_takerOf_0 kc_0 rfl ?_
  refine v_istore_n2 (pc' := 2) dX1_takerOf_1 (by decide) rfl rfl ?_
  exact loop (cnt r) 0 (by omega) rfl
set_option maxRecDepth 20000 in
set_option maxHeartbeats 4000000 in
theorem c1_moverTo (hl : l.stackTraces = false) (hS : ShS E G a) (hA : Abs I a r) (hW : WF r) (s : Int32) : z_CR E l mX1_moverTo 3 [.ref a, .int s] G I sz (.int (p_comer r s)) := by
  obtain ⟨h0, h1, h2, h3, hT⟩ := id hS
  obtain ⟨⟨⟨g3, g4, g5, g6, g9, g10⟩, g78⟩, gb, gs, gt⟩ := id hA
  obtain ⟨⟨hc6, hc0⟩, -⟩ := id hW
  by_cases hj : r 5 = -1
  · have hm : p_isMove r = false := by simp [p_isMove, hj]
    refine z_Ct.of hl pn_X1 [some (.ref a), some (.int s), none] rfl (Nat.le_of_ble_eq_true rfl) ?_
    refine v_aload_n (pc' := 1) dX1_moverTo_0 rfl rfl ?_
    refine v_cVR (pc' := 4) (c1_jobNone hl hS hA hW hj) dX1_moverTo_1 lk_X1_106 mwX1_jobOwner miX1_jobOwner h0 rfl rfl rfl rfl (by decide) (Nat.le_of_ble_eq_true rfl) rfl ?_
    refine v_astoreN_n2 (pc' := 5) dX1_moverTo_4 (by decide) rfl rfl ?_
    refine v_aloadN_n (pc' := 6) dX1_moverTo_5 rfl rfl ?_
    refine v_ifnullN (tgt := 17) dX1_moverTo_6 (by decide) ?_
    refine v_iconst (pc' := 18) dX1_moverTo_17 kc_m1 rfl ?_
    exact v_iret dX1_moverTo_18 rfl (Nat.le_refl _) (Nat.le_refl _) (z_rdi (by simp [p_comer, hm]))
  · obtain ⟨j1, j2, j3⟩ := hW.job hj
    obtain ⟨q7, q8⟩ := g78 hj
    have g := gt (jt r) j1
    refine z_Ct.of hl pn_X1 [some (.ref a), some (.int s), none] rfl (Nat.le_of_ble_eq_true rfl) ?_
    refine v_aload_n (pc' := 1) dX1_moverTo_0 rfl rfl ?_
    refine v_cVR (pc' := 4) (c1_jobOwner hl hS hA hW hj) dX1_moverTo_1 lk_X1_106 mwX1_jobOwner miX1_jobOwner h0 rfl rfl rfl rfl (by decide) (Nat.le_of_ble_eq_true rfl) rfl ?_
    refine v_astore_n2 (pc' := 5) dX1_moverTo_4 (by decide) rfl rfl ?_
    refine v_aload_n (pc' := 6) dX1_moverTo_5 rfl rfl ?_
    refine v_ifnull (pc' := 9) dX1_moverTo_6 rfl ?_
    refine v_aload_n (pc' := 10) dX1_moverTo_9 rfl rfl ?_
    refine g_X1_80 (pc' := 13) rfl dX1_moverTo_10 (hT (jt r) j3) rfl ?_
    refine v_iconst (pc' := 14) dX1_moverTo_13 kc_1 rfl ?_
    refine v_icmp_ne (tgt := 19) (pc' := 17) dX1_moverTo_14 (by decide) rfl (fun c_14 => ?_) (fun c_14 => ?_)
    · rw [g.2.2.2.2.2.1] at c_14
      have hm : p_isMove r = true := by simp [p_isMove, hj, c_14]
      refine v_iload_n (pc' := 20) dX1_moverTo_19 rfl rfl ?_
      refine v_aload_n (pc' := 21) dX1_moverTo_20 rfl rfl ?_
      refine g_X1_58 (pc' := 24) rfl dX1_moverTo_21 (by assumption) rfl ?_
      refine v_icmp_lt (tgt := 47) (pc' := 27) dX1_moverTo_24 (by decide) rfl (fun c_24 => ?_) (fun c_24 => ?_)
      · rw [q7, ← Int32.not_le] at c_24
        refine v_iconst (pc' := 48) dX1_moverTo_47 kc_m1 rfl ?_
        exact v_iret dX1_moverTo_48 rfl (Nat.le_refl _) (Nat.le_refl _) (z_rdi (by first | (simp [p_comer, hm]; done) | (simp [p_comer, hm, c_24]; done) | (simp [p_comer, hm, c_24, c_37]; done) | (simp [p_comer, hm, c_24, c_37, g6]; done)))
      · rw [q7, Int32.not_lt] at c_24
        refine v_iload_n (pc' := 28) dX1_moverTo_27 rfl rfl ?_
        refine v_aload_n (pc' := 29) dX1_moverTo_28 rfl rfl ?_
        refine g_X1_58 (pc' := 32) rfl dX1_moverTo_29 (by assumption) rfl ?_
        refine v_aload_n (pc' := 33) dX1_moverTo_32 rfl rfl ?_
        refine g_X1_110 (pc' := 36) rfl dX1_moverTo_33 (hT (jt r) j3) rfl ?_
        refine v_iadd (pc' := 37) dX1_moverTo_36 rfl ?_
        refine v_icmp_ge (tgt := 47) (pc' := 40) dX1_moverTo_37 (by decide) rfl (fun c_37 => ?_) (fun c_37 => ?_)
        · rw [q7, g.1, ← Int32.not_lt] at c_37
          refine v_iconst (pc' := 48) dX1_moverTo_47 kc_m1 rfl ?_
          exact v_iret dX1_moverTo_48 rfl (Nat.le_refl _) (Nat.le_refl _) (z_rdi (by first | (simp [p_comer, hm]; done) | (simp [p_comer, hm, c_24]; done) | (simp [p_comer, hm, c_24, c_37]; done) | (simp [p_comer, hm, c_24, c_37, g6]; done)))
        · rw [q7, g.1, Int32.not_le] at c_37
          refine v_aload_n (pc' := 41) dX1_moverTo_40 rfl rfl ?_
          refine g_X1_55 (pc' := 44) rfl dX1_moverTo_41 (by assumption) rfl ?_
          refine v_goto (tgt := 48) dX1_moverTo_44 (by decide) ?_
          exact v_iret dX1_moverTo_48 rfl (Nat.le_refl _) (Nat.le_refl _) (z_rdi (by first | (simp [p_comer, hm]; done) | (simp [p_comer, hm, c_24]; done) | (simp [p_comer, hm, c_24, c_37]; done) | (simp [p_comer, hm, c_24, c_37, g6]; done)))
    · rw [g.2.2.2.2.2.1] at c_14
      have hm : p_isMove r = false := by simp [p_isMove, c_14]
      refine v_iconst (pc' := 18) dX1_moverTo_17 kc_m1 rfl ?_
      exact v_iret dX1_moverTo_18 rfl (Nat.le_refl _) (Nat.le_refl _) (z_rdi (by first | (simp [p_comer, hm]; done) | (simp [p_comer, hm, c_24]; done) | (simp [p_comer, hm, c_24, c_37]; done) | (simp [p_comer, hm, c_24, c_37, g6]; done)))

set_option maxRecDepth 20000 in
set_option maxHeartbeats 4000000 in
theorem c1_isFree (hl : l.stackTraces = false) (hS : ShS E G a) (hA : Abs I a r) (hW : WF r) (s : Nat) (hs : s < 12) {s3 : Int32} (hs3 : s3 = nI s) : z_CR E l mX1_isFree 4 [.ref a, .int s3] G I sz (.int (z_b (p_free r s))) := by
  obtain ⟨h0, h1, h2, h3, hT⟩ := id hS
  obtain ⟨⟨⟨g3, g4, g5, g6, g9, g10⟩, g78⟩, gb, gs, gt⟩ := id hA
  obtain ⟨⟨hc6, hc0⟩, -⟩ := id hW
  subst hs3
  refine z_Ct.of hl pn_X1 [some (.ref a), some (.int (nI s))] rfl (Nat.le_of_ble_eq_true rfl) ?_
  refine v_aload_n (pc' := 1) dX1_isFree_0 rfl rfl ?_
  refine v_iload_n (pc' := 2) dX1_isFree_1 rfl rfl ?_
  refine v_cVR (pc' := 5) (c1_isGood hl hS hA hW s hs rfl) dX1_isFree_2 lk_X1_113 mwX1_isGood miX1_isGood h0 rfl rfl rfl rfl (by decide) (Nat.le_of_ble_eq_true rfl) rfl ?_
  refine v_if_eq (tgt := 30) (pc' := 8) dX1_isFree_5 (by decide) rfl (fun c_5 => ?_) (fun c_5 => ?_)
  · rw [z_b_eq0, decide_eq_false_iff_not] at c_5
    refine v_iconst (pc' := 31) dX1_isFree_30 kc_0 rfl ?_
    exact v_zret dX1_isFree_31 rfl (Nat.le_refl _) (Nat.le_refl _) rfl (z_rdi (by simp [z_b, p_free, *]))
  · rw [z_b_ne0, decide_eq_true_eq] at c_5
    refine v_aload_n (pc' := 9) dX1_isFree_8 rfl rfl ?_
    refine v_iload_n (pc' := 10) dX1_isFree_9 rfl rfl ?_
    refine v_cVR (pc' := 13) (c1_takerOf hl hS hA hW (nI s)) dX1_isFree_10 lk_X1_116 mwX1_takerOf miX1_takerOf h0 rfl rfl rfl rfl (by decide) (Nat.le_of_ble_eq_true rfl) rfl ?_
    refine v_iconst (pc' := 14) dX1_isFree_13 kc_m1 rfl ?_
    refine v_icmp_ne (tgt := 30) (pc' := 17) dX1_isFree_14 (by decide) rfl (fun c_14 => ?_) (fun c_14 => ?_)
    · refine v_iconst (pc' := 31) dX1_isFree_30 kc_0 rfl ?_
      exact v_zret dX1_isFree_31 rfl (Nat.le_refl _) (Nat.le_refl _) rfl (z_rdi (by simp [z_b, p_free, *]))
    · refine v_aload_n (pc' := 18) dX1_isFree_17 rfl rfl ?_
      refine v_iload_n (pc' := 19) dX1_isFree_18 rfl rfl ?_
      refine v_cVR (pc' := 22) (c1_moverTo hl hS hA hW (nI s)) dX1_isFree_19 lk_X1_120 mwX1_moverTo miX1_moverTo h0 rfl rfl rfl rfl (by decide) (Nat.le_of_ble_eq_true rfl) rfl ?_
      refine v_iconst (pc' := 23) dX1_isFree_22 kc_m1 rfl ?_
      refine v_icmp_ne (tgt := 30) (pc' := 26) dX1_isFree_23 (by decide) rfl (fun c_23 => ?_) (fun c_23 => ?_)
      · refine v_iconst (pc' := 31) dX1_isFree_30 kc_0 rfl ?_
        exact v_zret dX1_isFree_31 rfl (Nat.le_refl _) (Nat.le_refl _) rfl (z_rdi (by simp [z_b, p_free, *]))
      · refine v_iconst (pc' := 27) dX1_isFree_26 kc_1 rfl ?_
        refine v_goto (tgt := 31) dX1_isFree_27 (by decide) ?_
        exact v_zret dX1_isFree_31 rfl (Nat.le_refl _) (Nat.le_refl _) rfl (z_rdi (by simp [z_b, p_free, *]))
set_option maxRecDepth 20000 in
set_option maxHeartbeats 4000000 in
theorem c1_isFreeOut (hl : l.stackTraces = false) (hS : ShS E G a) (hA : Abs I a r) (hW : WF r) (s : Int32) (hs : p_isStripe s = false) : z_CR E l mX1_isFree 4 [.ref a, .int s] G I sz (.int 0) := by
  obtain ⟨h0, h1, h2, h3, hT⟩ := id hS
  obtain ⟨⟨⟨g3, g4, g5, g6, g9, g10⟩, g78⟩, gb, gs, gt⟩ := id hA
  obtain ⟨⟨hc6, hc0⟩, -⟩ := id hW
  refine z_Ct.of hl pn_X1 [some (.ref a), some (.int s)] rfl (Nat.le_of_ble_eq_true rfl) ?_
  refine v_aload_n (pc' := 1) dX1_isFree_0 rfl rfl ?_
  refine v_iload_n (pc' := 2) dX1_isFree_1 rfl rfl ?_
  refine v_cVR (pc' := 5) (c1_isGoodOut hl hS hA hW s hs) dX1_isFree_2 lk_X1_113 mwX1_isGood miX1_isGood h0 rfl rfl rfl rfl (by decide) (Nat.le_of_ble_eq_true rfl) rfl ?_
  refine v_if_eq (tgt := 30) (pc' := 8) dX1_isFree_5 (by decide) rfl (fun c_5 => ?_) (fun c_5 => ?_)
  · refine v_iconst (pc' := 31) dX1_isFree_30 kc_0 rfl ?_
    exact v_zret dX1_isFree_31 rfl (Nat.le_refl _) (Nat.le_refl _) rfl (z_rdi rfl)
  · exact absurd rfl c_5
set_option maxRecDepth 20000 in
set_option maxHeartbeats 4000000 in
theorem c1_idle (hl : l.stackTraces = false) (hS : ShS E G a) (hA : Abs I a r) (hW : WF r) : z_CR E l mX1_ticksUntilIdle 3 [.ref a] G I sz (.int (p_idle r)) := by
  obtain ⟨h0, h1, h2, h3, hT⟩ := id hS
  obtain ⟨⟨⟨g3, g4, g5, g6, g9, g10⟩, g78⟩, gb, gs, gt⟩ := id hA
  obtain ⟨⟨hc6, hc0⟩, -⟩ := id hW
  by_cases hj : r 5 = -1
  · refine z_Ct.of hl pn_X1 [some (.ref a), none] rfl (Nat.le_of_ble_eq_true rfl) ?_
    refine v_aload_n (pc' := 1) dX1_ticksUntilIdle_0 rfl rfl ?_
    refine v_cVR (pc' := 4) (c1_jobNone hl hS hA hW hj) dX1_ticksUntilIdle_1 lk_X1_106 mwX1_jobOwner miX1_jobOwner h0 rfl rfl rfl rfl (by decide) (Nat.le_of_ble_eq_true rfl) rfl ?_
    refine v_astoreN_n1 (pc' := 5) dX1_ticksUntilIdle_4 (by decide) rfl rfl ?_
    refine v_aloadN_n (pc' := 6) dX1_ticksUntilIdle_5 rfl rfl ?_
    refine v_ifnonnullN (pc' := 9) dX1_ticksUntilIdle_6 rfl ?_
    refine v_iconst (pc' := 10) dX1_ticksUntilIdle_9 kc_0 rfl ?_
    exact v_iret dX1_ticksUntilIdle_10 rfl (Nat.le_refl _) (Nat.le_refl _) (z_rdi (by simp [p_idle, hj]))
  · obtain ⟨j1, j2, j3⟩ := hW.job hj
    obtain ⟨q7, q8⟩ := g78 hj
    have g := gt (jt r) j1
    refine z_Ct.of hl pn_X1 [some (.ref a), none] rfl (Nat.le_of_ble_eq_true rfl) ?_
    refine v_aload_n (pc' := 1) dX1_ticksUntilIdle_0 rfl rfl ?_
    refine v_cVR (pc' := 4) (c1_jobOwner hl hS hA hW hj) dX1_ticksUntilIdle_1 lk_X1_106 mwX1_jobOwner miX1_jobOwner h0 rfl rfl rfl rfl (by decide) (Nat.le_of_ble_eq_true rfl) rfl ?_
    refine v_astore_n1 (pc' := 5) dX1_ticksUntilIdle_4 (by decide) rfl rfl ?_
    refine v_aload_n (pc' := 6) dX1_ticksUntilIdle_5 rfl rfl ?_
    refine v_ifnonnull (tgt := 11) dX1_ticksUntilIdle_6 (by decide) ?_
    refine v_aload_n (pc' := 12) dX1_ticksUntilIdle_11 rfl rfl ?_
    refine g_X1_80 (pc' := 15) rfl dX1_ticksUntilIdle_12 (hT (jt r) j3) rfl ?_
    refine v_iconst (pc' := 16) dX1_ticksUntilIdle_15 kc_2 rfl ?_
    refine v_icmp_ne (tgt := 33) (pc' := 19) dX1_ticksUntilIdle_16 (by decide) rfl (fun c_16 => ?_) (fun c_16 => ?_)
    · rw [g.2.2.2.2.2.1] at c_16
      refine v_aload_n (pc' := 34) dX1_ticksUntilIdle_33 rfl rfl ?_
      refine g_X1_61 (pc' := 37) rfl dX1_ticksUntilIdle_34 (by assumption) rfl ?_
      exact v_iret dX1_ticksUntilIdle_37 rfl (Nat.le_refl _) (Nat.le_refl _) (z_rdi (by first | (simp [p_idle, hj, c_16, q8]; done) | (rw [q8, gs 1 (by omega)]; simp [p_idle, hj, c_16]; done)))
    · rw [g.2.2.2.2.2.1] at c_16
      refine v_aload_n (pc' := 20) dX1_ticksUntilIdle_19 rfl rfl ?_
      refine g_X1_61 (pc' := 23) rfl dX1_ticksUntilIdle_20 (by assumption) rfl ?_
      refine v_aload_n (pc' := 24) dX1_ticksUntilIdle_23 rfl rfl ?_
      refine g_X1_21 (pc' := 27) rfl dX1_ticksUntilIdle_24 (by assumption) rfl ?_
      refine v_iconst (pc' := 28) dX1_ticksUntilIdle_27 kc_1 rfl ?_
      refine v_iald (pc' := 29) dX1_ticksUntilIdle_28 (1) rfl (by assumption) (by decide) (by decide) rfl ?_
      refine v_iadd (pc' := 30) dX1_ticksUntilIdle_29 rfl ?_
      refine v_goto (tgt := 37) dX1_ticksUntilIdle_30 (by decide) ?_
      exact v_iret dX1_ticksUntilIdle_37 rfl (Nat.le_refl _) (Nat.le_refl _) (z_rdi (by first | (simp [p_idle, hj, c_16, q8]; done) | (rw [q8, gs 1 (by omega)]; simp [p_idle, hj, c_16]; done)))

def p_vic (r : zR) (s : Int32) : Int32 := if ¬ p_comer r s = -1 ∧ tf r (p_comer r s).toNatClampNeg 4 = 3 then p_comer r s else p_taker r s
set_option maxRecDepth 20000 in
set_option maxHeartbeats 4000000 in
theorem c1_victimOf (hl : l.stackTraces = false) (hS : ShS E G a) (hA : Abs I a r) (hW : WF r) (s : Int32) : z_CR E l mX1_victimOf 4 [.ref a, .int s] G I sz (.int (p_vic r s)) := by
  obtain ⟨h0, h1, h2, h3, hT⟩ := id hS
  obtain ⟨⟨⟨g3, g4, g5, g6, g9, g10⟩, g78⟩, gb, gs, gt⟩ := id hA
  obtain ⟨⟨hc6, hc0⟩, -⟩ := id hW
  refine z_Ct.of hl pn_X1 [some (.ref a), some (.int s), none] rfl (Nat.le_of_ble_eq_true rfl) ?_
  refine v_aload_n (pc' := 1) dX1_victimOf_0 rfl rfl ?_
  refine v_iload_n (pc' := 2) dX1_victimOf_1 rfl rfl ?_
  refine v_cVR (pc' := 5) (c1_moverTo hl hS hA hW s) dX1_victimOf_2 lk_X1_120 mwX1_moverTo miX1_moverTo h0 rfl rfl rfl rfl (by decide) (Nat.le_of_ble_eq_true rfl) rfl ?_
  refine v_istore_n2 (pc' := 6) dX1_victimOf_5 (by decide) rfl rfl ?_
  refine v_aload_n (pc' := 7) dX1_victimOf_6 rfl rfl ?_
  refine v_iload_n (pc' := 8) dX1_victimOf_7 rfl rfl ?_
  refine v_iconst (pc' := 9) dX1_victimOf_8 kc_3 rfl ?_
  refine v_cVR (pc' := 12) (c1_isTaskInStatus hl hS hA hW (p_comer r s) 3) dX1_victimOf_9 lk_X1_96 mwX1_isTaskInStatus miX1_isTaskInStatus h0 rfl rfl rfl rfl (by decide) (Nat.le_of_ble_eq_true rfl) rfl ?_
  refine v_if_eq (tgt := 19) (pc' := 15) dX1_victimOf_12 (by decide) rfl (fun c_12 => ?_) (fun c_12 => ?_)
  · rw [z_b_eq0] at c_12
    refine v_aload_n (pc' := 20) dX1_victimOf_19 rfl rfl ?_
    refine v_iload_n (pc' := 21) dX1_victimOf_20 rfl rfl ?_
    refine v_cVR (pc' := 24) (c1_takerOf hl hS hA hW s) dX1_victimOf_21 lk_X1_116 mwX1_takerOf miX1_takerOf h0 rfl rfl rfl rfl (by decide) (Nat.le_of_ble_eq_true rfl) rfl ?_
    exact v_iret dX1_victimOf_24 rfl (Nat.le_refl _) (Nat.le_refl _) (z_rdi (by
        rcases p_comer_cases r s with h | ⟨h, h2, -⟩
        · rw [h, p_isTask_m1] at c_12
          first | (simp [p_vic, h]; done) | (exact absurd c_12 (by simp))
        · obtain ⟨j1, j2, j3⟩ := hW.job h2
          have hi : p_isTask r (p_comer r s) = true := by rw [h, j2]; exact p_isTask_of hW j1
          rw [hi] at c_12
          have hn : ¬ p_comer r s = -1 := by rw [h]; exact h2
          simp only [Bool.true_and, decide_eq_true_eq, decide_eq_false_iff_not] at c_12
          simp [p_vic, hn, c_12]))
  · rw [z_b_ne0] at c_12
    refine v_iload_n (pc' := 16) dX1_victimOf_15 rfl rfl ?_
    refine v_goto (tgt := 24) dX1_victimOf_16 (by decide) ?_
    exact v_iret dX1_victimOf_24 rfl (Nat.le_refl _) (Nat.le_refl _) (z_rdi (by
        rcases p_comer_cases r s with h | ⟨h, h2, -⟩
        · rw [h, p_isTask_m1] at c_12
          first | (simp [p_vic, h]; done) | (exact absurd c_12 (by simp))
        · obtain ⟨j1, j2, j3⟩ := hW.job h2
          have hi : p_isTask r (p_comer r s) = true := by rw [h, j2]; exact p_isTask_of hW j1
          rw [hi] at c_12
          have hn : ¬ p_comer r s = -1 := by rw [h]; exact h2
          simp only [Bool.true_and, decide_eq_true_eq, decide_eq_false_iff_not] at c_12
          simp [p_vic, hn, c_12]))
end CLS1
