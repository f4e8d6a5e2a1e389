/-! THE REFERENCE's static methods that change the row (written by wip/whole/gen_ref3.py) -/
section REF3
variable {E : zE} {l : Launch} {G : zG} {I : zI} {sz q : Nat}
set_option maxRecDepth 20000 in
set_option maxHeartbeats 4000000 in
theorem c5_finish (hl : l.stackTraces = false) (hq : (q, sI E 0 65) ∈ G) (j : Nat) (hj : I q 5 = nI j) (hj6 : j < 6) : z_CV E l mX5_finish 1 [.ref q] G I sz (fun I' => I' = z_row I q (p_finish (I q))) := by
  have hjt : jt (I q) = j := nI_jt hj (by omega)
  refine z_Ct.of hl pn_X5 [some (.ref q), none] rfl (Nat.le_of_ble_eq_true rfl) ?_
  refine v_aload_n (pc' := 1) dX5_finish_0 rfl rfl ?_
  refine v_iconst (pc' := 2) dX5_finish_1 kc_5 rfl ?_
  refine v_iald (pc' := 3) dX5_finish_2 (5) rfl (by assumption) (by decide) (by decide) rfl ?_
  refine v_istore_n1 (pc' := 4) dX5_finish_3 (by decide) rfl rfl ?_
  refine v_aload_n (pc' := 5) dX5_finish_4 rfl rfl ?_
  refine v_iload_n (pc' := 6) dX5_finish_5 rfl rfl ?_
  refine v_iconst (pc' := 7) dX5_finish_6 kc_4 rfl ?_
  refine v_iconst (pc' := 8) dX5_finish_7 kc_2 rfl ?_
  refine v_cSV (pc' := 11) (c5_lay hl hq j 4 (2) hj rfl (by omega)) dX5_finish_8 lk_X5_69 mwX5_lay msX5_lay rfl rfl (by decide) (Nat.le_of_ble_eq_true rfl) rfl ?_
  rintro _ rfl
  try simp only [z_up_row, z_row_row, z_row_at]
  refine v_aload_n (pc' := 12) dX5_finish_11 rfl rfl ?_
  refine v_iload_n (pc' := 13) dX5_finish_12 rfl rfl ?_
  refine v_iconst (pc' := 14) dX5_finish_13 kc_5 rfl ?_
  refine v_aload_n (pc' := 15) dX5_finish_14 rfl rfl ?_
  refine v_bipush (pc' := 17) dX5_finish_15 kb_6 rfl ?_
  refine v_iald (pc' := 18) dX5_finish_17 (6) rfl (by assumption) (by decide) (by decide) rfl ?_
  refine v_cSV (pc' := 21) (c5_lay hl hq j 5 (_) hj rfl (by omega)) dX5_finish_18 lk_X5_69 mwX5_lay msX5_lay rfl rfl (by decide) (Nat.le_of_ble_eq_true rfl) rfl ?_
  rintro _ rfl
  try simp only [z_up_row, z_row_row, z_row_at]
  refine v_aload_n (pc' := 22) dX5_finish_21 rfl rfl ?_
  refine v_iconst (pc' := 23) dX5_finish_22 kc_5 rfl ?_
  refine v_iconst (pc' := 24) dX5_finish_23 kc_m1 rfl ?_
  refine v_iast (pc' := 25) dX5_finish_24 (5) rfl (by assumption) (by decide) (by decide) rfl ?_
  refine v_aload_n (pc' := 26) dX5_finish_25 rfl rfl ?_
  refine v_iconst (pc' := 27) dX5_finish_26 kc_2 rfl ?_
  refine v_dup2 (pc' := 28) dX5_finish_27 rfl rfl rfl ?_
  refine v_iald (pc' := 29) dX5_finish_28 (2) rfl (by assumption) (by decide) (by decide) rfl ?_
  refine v_iconst (pc' := 30) dX5_finish_29 kc_1 rfl ?_
  refine v_iadd (pc' := 31) dX5_finish_30 rfl ?_
  refine v_iast (pc' := 32) dX5_finish_31 (2) rfl (by assumption) (by decide) (by decide) rfl ?_
  exact v_vret dX5_finish_32 rfl (Nat.le_refl _) (Nat.le_refl _) ⟨rfl, rfl, rfl, by simp only [z_up_row, z_row_row, z_row_at, p_finish, hjt]; simp (disch := omega) only [pk_us, pk_un]⟩
set_option maxRecDepth 20000 in
set_option maxHeartbeats 4000000 in
theorem c5_loadOn (hl : l.stackTraces = false) (hq : (q, sI E 0 65) ∈ G) (hW : WF (I q)) : z_CV E l mX5_loadOn 2 [.ref q] G I sz (fun I' => I' = z_row I q (p_load (I q))) := by
  refine z_Ct.of hl pn_X5 [some (.ref q)] rfl (Nat.le_of_ble_eq_true rfl) ?_
  refine v_aload_n (pc' := 1) dX5_loadOn_0 rfl rfl ?_
  refine v_iconst (pc' := 2) dX5_loadOn_1 kc_5 rfl ?_
  refine v_iald (pc' := 3) dX5_loadOn_2 (5) rfl (by assumption) (by decide) (by decide) rfl ?_
  refine v_iconst (pc' := 4) dX5_loadOn_3 kc_m1 rfl ?_
  refine v_icmp_ne (tgt := 8) (pc' := 7) dX5_loadOn_4 (by decide) rfl (fun c_4 => ?_) (fun c_4 => ?_)
  · obtain ⟨hj1, hj2, hj3⟩ := hW.job c_4
    have hjw : jt (upd (I q) 7 (I q 7 - 1)) = jt (I q) := by unfold jt; rw [pk_un (by omega)]
    refine v_aload_n (pc' := 9) dX5_loadOn_8 rfl rfl ?_
    refine v_bipush (pc' := 11) dX5_loadOn_9 kb_7 rfl ?_
    refine v_dup2 (pc' := 12) dX5_loadOn_11 rfl rfl rfl ?_
    refine v_iald (pc' := 13) dX5_loadOn_12 (7) rfl (by assumption) (by decide) (by decide) rfl ?_
    refine v_iconst (pc' := 14) dX5_loadOn_13 kc_1 rfl ?_
    refine v_isub (pc' := 15) dX5_loadOn_14 rfl ?_
    refine v_iast (pc' := 16) dX5_loadOn_15 (7) rfl (by assumption) (by decide) (by decide) rfl ?_
    try simp only [z_up_row, z_row_row, z_row_at]
    refine v_aload_n (pc' := 17) dX5_loadOn_16 rfl rfl ?_
    refine v_bipush (pc' := 19) dX5_loadOn_17 kb_7 rfl ?_
    refine v_iald (pc' := 20) dX5_loadOn_19 (7) rfl (by assumption) (by decide) (by decide) rfl ?_
    refine v_if_le (tgt := 24) (pc' := 23) dX5_loadOn_20 (by decide) rfl (fun c_20 => ?_) (fun c_20 => ?_)
    · rw [z_row_at, pk_us, ← Int32.not_lt] at c_20
      refine v_aload_n (pc' := 25) dX5_loadOn_24 rfl rfl ?_
      refine v_aload_n (pc' := 26) dX5_loadOn_25 rfl rfl ?_
      refine v_iconst (pc' := 27) dX5_loadOn_26 kc_5 rfl ?_
      refine v_iald (pc' := 28) dX5_loadOn_27 (5) rfl (by assumption) (by decide) (by decide) rfl ?_
      refine v_iconst (pc' := 29) dX5_loadOn_28 kc_4 rfl ?_
      refine v_cSR (pc' := 32) (c5_of hl hq (jt (I q)) 4 (by rw [z_row_at, pk_un (by omega)]; exact hj2) rfl (by omega)) dX5_loadOn_29 lk_X5_43 mwX5_of msX5_of rfl rfl (by decide) (Nat.le_of_ble_eq_true rfl) rfl ?_
      refine v_iconst (pc' := 33) dX5_loadOn_32 kc_2 rfl ?_
      refine v_icmp_ne (tgt := 63) (pc' := 36) dX5_loadOn_33 (by decide) rfl (fun c_33 => ?_) (fun c_33 => ?_)
      · rw [z_row_at, tf_upd_lo _ _ (by omega)] at c_33
        refine v_aload_n (pc' := 64) dX5_loadOn_63 rfl rfl ?_
        refine v_cSV (pc' := 67) (c5_finish hl hq (jt (I q)) (by rw [z_row_at, pk_un (by omega)]; exact hj2) hj3) dX5_loadOn_64 lk_X5_73 mwX5_finish msX5_finish rfl rfl (by decide) (Nat.le_of_ble_eq_true rfl) rfl ?_
        rintro _ rfl
        try simp only [z_up_row, z_row_row, z_row_at]
        exact v_vret dX5_loadOn_67 rfl (Nat.le_refl _) (Nat.le_refl _) ⟨rfl, rfl, rfl, by first | (rw [p_load, if_neg c_4, if_neg c_20, if_neg (fun q9 => c_33 q9.1)]; done) | (rw [p_load, if_neg c_4, if_neg c_20, if_neg (fun q9 => c_40 q9.2)]; done)⟩
      · rw [z_row_at, tf_upd_lo _ _ (by omega)] at c_33
        refine v_aload_n (pc' := 37) dX5_loadOn_36 rfl rfl ?_
        refine v_bipush (pc' := 39) dX5_loadOn_37 kb_9 rfl ?_
        refine v_iald (pc' := 40) dX5_loadOn_39 (9) rfl (by assumption) (by decide) (by decide) rfl ?_
        refine v_if_le (tgt := 63) (pc' := 43) dX5_loadOn_40 (by decide) rfl (fun c_40 => ?_) (fun c_40 => ?_)
        · rw [z_row_at, pk_un (by omega), ← Int32.not_lt] at c_40
          refine v_aload_n (pc' := 64) dX5_loadOn_63 rfl rfl ?_
          refine v_cSV (pc' := 67) (c5_finish hl hq (jt (I q)) (by rw [z_row_at, pk_un (by omega)]; exact hj2) hj3) dX5_loadOn_64 lk_X5_73 mwX5_finish msX5_finish rfl rfl (by decide) (Nat.le_of_ble_eq_true rfl) rfl ?_
          rintro _ rfl
          try simp only [z_up_row, z_row_row, z_row_at]
          exact v_vret dX5_loadOn_67 rfl (Nat.le_refl _) (Nat.le_refl _) ⟨rfl, rfl, rfl, by first | (rw [p_load, if_neg c_4, if_neg c_20, if_neg (fun q9 => c_33 q9.1)]; done) | (rw [p_load, if_neg c_4, if_neg c_20, if_neg (fun q9 => c_40 q9.2)]; done)⟩
        · rw [z_row_at, pk_un (by omega), Int32.not_le] at c_40
          refine v_aload_n (pc' := 44) dX5_loadOn_43 rfl rfl ?_
          refine v_aload_n (pc' := 45) dX5_loadOn_44 rfl rfl ?_
          refine v_iconst (pc' := 46) dX5_loadOn_45 kc_5 rfl ?_
          refine v_iald (pc' := 47) dX5_loadOn_46 (5) rfl (by assumption) (by decide) (by decide) rfl ?_
          refine v_iconst (pc' := 48) dX5_loadOn_47 kc_4 rfl ?_
          refine v_iconst (pc' := 49) dX5_loadOn_48 kc_3 rfl ?_
          refine v_cSV (pc' := 52) (c5_lay hl hq (jt (I q)) 4 (3) (by rw [z_row_at, pk_un (by omega)]; exact hj2) rfl (by omega)) dX5_loadOn_49 lk_X5_69 mwX5_lay msX5_lay rfl rfl (by decide) (Nat.le_of_ble_eq_true rfl) rfl ?_
          rintro _ rfl
          try simp only [z_up_row, z_row_row, z_row_at]
          refine v_aload_n (pc' := 53) dX5_loadOn_52 rfl rfl ?_
          refine v_bipush (pc' := 55) dX5_loadOn_53 kb_7 rfl ?_
          refine v_aload_n (pc' := 56) dX5_loadOn_55 rfl rfl ?_
          refine v_bipush (pc' := 58) dX5_loadOn_56 kb_9 rfl ?_
          refine v_iald (pc' := 59) dX5_loadOn_58 (9) rfl (by assumption) (by decide) (by decide) rfl ?_
          refine v_iast (pc' := 60) dX5_loadOn_59 (7) rfl (by assumption) (by decide) (by decide) rfl ?_
          refine v_goto (tgt := 67) dX5_loadOn_60 (by decide) ?_
          exact v_vret dX5_loadOn_67 rfl (Nat.le_refl _) (Nat.le_refl _) ⟨rfl, rfl, rfl, by simp only [z_up_row, z_row_row, z_row_at, p_load, if_neg c_4, if_neg c_20, if_pos (And.intro c_33 c_40)]; simp (disch := omega) only [pk_us, pk_un]⟩
    · rw [z_row_at, pk_us, Int32.not_le] at c_20
      exact v_vret dX5_loadOn_23 rfl (Nat.le_refl _) (Nat.le_refl _) ⟨rfl, rfl, rfl, by simp only [p_load, if_neg c_4, if_pos c_20]⟩
  · rw [p_load, if_pos c_4, z_row_self]
    exact v_vret dX5_loadOn_7 rfl (Nat.le_refl _) (Nat.le_refl _) ⟨rfl, rfl, rfl, rfl⟩
set_option maxRecDepth 20000 in
set_option maxHeartbeats 4000000 in
theorem c5_tickOn (hl : l.stackTraces = false) (hq : (q, sI E 0 65) ∈ G) (hW : WF (I q)) : z_CV E l mX5_tickOn 3 [.ref q] G I sz (fun I' => I' = z_row I q (p_tick (I q))) := by
  obtain ⟨⟨hc6, hc0⟩, -⟩ := id hW
  have h10 : ¬ I q 10 = 0 := fun q9 => by
    have := hW.2.2.2.2.1.2.2.1
    rw [q9] at this
    exact absurd this (by decide)
  have hl0 : p_load (I q) 0 = nI (cnt (p_load (I q))) := by
    unfold cnt
    rw [p_load_lo _ (by omega)]
    exact hc0
  have loop : ∀ (sv : Bool) (n t : Nat) (r' : zR) (o : Option Value), z_c1 o = true → cnt (p_load (I q)) = t + n → r' 0 = nI (cnt (p_load (I q))) → upd (p_works sv n t r') 1 (p_works sv n t r' 1 + 1) = p_tick (I q) → z_V E l mX5_tickOn (z_rm 3 0 0) 0 0 (z_q (fun v' G' I' sz' => v' = none ∧ G' = G ∧ sz' = sz ∧ I' = z_row I q (p_tick (I q)))) 0 0 G (z_row I q r') sz 25 [some (.ref q), some (.int (z_b sv)), some (.int (nI t)), o] [] := by
    have hc1 : cnt (p_load (I q)) = cnt (I q) := by unfold cnt; rw [p_load_lo _ (by omega)]
    intro sv n
    induction n with
    | zero =>
      intro t r' o ho ht hr0 hp
      refine v_iload_n (pc' := 26) dX5_tickOn_25 rfl rfl ?_
      refine v_aload_n (pc' := 27) dX5_tickOn_26 rfl rfl ?_
      refine v_iconst (pc' := 28) dX5_tickOn_27 kc_0 rfl ?_
      refine v_iald (pc' := 29) dX5_tickOn_28 (0) rfl (by assumption) (by decide) (by decide) rfl ?_
      refine v_icmp_ge (tgt := 146) (pc' := 32) dX5_tickOn_29 (by decide) rfl (fun c_29 => ?_) (fun c_29 => ?_)
      · refine v_aload_n (pc' := 147) dX5_tickOn_146 rfl rfl ?_
        refine v_iconst (pc' := 148) dX5_tickOn_147 kc_1 rfl ?_
        refine v_dup2 (pc' := 149) dX5_tickOn_148 rfl rfl rfl ?_
        refine v_iald (pc' := 150) dX5_tickOn_149 (1) rfl (by assumption) (by decide) (by decide) rfl ?_
        refine v_iconst (pc' := 151) dX5_tickOn_150 kc_1 rfl ?_
        refine v_iadd (pc' := 152) dX5_tickOn_151 rfl ?_
        refine v_iast (pc' := 153) dX5_tickOn_152 (1) rfl (by assumption) (by decide) (by decide) rfl ?_
        exact v_vret dX5_tickOn_153 rfl (Nat.le_refl _) (Nat.le_refl _) ⟨rfl, rfl, rfl, by simp only [z_up_row, z_row_row, z_row_at]; exact congrArg (z_row I q) (by rw [← hp]; rfl)⟩
      · exact absurd (by rw [z_row_at, hr0]; exact nI_le (by omega) (by omega)) c_29
    | succ n ih =>
      intro t r' o ho ht hr0 hp
      refine v_iload_n (pc' := 26) dX5_tickOn_25 rfl rfl ?_
      refine v_aload_n (pc' := 27) dX5_tickOn_26 rfl rfl ?_
      refine v_iconst (pc' := 28) dX5_tickOn_27 kc_0 rfl ?_
      refine v_iald (pc' := 29) dX5_tickOn_28 (0) rfl (by assumption) (by decide) (by decide) rfl ?_
      refine v_icmp_ge (tgt := 146) (pc' := 32) dX5_tickOn_29 (by decide) rfl (fun c_29 => ?_) (fun c_29 => ?_)
      · rw [z_row_at, hr0] at c_29
        exact absurd c_29 (nI_ge (by omega) (by omega))
      · refine v_aload_n (pc' := 33) dX5_tickOn_32 rfl rfl ?_
        refine v_iload_n (pc' := 34) dX5_tickOn_33 rfl rfl ?_
        refine v_iconst (pc' := 35) dX5_tickOn_34 kc_4 rfl ?_
        refine v_cSR (pc' := 38) (c5_of hl hq t 4 rfl rfl (by omega)) dX5_tickOn_35 lk_X5_43 mwX5_of msX5_of rfl rfl (by decide) (Nat.le_of_ble_eq_true rfl) rfl ?_
        refine v_iconst (pc' := 39) dX5_tickOn_38 kc_2 rfl ?_
        refine v_icmp_ne (tgt := 140) (pc' := 42) dX5_tickOn_39 (by decide) rfl (fun c_39 => ?_) (fun c_39 => ?_)
        · rw [z_row_at] at c_39
          simp only [p_works, p_work, if_neg c_39] at hp
          try simp only [z_up_row, z_row_row, z_row_at]
          refine v_iinc2 (pc' := 143) dX5_tickOn_140 (by decide) rfl kc_1 (nI_1 t) rfl ?_
          refine v_goto (tgt := 25) dX5_tickOn_143 (by decide) ?_
          first
            | exact ih (t + 1) _ _ ho (by omega) hr0 hp
            | exact absurd (c_93.symm.trans c_114) (by decide)
            | (refine ih (t + 1) _ _ rfl (by omega) (by simp (disch := omega) only [pk_un, upd_hi, z_row_at]; exact hr0) ?_
               refine Eq.trans ?_ hp
               rw [p_works]
               refine congrArg (fun r9 => upd (p_works sv n (t + 1) r9) 1 (p_works sv n (t + 1) r9 1 + 1)) ?_
               simp only [p_work, if_pos c_39, c_93, Bool.false_eq_true, if_true, if_false]
               simp (disch := omega) only [pk_un, upd_hi, tf_upd_eq, tf_upd_w, tf_upd_lo, p_nv, z_rem, z_row_at])
        · rw [z_row_at] at c_39
          refine v_bipush (pc' := 44) dX5_tickOn_42 kb_31 rfl ?_
          refine v_aload_n (pc' := 45) dX5_tickOn_44 rfl rfl ?_
          refine v_iload_n (pc' := 46) dX5_tickOn_45 rfl rfl ?_
          refine v_iconst (pc' := 47) dX5_tickOn_46 kc_1 rfl ?_
          refine v_cSR (pc' := 50) (c5_of hl hq t 1 rfl rfl (by omega)) dX5_tickOn_47 lk_X5_43 mwX5_of msX5_of rfl rfl (by decide) (Nat.le_of_ble_eq_true rfl) rfl ?_
          refine v_imul (pc' := 51) dX5_tickOn_50 rfl ?_
          refine v_bipush (pc' := 53) dX5_tickOn_51 kb_7 rfl ?_
          refine v_aload_n (pc' := 54) dX5_tickOn_53 rfl rfl ?_
          refine v_iload_n (pc' := 55) dX5_tickOn_54 rfl rfl ?_
          refine v_iconst (pc' := 56) dX5_tickOn_55 kc_0 rfl ?_
          refine v_cSR (pc' := 59) (c5_of hl hq t 0 rfl rfl (by omega)) dX5_tickOn_56 lk_X5_43 mwX5_of msX5_of rfl rfl (by decide) (Nat.le_of_ble_eq_true rfl) rfl ?_
          refine v_imul (pc' := 60) dX5_tickOn_59 rfl ?_
          refine v_iadd (pc' := 61) dX5_tickOn_60 rfl ?_
          refine v_iconst (pc' := 62) dX5_tickOn_61 kc_1 rfl ?_
          refine v_iadd (pc' := 63) dX5_tickOn_62 rfl ?_
          refine v_sipush (pc' := 66) dX5_tickOn_63 ks_997 rfl ?_
          refine v_irem (pc' := 67) dX5_tickOn_66 (by decide) rfl ?_
          refine v_istore_n3 (pc' := 68) dX5_tickOn_67 (by decide) rfl rfl ?_
          refine v_aload_n (pc' := 69) dX5_tickOn_68 rfl rfl ?_
          refine v_iload_n (pc' := 70) dX5_tickOn_69 rfl rfl ?_
          refine v_iconst (pc' := 71) dX5_tickOn_70 kc_1 rfl ?_
          refine v_iload_n (pc' := 72) dX5_tickOn_71 rfl rfl ?_
          refine v_cSV (pc' := 75) (c5_lay hl hq t 1 (_) rfl rfl (by omega)) dX5_tickOn_72 lk_X5_69 mwX5_lay msX5_lay rfl rfl (by decide) (Nat.le_of_ble_eq_true rfl) rfl ?_
          rintro _ rfl
          try simp only [z_up_row, z_row_row, z_row_at]
          refine v_aload_n (pc' := 76) dX5_tickOn_75 rfl rfl ?_
          refine v_iload_n (pc' := 77) dX5_tickOn_76 rfl rfl ?_
          refine v_iconst (pc' := 78) dX5_tickOn_77 kc_3 rfl ?_
          refine v_aload_n (pc' := 79) dX5_tickOn_78 rfl rfl ?_
          refine v_iload_n (pc' := 80) dX5_tickOn_79 rfl rfl ?_
          refine v_iconst (pc' := 81) dX5_tickOn_80 kc_3 rfl ?_
          refine v_cSR (pc' := 84) (c5_of hl hq t 3 rfl rfl (by omega)) dX5_tickOn_81 lk_X5_43 mwX5_of msX5_of rfl rfl (by decide) (Nat.le_of_ble_eq_true rfl) rfl ?_
          refine v_iconst (pc' := 85) dX5_tickOn_84 kc_1 rfl ?_
          refine v_iadd (pc' := 86) dX5_tickOn_85 rfl ?_
          refine v_cSV (pc' := 89) (c5_lay hl hq t 3 (_) rfl rfl (by omega)) dX5_tickOn_86 lk_X5_69 mwX5_lay msX5_lay rfl rfl (by decide) (Nat.le_of_ble_eq_true rfl) rfl ?_
          rintro _ rfl
          try simp only [z_up_row, z_row_row, z_row_at]
          refine v_aload_n (pc' := 90) dX5_tickOn_89 rfl rfl ?_
          refine v_iload_n (pc' := 91) dX5_tickOn_90 rfl rfl ?_
          refine v_iconst (pc' := 92) dX5_tickOn_91 kc_2 rfl ?_
          refine v_iload_n (pc' := 93) dX5_tickOn_92 rfl rfl ?_
          refine v_if_eq (tgt := 100) (pc' := 96) dX5_tickOn_93 (by decide) rfl (fun c_93 => ?_) (fun c_93 => ?_)
          · rw [z_b_eq0] at c_93
            refine v_aload_n (pc' := 101) dX5_tickOn_100 rfl rfl ?_
            refine v_iload_n (pc' := 102) dX5_tickOn_101 rfl rfl ?_
            refine v_iconst (pc' := 103) dX5_tickOn_102 kc_2 rfl ?_
            refine v_cSR (pc' := 106) (c5_of hl hq t 2 rfl rfl (by omega)) dX5_tickOn_103 lk_X5_43 mwX5_of msX5_of rfl rfl (by decide) (Nat.le_of_ble_eq_true rfl) rfl ?_
            refine v_cSV (pc' := 109) (c5_lay hl hq t 2 (_) rfl rfl (by omega)) dX5_tickOn_106 lk_X5_69 mwX5_lay msX5_lay rfl rfl (by decide) (Nat.le_of_ble_eq_true rfl) rfl ?_
            rintro _ rfl
            try simp only [z_up_row, z_row_row, z_row_at]
            refine v_aload_n (pc' := 110) dX5_tickOn_109 rfl rfl ?_
            refine v_iload_n (pc' := 111) dX5_tickOn_110 rfl rfl ?_
            refine v_bipush (pc' := 113) dX5_tickOn_111 kb_6 rfl ?_
            refine v_iload_n (pc' := 114) dX5_tickOn_113 rfl rfl ?_
            refine v_if_eq (tgt := 121) (pc' := 117) dX5_tickOn_114 (by decide) rfl (fun c_114 => ?_) (fun c_114 => ?_)
            · rw [z_b_eq0] at c_114
              refine v_aload_n (pc' := 122) dX5_tickOn_121 rfl rfl ?_
              refine v_iload_n (pc' := 123) dX5_tickOn_122 rfl rfl ?_
              refine v_bipush (pc' := 125) dX5_tickOn_123 kb_6 rfl ?_
              refine v_cSR (pc' := 128) (c5_of hl hq t 6 rfl rfl (by omega)) dX5_tickOn_125 lk_X5_43 mwX5_of msX5_of rfl rfl (by decide) (Nat.le_of_ble_eq_true rfl) rfl ?_
              refine v_iconst (pc' := 129) dX5_tickOn_128 kc_1 rfl ?_
              refine v_iadd (pc' := 130) dX5_tickOn_129 rfl ?_
              refine v_cSV (pc' := 133) (c5_lay hl hq t 6 (_) rfl rfl (by omega)) dX5_tickOn_130 lk_X5_69 mwX5_lay msX5_lay rfl rfl (by decide) (Nat.le_of_ble_eq_true rfl) rfl ?_
              rintro _ rfl
              try simp only [z_up_row, z_row_row, z_row_at]
              refine v_aload_n (pc' := 134) dX5_tickOn_133 rfl rfl ?_
              refine v_iconst (pc' := 135) dX5_tickOn_134 kc_4 rfl ?_
              refine v_dup2 (pc' := 136) dX5_tickOn_135 rfl rfl rfl ?_
              refine v_iald (pc' := 137) dX5_tickOn_136 (4) rfl (by assumption) (by decide) (by decide) rfl ?_
              refine v_iconst (pc' := 138) dX5_tickOn_137 kc_1 rfl ?_
              refine v_iadd (pc' := 139) dX5_tickOn_138 rfl ?_
              refine v_iast (pc' := 140) dX5_tickOn_139 (4) rfl (by assumption) (by decide) (by decide) rfl ?_
              try simp only [z_up_row, z_row_row, z_row_at]
              refine v_iinc2 (pc' := 143) dX5_tickOn_140 (by decide) rfl kc_1 (nI_1 t) rfl ?_
              refine v_goto (tgt := 25) dX5_tickOn_143 (by decide) ?_
              first
                | exact ih (t + 1) _ _ ho (by omega) hr0 hp
                | exact absurd (c_93.symm.trans c_114) (by decide)
                | (refine ih (t + 1) _ _ rfl (by omega) (by simp (disch := omega) only [pk_un, upd_hi, z_row_at]; exact hr0) ?_
                   refine Eq.trans ?_ hp
                   rw [p_works]
                   refine congrArg (fun r9 => upd (p_works sv n (t + 1) r9) 1 (p_works sv n (t + 1) r9 1 + 1)) ?_
                   simp only [p_work, if_pos c_39, c_93, Bool.false_eq_true, if_true, if_false]
                   simp (disch := omega) only [pk_un, upd_hi, tf_upd_eq, tf_upd_w, tf_upd_lo, p_nv, z_rem, z_row_at])
            · rw [z_b_ne0] at c_114
              refine v_iconst (pc' := 118) dX5_tickOn_117 kc_0 rfl ?_
              refine v_goto (tgt := 130) dX5_tickOn_118 (by decide) ?_
              refine v_cSV (pc' := 133) (c5_lay hl hq t 6 (_) rfl rfl (by omega)) dX5_tickOn_130 lk_X5_69 mwX5_lay msX5_lay rfl rfl (by decide) (Nat.le_of_ble_eq_true rfl) rfl ?_
              rintro _ rfl
              try simp only [z_up_row, z_row_row, z_row_at]
              refine v_aload_n (pc' := 134) dX5_tickOn_133 rfl rfl ?_
              refine v_iconst (pc' := 135) dX5_tickOn_134 kc_4 rfl ?_
              refine v_dup2 (pc' := 136) dX5_tickOn_135 rfl rfl rfl ?_
              refine v_iald (pc' := 137) dX5_tickOn_136 (4) rfl (by assumption) (by decide) (by decide) rfl ?_
              refine v_iconst (pc' := 138) dX5_tickOn_137 kc_1 rfl ?_
              refine v_iadd (pc' := 139) dX5_tickOn_138 rfl ?_
              refine v_iast (pc' := 140) dX5_tickOn_139 (4) rfl (by assumption) (by decide) (by decide) rfl ?_
              try simp only [z_up_row, z_row_row, z_row_at]
              refine v_iinc2 (pc' := 143) dX5_tickOn_140 (by decide) rfl kc_1 (nI_1 t) rfl ?_
              refine v_goto (tgt := 25) dX5_tickOn_143 (by decide) ?_
              first
                | exact ih (t + 1) _ _ ho (by omega) hr0 hp
                | exact absurd (c_93.symm.trans c_114) (by decide)
                | (refine ih (t + 1) _ _ rfl (by omega) (by simp (disch := omega) only [pk_un, upd_hi, z_row_at]; exact hr0) ?_
                   refine Eq.trans ?_ hp
                   rw [p_works]
                   refine congrArg (fun r9 => upd (p_works sv n (t + 1) r9) 1 (p_works sv n (t + 1) r9 1 + 1)) ?_
                   simp only [p_work, if_pos c_39, c_93, Bool.false_eq_true, if_true, if_false]
                   simp (disch := omega) only [pk_un, upd_hi, tf_upd_eq, tf_upd_w, tf_upd_lo, p_nv, z_rem, z_row_at])
          · rw [z_b_ne0] at c_93
            refine v_iload_n (pc' := 97) dX5_tickOn_96 rfl rfl ?_
            refine v_goto (tgt := 106) dX5_tickOn_97 (by decide) ?_
            refine v_cSV (pc' := 109) (c5_lay hl hq t 2 (_) rfl rfl (by omega)) dX5_tickOn_106 lk_X5_69 mwX5_lay msX5_lay rfl rfl (by decide) (Nat.le_of_ble_eq_true rfl) rfl ?_
            rintro _ rfl
            try simp only [z_up_row, z_row_row, z_row_at]
            refine v_aload_n (pc' := 110) dX5_tickOn_109 rfl rfl ?_
            refine v_iload_n (pc' := 111) dX5_tickOn_110 rfl rfl ?_
            refine v_bipush (pc' := 113) dX5_tickOn_111 kb_6 rfl ?_
            refine v_iload_n (pc' := 114) dX5_tickOn_113 rfl rfl ?_
            refine v_if_eq (tgt := 121) (pc' := 117) dX5_tickOn_114 (by decide) rfl (fun c_114 => ?_) (fun c_114 => ?_)
            · rw [z_b_eq0] at c_114
              refine v_aload_n (pc' := 122) dX5_tickOn_121 rfl rfl ?_
              refine v_iload_n (pc' := 123) dX5_tickOn_122 rfl rfl ?_
              refine v_bipush (pc' := 125) dX5_tickOn_123 kb_6 rfl ?_
              refine v_cSR (pc' := 128) (c5_of hl hq t 6 rfl rfl (by omega)) dX5_tickOn_125 lk_X5_43 mwX5_of msX5_of rfl rfl (by decide) (Nat.le_of_ble_eq_true rfl) rfl ?_
              refine v_iconst (pc' := 129) dX5_tickOn_128 kc_1 rfl ?_
              refine v_iadd (pc' := 130) dX5_tickOn_129 rfl ?_
              refine v_cSV (pc' := 133) (c5_lay hl hq t 6 (_) rfl rfl (by omega)) dX5_tickOn_130 lk_X5_69 mwX5_lay msX5_lay rfl rfl (by decide) (Nat.le_of_ble_eq_true rfl) rfl ?_
              rintro _ rfl
              try simp only [z_up_row, z_row_row, z_row_at]
              refine v_aload_n (pc' := 134) dX5_tickOn_133 rfl rfl ?_
              refine v_iconst (pc' := 135) dX5_tickOn_134 kc_4 rfl ?_
              refine v_dup2 (pc' := 136) dX5_tickOn_135 rfl rfl rfl ?_
              refine v_iald (pc' := 137) dX5_tickOn_136 (4) rfl (by assumption) (by decide) (by decide) rfl ?_
              refine v_iconst (pc' := 138) dX5_tickOn_137 kc_1 rfl ?_
              refine v_iadd (pc' := 139) dX5_tickOn_138 rfl ?_
              refine v_iast (pc' := 140) dX5_tickOn_139 (4) rfl (by assumption) (by decide) (by decide) rfl ?_
              try simp only [z_up_row, z_row_row, z_row_at]
              refine v_iinc2 (pc' := 143) dX5_tickOn_140 (by decide) rfl kc_1 (nI_1 t) rfl ?_
              refine v_goto (tgt := 25) dX5_tickOn_143 (by decide) ?_
              first
                | exact ih (t + 1) _ _ ho (by omega) hr0 hp
                | exact absurd (c_93.symm.trans c_114) (by decide)
                | (refine ih (t + 1) _ _ rfl (by omega) (by simp (disch := omega) only [pk_un, upd_hi, z_row_at]; exact hr0) ?_
                   refine Eq.trans ?_ hp
                   rw [p_works]
                   refine congrArg (fun r9 => upd (p_works sv n (t + 1) r9) 1 (p_works sv n (t + 1) r9 1 + 1)) ?_
                   simp only [p_work, if_pos c_39, c_93, Bool.false_eq_true, if_true, if_false]
                   simp (disch := omega) only [pk_un, upd_hi, tf_upd_eq, tf_upd_w, tf_upd_lo, p_nv, z_rem, z_row_at])
            · rw [z_b_ne0] at c_114
              refine v_iconst (pc' := 118) dX5_tickOn_117 kc_0 rfl ?_
              refine v_goto (tgt := 130) dX5_tickOn_118 (by decide) ?_
              refine v_cSV (pc' := 133) (c5_lay hl hq t 6 (_) rfl rfl (by omega)) dX5_tickOn_130 lk_X5_69 mwX5_lay msX5_lay rfl rfl (by decide) (Nat.le_of_ble_eq_true rfl) rfl ?_
              rintro _ rfl
              try simp only [z_up_row, z_row_row, z_row_at]
              refine v_aload_n (pc' := 134) dX5_tickOn_133 rfl rfl ?_
              refine v_iconst (pc' := 135) dX5_tickOn_134 kc_4 rfl ?_
              refine v_dup2 (pc' := 136) dX5_tickOn_135 rfl rfl rfl ?_
              refine v_iald (pc' := 137) dX5_tickOn_136 (4) rfl (by assumption) (by decide) (by decide) rfl ?_
              refine v_iconst (pc' := 138) dX5_tickOn_137 kc_1 rfl ?_
              refine v_iadd (pc' := 139) dX5_tickOn_138 rfl ?_
              refine v_iast (pc' := 140) dX5_tickOn_139 (4) rfl (by assumption) (by decide) (by decide) rfl ?_
              try simp only [z_up_row, z_row_row, z_row_at]
              refine v_iinc2 (pc' := 143) dX5_tickOn_140 (by decide) rfl kc_1 (nI_1 t) rfl ?_
              refine v_goto (tgt := 25) dX5_tickOn_143 (by decide) ?_
              first
                | exact ih (t + 1) _ _ ho (by omega) hr0 hp
                | exact absurd (c_93.symm.trans c_114) (by decide)
                | (refine ih (t + 1) _ _ rfl (by omega) (by simp (disch := omega) only [pk_un, upd_hi, z_row_at]; exact hr0) ?_
                   refine Eq.trans ?_ hp
                   rw [p_works]
                   refine congrArg (fun r9 => upd (p_works sv n (t + 1) r9) 1 (p_works sv n (t + 1) r9 1 + 1)) ?_
                   simp only [p_work, if_pos c_39, c_93, Bool.false_eq_true, if_true, if_false]
                   simp (disch := omega) only [pk_un, upd_hi, tf_upd_eq, tf_upd_w, tf_upd_lo, p_nv, z_rem, z_row_at])
  refine z_Ct.of hl pn_X5 [some (.ref q), none, none, none] rfl (Nat.le_of_ble_eq_true rfl) ?_
  refine v_aload_n (pc' := 1) dX5_tickOn_0 rfl rfl ?_
  refine v_cSV (pc' := 4) (c5_loadOn hl hq hW) dX5_tickOn_1 lk_X5_76 mwX5_loadOn msX5_loadOn rfl rfl (by decide) (Nat.le_of_ble_eq_true rfl) rfl ?_
  rintro _ rfl
  refine v_aload_n (pc' := 5) dX5_tickOn_4 rfl rfl ?_
  refine v_iconst (pc' := 6) dX5_tickOn_5 kc_1 rfl ?_
  refine v_iald (pc' := 7) dX5_tickOn_6 (1) rfl (by assumption) (by decide) (by decide) rfl ?_
  refine v_iconst (pc' := 8) dX5_tickOn_7 kc_1 rfl ?_
  refine v_iadd (pc' := 9) dX5_tickOn_8 rfl ?_
  refine v_aload_n (pc' := 10) dX5_tickOn_9 rfl rfl ?_
  refine v_bipush (pc' := 12) dX5_tickOn_10 kb_10 rfl ?_
  refine v_iald (pc' := 13) dX5_tickOn_12 (10) rfl (by assumption) (by decide) (by decide) rfl ?_
  refine v_irem (pc' := 14) dX5_tickOn_13 (by rw [z_row_at, p_load_lo _ (by omega)]; exact h10) rfl ?_
  refine v_if_ne (tgt := 21) (pc' := 17) dX5_tickOn_14 (by decide) rfl (fun c_14 => ?_) (fun c_14 => ?_)
  · rw [z_row_at] at c_14
    have hsv : p_saves (p_load (I q)) = false := by simp only [p_saves, z_rem]; exact decide_eq_false c_14
    refine v_iconst (pc' := 22) dX5_tickOn_21 kc_0 rfl ?_
    refine v_istore_n1 (pc' := 23) dX5_tickOn_22 (by decide) rfl rfl ?_
    refine v_iconst (pc' := 24) dX5_tickOn_23 kc_0 rfl ?_
    refine v_istore_n2 (pc' := 25) dX5_tickOn_24 (by decide) rfl rfl ?_
    first
      | exact loop false (cnt (p_load (I q))) 0 (p_load (I q)) none rfl (by omega) hl0 (by simp only [p_tick, hsv])
      | exact loop true (cnt (p_load (I q))) 0 (p_load (I q)) none rfl (by omega) hl0 (by simp only [p_tick, hsv])
  · rw [z_row_at] at c_14
    have hsv : p_saves (p_load (I q)) = true := by simp only [p_saves, z_rem]; exact decide_eq_true c_14
    refine v_iconst (pc' := 18) dX5_tickOn_17 kc_1 rfl ?_
    refine v_goto (tgt := 22) dX5_tickOn_18 (by decide) ?_
    refine v_istore_n1 (pc' := 23) dX5_tickOn_22 (by decide) rfl rfl ?_
    refine v_iconst (pc' := 24) dX5_tickOn_23 kc_0 rfl ?_
    refine v_istore_n2 (pc' := 25) dX5_tickOn_24 (by decide) rfl rfl ?_
    first
      | exact loop false (cnt (p_load (I q))) 0 (p_load (I q)) none rfl (by omega) hl0 (by simp only [p_tick, hsv])
      | exact loop true (cnt (p_load (I q))) 0 (p_load (I q)) none rfl (by omega) hl0 (by simp only [p_tick, hsv])
set_option maxRecDepth 20000 in
set_option maxHeartbeats 4000000 in
theorem c5_dropJob (hl : l.stackTraces = false) (hq : (q, sI E 0 65) ∈ G) : z_CV E l mX5_dropJob 0 [.ref q] G I sz (fun I' => I' = z_row I q (p_drop (I q))) := by
  refine z_Ct.of hl pn_X5 [some (.ref q)] rfl (Nat.le_of_ble_eq_true rfl) ?_
  refine v_aload_n (pc' := 1) dX5_dropJob_0 rfl rfl ?_
  refine v_iconst (pc' := 2) dX5_dropJob_1 kc_5 rfl ?_
  refine v_iconst (pc' := 3) dX5_dropJob_2 kc_m1 rfl ?_
  refine v_iast (pc' := 4) dX5_dropJob_3 (5) rfl (by assumption) (by decide) (by decide) rfl ?_
  refine v_aload_n (pc' := 5) dX5_dropJob_4 rfl rfl ?_
  refine v_iconst (pc' := 6) dX5_dropJob_5 kc_3 rfl ?_
  refine v_dup2 (pc' := 7) dX5_dropJob_6 rfl rfl rfl ?_
  refine v_iald (pc' := 8) dX5_dropJob_7 (3) rfl (by assumption) (by decide) (by decide) rfl ?_
  refine v_iconst (pc' := 9) dX5_dropJob_8 kc_1 rfl ?_
  refine v_iadd (pc' := 10) dX5_dropJob_9 rfl ?_
  refine v_iast (pc' := 11) dX5_dropJob_10 (3) rfl (by assumption) (by decide) (by decide) rfl ?_
  exact v_vret dX5_dropJob_11 rfl (Nat.le_refl _) (Nat.le_refl _) ⟨rfl, rfl, rfl, by simp only [z_up_row, z_row_row, z_row_at, p_drop]; simp (disch := omega) only [pk_us, pk_un]⟩
set_option maxRecDepth 20000 in
set_option maxHeartbeats 4000000 in
theorem c5_hurt (hl : l.stackTraces = false) (hq : (q, sI E 0 65) ∈ G) (hW : WF (I q)) (s : Int32) : z_CR E l mX5_hurt 3 [.ref q, .int s] G I sz (.int (p_hurt (I q) s)) := by
  refine z_Ct.of hl pn_X5 [some (.ref q), some (.int s), none, none] rfl (Nat.le_of_ble_eq_true rfl) ?_
  refine v_aload_n (pc' := 1) dX5_hurt_0 rfl rfl ?_
  refine v_iload_n (pc' := 2) dX5_hurt_1 rfl rfl ?_
  refine v_cSR (pc' := 5) (c5_taker hl hq hW s) dX5_hurt_2 lk_X5_51 mwX5_taker msX5_taker rfl rfl (by decide) (Nat.le_of_ble_eq_true rfl) rfl ?_
  refine v_istore_n2 (pc' := 6) dX5_hurt_5 (by decide) rfl rfl ?_
  refine v_aload_n (pc' := 7) dX5_hurt_6 rfl rfl ?_
  refine v_iload_n (pc' := 8) dX5_hurt_7 rfl rfl ?_
  refine v_cSR (pc' := 11) (c5_comer hl hq hW s) dX5_hurt_8 lk_X5_55 mwX5_comer msX5_comer rfl rfl (by decide) (Nat.le_of_ble_eq_true rfl) rfl ?_
  refine v_istore_n3 (pc' := 12) dX5_hurt_11 (by decide) rfl rfl ?_
  refine v_iload_n (pc' := 13) dX5_hurt_12 rfl rfl ?_
  refine v_iconst (pc' := 14) dX5_hurt_13 kc_m1 rfl ?_
  refine v_icmp_eq (tgt := 21) (pc' := 17) dX5_hurt_14 (by decide) rfl (fun c_14 => ?_) (fun c_14 => ?_)
  · refine v_iload_n (pc' := 22) dX5_hurt_21 rfl rfl ?_
    refine v_iconst (pc' := 23) dX5_hurt_22 kc_m1 rfl ?_
    refine v_icmp_eq (tgt := 40) (pc' := 26) dX5_hurt_23 (by decide) rfl (fun c_23 => ?_) (fun c_23 => ?_)
    · refine v_iconst (pc' := 41) dX5_hurt_40 kc_m1 rfl ?_
      exact v_iret dX5_hurt_41 rfl (Nat.le_refl _) (Nat.le_refl _) (z_rdi (by first | (simp [p_hurt, c_14]; done) | (simp [p_hurt, c_14, c_23]; done) | (simp [p_hurt, c_14, c_23, hjn, c_33]; done)))
    · obtain ⟨j, hj1, hj2⟩ : ∃ j, j < 6 ∧ p_comer (I q) s = nI j := by
        rcases p_comer_cases (I q) s with h | ⟨h, h2, -⟩
        · exact absurd h c_23
        · exact ⟨jt (I q), (hW.job h2).2.2, by rw [h]; exact (hW.job h2).2.1⟩
      have hjn : (p_comer (I q) s).toNatClampNeg = j := nI_jt hj2 (by omega)
      refine v_aload_n (pc' := 27) dX5_hurt_26 rfl rfl ?_
      refine v_iload_n (pc' := 28) dX5_hurt_27 rfl rfl ?_
      refine v_iconst (pc' := 29) dX5_hurt_28 kc_4 rfl ?_
      refine v_cSR (pc' := 32) (c5_of hl hq j 4 hj2 rfl (by omega)) dX5_hurt_29 lk_X5_43 mwX5_of msX5_of rfl rfl (by decide) (Nat.le_of_ble_eq_true rfl) rfl ?_
      refine v_iconst (pc' := 33) dX5_hurt_32 kc_3 rfl ?_
      refine v_icmp_ne (tgt := 40) (pc' := 36) dX5_hurt_33 (by decide) rfl (fun c_33 => ?_) (fun c_33 => ?_)
      · refine v_iconst (pc' := 41) dX5_hurt_40 kc_m1 rfl ?_
        exact v_iret dX5_hurt_41 rfl (Nat.le_refl _) (Nat.le_refl _) (z_rdi (by first | (simp [p_hurt, c_14]; done) | (simp [p_hurt, c_14, c_23]; done) | (simp [p_hurt, c_14, c_23, hjn, c_33]; done)))
      · refine v_iload_n (pc' := 37) dX5_hurt_36 rfl rfl ?_
        refine v_goto (tgt := 41) dX5_hurt_37 (by decide) ?_
        exact v_iret dX5_hurt_41 rfl (Nat.le_refl _) (Nat.le_refl _) (z_rdi (by first | (simp [p_hurt, c_14]; done) | (simp [p_hurt, c_14, c_23]; done) | (simp [p_hurt, c_14, c_23, hjn, c_33]; done)))
  · refine v_iload_n (pc' := 18) dX5_hurt_17 rfl rfl ?_
    refine v_goto (tgt := 41) dX5_hurt_18 (by decide) ?_
    exact v_iret dX5_hurt_41 rfl (Nat.le_refl _) (Nat.le_refl _) (z_rdi (by first | (simp [p_hurt, c_14]; done) | (simp [p_hurt, c_14, c_23]; done) | (simp [p_hurt, c_14, c_23, hjn, c_33]; done)))
set_option maxRecDepth 20000 in
set_option maxHeartbeats 4000000 in
theorem c5_running (hl : l.stackTraces = false) (hq : (q, sI E 0 65) ∈ G) (hW : WF (I q)) : z_CR E l mX5_running 1 [.ref q] G I sz (.int (p_running (I q))) := by
  obtain ⟨⟨hc6, hc0⟩, -⟩ := hW
  have loop : ∀ (n t : Nat) (x : Int32), cnt (I q) = t + n → p_runn (I q) n t x = p_running (I q) → z_V E l mX5_running (z_rm 1 0 0) 0 0 (z_q (fun v' G' I' sz' => v' = some (.int (p_running (I q))) ∧ G' = G ∧ I' = I ∧ sz' = sz)) 0 0 G I sz 4 [some (.ref q), some (.int x), some (.int (nI t))] [] := by
    intro n
    induction n with
    | zero =>
      intro t x ht hp
      refine v_iload_n (pc' := 5) dX5_running_4 rfl rfl ?_
      refine v_aload_n (pc' := 6) dX5_running_5 rfl rfl ?_
      refine v_iconst (pc' := 7) dX5_running_6 kc_0 rfl ?_
      refine v_iald (pc' := 8) dX5_running_7 (0) rfl (by assumption) (by decide) (by decide) rfl ?_
      refine v_icmp_ge (tgt := 35) (pc' := 11) dX5_running_8 (by decide) rfl (fun c_8 => ?_) (fun c_8 => ?_)
      · refine v_iload_n (pc' := 36) dX5_running_35 rfl rfl ?_
        exact v_iret dX5_running_36 rfl (Nat.le_refl _) (Nat.le_refl _) (z_rdi hp)
      · exact absurd (by rw [hc0, ht]; exact nI_le (by omega) (by omega)) c_8
    | succ n ih =>
      intro t x ht hp
      refine v_iload_n (pc' := 5) dX5_running_4 rfl rfl ?_
      refine v_aload_n (pc' := 6) dX5_running_5 rfl rfl ?_
      refine v_iconst (pc' := 7) dX5_running_6 kc_0 rfl ?_
      refine v_iald (pc' := 8) dX5_running_7 (0) rfl (by assumption) (by decide) (by decide) rfl ?_
      refine v_icmp_ge (tgt := 35) (pc' := 11) dX5_running_8 (by decide) rfl (fun c_8 => ?_) (fun c_8 => ?_)
      · rw [hc0, ht] at c_8
        exact absurd c_8 (nI_ge (by omega) (by omega))
      · refine v_iload_n (pc' := 12) dX5_running_11 rfl rfl ?_
        refine v_aload_n (pc' := 13) dX5_running_12 rfl rfl ?_
        refine v_iload_n (pc' := 14) dX5_running_13 rfl rfl ?_
        refine v_iconst (pc' := 15) dX5_running_14 kc_4 rfl ?_
        refine v_cSR (pc' := 18) (c5_of hl hq t 4 rfl rfl (by omega)) dX5_running_15 lk_X5_43 mwX5_of msX5_of rfl rfl (by decide) (Nat.le_of_ble_eq_true rfl) rfl ?_
        refine v_iconst (pc' := 19) dX5_running_18 kc_2 rfl ?_
        refine v_icmp_ne (tgt := 26) (pc' := 22) dX5_running_19 (by decide) rfl (fun c_19 => ?_) (fun c_19 => ?_)
        · refine v_iconst (pc' := 27) dX5_running_26 kc_0 rfl ?_
          refine v_iadd (pc' := 28) dX5_running_27 rfl ?_
          refine v_istore_n1 (pc' := 29) dX5_running_28 (by decide) rfl rfl ?_
          refine v_iinc2 (pc' := 32) dX5_running_29 (by decide) rfl kc_1 (nI_1 t) rfl ?_
          refine v_goto (tgt := 4) dX5_running_32 (by decide) ?_
          exact ih (t + 1) _ (by omega) (by rw [← hp, p_runn]; simp [c_19])
        · refine v_iconst (pc' := 23) dX5_running_22 kc_1 rfl ?_
          refine v_goto (tgt := 27) dX5_running_23 (by decide) ?_
          refine v_iadd (pc' := 28) dX5_running_27 rfl ?_
          refine v_istore_n1 (pc' := 29) dX5_running_28 (by decide) rfl rfl ?_
          refine v_iinc2 (pc' := 32) dX5_running_29 (by decide) rfl kc_1 (nI_1 t) rfl ?_
          refine v_goto (tgt := 4) dX5_running_32 (by decide) ?_
          exact ih (t + 1) _ (by omega) (by rw [← hp, p_runn]; simp [c_19])
  refine z_Ct.of hl pn_X5 [some (.ref q), none, none] rfl (Nat.le_of_ble_eq_true rfl) ?_
  refine v_iconst (pc' := 1) dX5_running_0 kc_0 rfl ?_
  refine v_istore_n1 (pc' := 2) dX5_running_1 (by decide) rfl rfl ?_
  refine v_iconst (pc' := 3) dX5_running_2 kc_0 rfl ?_
  refine v_istore_n2 (pc' := 4) dX5_running_3 (by decide) rfl rfl ?_
  exact loop (cnt (I q)) 0 0 (by omega) rfl
set_option maxRecDepth 20000 in
set_option maxHeartbeats 4000000 in
theorem c5_idle (hl : l.stackTraces = false) (hq : (q, sI E 0 65) ∈ G) (hW : WF (I q)) : z_CR E l mX5_idle 1 [.ref q] G I sz (.int (p_idle (I q))) := by
  refine z_Ct.of hl pn_X5 [some (.ref q)] rfl (Nat.le_of_ble_eq_true rfl) ?_
  refine v_aload_n (pc' := 1) dX5_idle_0 rfl rfl ?_
  refine v_iconst (pc' := 2) dX5_idle_1 kc_5 rfl ?_
  refine v_iald (pc' := 3) dX5_idle_2 (5) rfl (by assumption) (by decide) (by decide) rfl ?_
  refine v_iconst (pc' := 4) dX5_idle_3 kc_m1 rfl ?_
  refine v_icmp_ne (tgt := 9) (pc' := 7) dX5_idle_4 (by decide) rfl (fun c_4 => ?_) (fun c_4 => ?_)
  · obtain ⟨hj1, hj2, hj3⟩ := hW.job c_4
    refine v_aload_n (pc' := 10) dX5_idle_9 rfl rfl ?_
    refine v_bipush (pc' := 12) dX5_idle_10 kb_7 rfl ?_
    refine v_iald (pc' := 13) dX5_idle_12 (7) rfl (by assumption) (by decide) (by decide) rfl ?_
    refine v_aload_n (pc' := 14) dX5_idle_13 rfl rfl ?_
    refine v_aload_n (pc' := 15) dX5_idle_14 rfl rfl ?_
    refine v_iconst (pc' := 16) dX5_idle_15 kc_5 rfl ?_
    refine v_iald (pc' := 17) dX5_idle_16 (5) rfl (by assumption) (by decide) (by decide) rfl ?_
    refine v_iconst (pc' := 18) dX5_idle_17 kc_4 rfl ?_
    refine v_cSR (pc' := 21) (c5_of hl hq (jt (I q)) 4 hj2 rfl (by omega)) dX5_idle_18 lk_X5_43 mwX5_of msX5_of rfl rfl (by decide) (Nat.le_of_ble_eq_true rfl) rfl ?_
    refine v_iconst (pc' := 22) dX5_idle_21 kc_2 rfl ?_
    refine v_icmp_ne (tgt := 32) (pc' := 25) dX5_idle_22 (by decide) rfl (fun c_22 => ?_) (fun c_22 => ?_)
    · refine v_iconst (pc' := 33) dX5_idle_32 kc_0 rfl ?_
      refine v_iadd (pc' := 34) dX5_idle_33 rfl ?_
      exact v_iret dX5_idle_34 rfl (Nat.le_refl _) (Nat.le_refl _) (z_rdi (by first | (simp [p_idle, c_4]; done) | (simp [p_idle, c_4, c_22]; done)))
    · refine v_aload_n (pc' := 26) dX5_idle_25 rfl rfl ?_
      refine v_bipush (pc' := 28) dX5_idle_26 kb_9 rfl ?_
      refine v_iald (pc' := 29) dX5_idle_28 (9) rfl (by assumption) (by decide) (by decide) rfl ?_
      refine v_goto (tgt := 33) dX5_idle_29 (by decide) ?_
      refine v_iadd (pc' := 34) dX5_idle_33 rfl ?_
      exact v_iret dX5_idle_34 rfl (Nat.le_refl _) (Nat.le_refl _) (z_rdi (by first | (simp [p_idle, c_4]; done) | (simp [p_idle, c_4, c_22]; done)))
  · refine v_iconst (pc' := 8) dX5_idle_7 kc_0 rfl ?_
    exact v_iret dX5_idle_8 rfl (Nat.le_refl _) (Nat.le_refl _) (z_rdi (by first | (simp [p_idle, c_4]; done) | (simp [p_idle, c_4, c_22]; done)))
set_option maxRecDepth 20000 in
set_option maxHeartbeats 4000000 in
theorem c5_canStop (hl : l.stackTraces = false) (hq : (q, sI E 0 65) ∈ G) (hW : WF (I q)) (t : Int32) : z_CR E l mX5_canStop 2 [.ref q, .int t] G I sz (.int (z_b (p_cans (I q) t))) := by
  refine z_Ct.of hl pn_X5 [some (.ref q), some (.int t)] rfl (Nat.le_of_ble_eq_true rfl) ?_
  refine v_aload_n (pc' := 1) dX5_canStop_0 rfl rfl ?_
  refine v_iload_n (pc' := 2) dX5_canStop_1 rfl rfl ?_
  refine v_cSR (pc' := 5) (c5_isTask hl hq t) dX5_canStop_2 lk_X5_62 mwX5_isTask msX5_isTask rfl rfl (by decide) (Nat.le_of_ble_eq_true rfl) rfl ?_
  refine v_if_eq (tgt := 29) (pc' := 8) dX5_canStop_5 (by decide) rfl (fun c_5 => ?_) (fun c_5 => ?_)
  · rw [z_b_eq0] at c_5
    refine v_iconst (pc' := 30) dX5_canStop_29 kc_0 rfl ?_
    exact v_zret dX5_canStop_30 rfl (Nat.le_refl _) (Nat.le_refl _) rfl (z_rdi (by first | (simp [z_b, p_cans, c_5]; done) | (simp [z_b, p_cans, c_5, hcl, c_15]; done) | (simp [z_b, p_cans, c_5, hcl, c_15, c_22]; done)))
  · rw [z_b_ne0] at c_5
    obtain ⟨t0, ht0, rfl⟩ := p_isTask_nI hW c_5
    have ht6 : t0 < 6 := by have := hW.1.1; omega
    have hcl : (nI t0).toNatClampNeg = t0 := nI_clamp (by omega)
    refine v_aload_n (pc' := 9) dX5_canStop_8 rfl rfl ?_
    refine v_iload_n (pc' := 10) dX5_canStop_9 rfl rfl ?_
    refine v_iconst (pc' := 11) dX5_canStop_10 kc_4 rfl ?_
    refine v_cSR (pc' := 14) (c5_of hl hq t0 4 rfl rfl (by omega)) dX5_canStop_11 lk_X5_43 mwX5_of msX5_of rfl rfl (by decide) (Nat.le_of_ble_eq_true rfl) rfl ?_
    refine v_iconst (pc' := 15) dX5_canStop_14 kc_2 rfl ?_
    refine v_icmp_ne (tgt := 29) (pc' := 18) dX5_canStop_15 (by decide) rfl (fun c_15 => ?_) (fun c_15 => ?_)
    · refine v_iconst (pc' := 30) dX5_canStop_29 kc_0 rfl ?_
      exact v_zret dX5_canStop_30 rfl (Nat.le_refl _) (Nat.le_refl _) rfl (z_rdi (by first | (simp [z_b, p_cans, c_5]; done) | (simp [z_b, p_cans, c_5, hcl, c_15]; done) | (simp [z_b, p_cans, c_5, hcl, c_15, c_22]; done)))
    · refine v_aload_n (pc' := 19) dX5_canStop_18 rfl rfl ?_
      refine v_iconst (pc' := 20) dX5_canStop_19 kc_5 rfl ?_
      refine v_iald (pc' := 21) dX5_canStop_20 (5) rfl (by assumption) (by decide) (by decide) rfl ?_
      refine v_iload_n (pc' := 22) dX5_canStop_21 rfl rfl ?_
      refine v_icmp_eq (tgt := 29) (pc' := 25) dX5_canStop_22 (by decide) rfl (fun c_22 => ?_) (fun c_22 => ?_)
      · refine v_iconst (pc' := 30) dX5_canStop_29 kc_0 rfl ?_
        exact v_zret dX5_canStop_30 rfl (Nat.le_refl _) (Nat.le_refl _) rfl (z_rdi (by first | (simp [z_b, p_cans, c_5]; done) | (simp [z_b, p_cans, c_5, hcl, c_15]; done) | (simp [z_b, p_cans, c_5, hcl, c_15, c_22]; done)))
      · refine v_iconst (pc' := 26) dX5_canStop_25 kc_1 rfl ?_
        refine v_goto (tgt := 30) dX5_canStop_26 (by decide) ?_
        exact v_zret dX5_canStop_30 rfl (Nat.le_refl _) (Nat.le_refl _) rfl (z_rdi (by first | (simp [z_b, p_cans, c_5]; done) | (simp [z_b, p_cans, c_5, hcl, c_15]; done) | (simp [z_b, p_cans, c_5, hcl, c_15, c_22]; done)))
def p_isSet (w v : Int32) : Bool := (decide (w = 0) && z_in v 1 9) || ((decide (w = 1) && z_in v 0 20) || (decide (w = 2) && z_in v 1 99))
set_option maxRecDepth 20000 in
set_option maxHeartbeats 4000000 in
theorem c5_isSetting (hl : l.stackTraces = false) (w v : Int32) : z_CR E l mX5_isSetting 1 [.int w, .int v] G I sz (.int (z_b (p_isSet w v))) := by
  refine z_Ct.of hl pn_X5 [some (.int w), some (.int v)] rfl (Nat.le_of_ble_eq_true rfl) ?_
  refine v_iload_n (pc' := 1) dX5_isSetting_0 rfl rfl ?_
  refine v_if_ne (tgt := 16) (pc' := 4) dX5_isSetting_1 (by decide) rfl (fun c_1 => ?_) (fun c_1 => ?_)
  · refine v_iload_n (pc' := 17) dX5_isSetting_16 rfl rfl ?_
    refine v_iconst (pc' := 18) dX5_isSetting_17 kc_1 rfl ?_
    refine v_icmp_ne (tgt := 33) (pc' := 21) dX5_isSetting_18 (by decide) rfl (fun c_18 => ?_) (fun c_18 => ?_)
    · refine v_iload_n (pc' := 34) dX5_isSetting_33 rfl rfl ?_
      refine v_iconst (pc' := 35) dX5_isSetting_34 kc_2 rfl ?_
      refine v_icmp_ne (tgt := 54) (pc' := 38) dX5_isSetting_35 (by decide) rfl (fun c_35 => ?_) (fun c_35 => ?_)
      · refine v_iconst (pc' := 55) dX5_isSetting_54 kc_0 rfl ?_
        exact v_zret dX5_isSetting_55 rfl (Nat.le_refl _) (Nat.le_refl _) rfl (z_rdi (by first | (simp [z_b, p_isSet, *]; done) | (subst_vars; simp_all (decide := true); done)))
      · refine v_iload_n (pc' := 39) dX5_isSetting_38 rfl rfl ?_
        refine v_i2l (pc' := 40) dX5_isSetting_39 rfl ?_
        refine v_lconst (pc' := 41) dX5_isSetting_40 kl_1 rfl ?_
        refine v_ldc2 (pc' := 44) dX5_isSetting_41 cn_X5_92 rfl ?_
        refine v_cSR (pc' := 47) (c5_in32 hl v 1 99 rfl rfl rfl) dX5_isSetting_44 lk_X5_37 mwX5_in msX5_in rfl rfl (by decide) (Nat.le_of_ble_eq_true rfl) rfl ?_
        refine v_if_eq (tgt := 54) (pc' := 50) dX5_isSetting_47 (by decide) rfl (fun c_47 => ?_) (fun c_47 => ?_)
        · rw [z_b_eq0] at c_47
          refine v_iconst (pc' := 55) dX5_isSetting_54 kc_0 rfl ?_
          exact v_zret dX5_isSetting_55 rfl (Nat.le_refl _) (Nat.le_refl _) rfl (z_rdi (by first | (simp [z_b, p_isSet, *]; done) | (subst_vars; simp_all (decide := true); done)))
        · rw [z_b_ne0] at c_47
          refine v_iconst (pc' := 51) dX5_isSetting_50 kc_1 rfl ?_
          refine v_goto (tgt := 55) dX5_isSetting_51 (by decide) ?_
          exact v_zret dX5_isSetting_55 rfl (Nat.le_refl _) (Nat.le_refl _) rfl (z_rdi (by first | (simp [z_b, p_isSet, *]; done) | (subst_vars; simp_all (decide := true); done)))
    · refine v_iload_n (pc' := 22) dX5_isSetting_21 rfl rfl ?_
      refine v_i2l (pc' := 23) dX5_isSetting_22 rfl ?_
      refine v_lconst (pc' := 24) dX5_isSetting_23 kl_0 rfl ?_
      refine v_ldc2 (pc' := 27) dX5_isSetting_24 cn_X5_90 rfl ?_
      refine v_cSR (pc' := 30) (c5_in32 hl v 0 20 rfl rfl rfl) dX5_isSetting_27 lk_X5_37 mwX5_in msX5_in rfl rfl (by decide) (Nat.le_of_ble_eq_true rfl) rfl ?_
      refine v_if_ne (tgt := 50) (pc' := 33) dX5_isSetting_30 (by decide) rfl (fun c_30 => ?_) (fun c_30 => ?_)
      · rw [z_b_ne0] at c_30
        refine v_iconst (pc' := 51) dX5_isSetting_50 kc_1 rfl ?_
        refine v_goto (tgt := 55) dX5_isSetting_51 (by decide) ?_
        exact v_zret dX5_isSetting_55 rfl (Nat.le_refl _) (Nat.le_refl _) rfl (z_rdi (by first | (simp [z_b, p_isSet, *]; done) | (subst_vars; simp_all (decide := true); done)))
      · rw [z_b_eq0] at c_30
        refine v_iload_n (pc' := 34) dX5_isSetting_33 rfl rfl ?_
        refine v_iconst (pc' := 35) dX5_isSetting_34 kc_2 rfl ?_
        refine v_icmp_ne (tgt := 54) (pc' := 38) dX5_isSetting_35 (by decide) rfl (fun c_35 => ?_) (fun c_35 => ?_)
        · refine v_iconst (pc' := 55) dX5_isSetting_54 kc_0 rfl ?_
          exact v_zret dX5_isSetting_55 rfl (Nat.le_refl _) (Nat.le_refl _) rfl (z_rdi (by first | (simp [z_b, p_isSet, *]; done) | (subst_vars; simp_all (decide := true); done)))
        · refine v_iload_n (pc' := 39) dX5_isSetting_38 rfl rfl ?_
          refine v_i2l (pc' := 40) dX5_isSetting_39 rfl ?_
          refine v_lconst (pc' := 41) dX5_isSetting_40 kl_1 rfl ?_
          refine v_ldc2 (pc' := 44) dX5_isSetting_41 cn_X5_92 rfl ?_
          refine v_cSR (pc' := 47) (c5_in32 hl v 1 99 rfl rfl rfl) dX5_isSetting_44 lk_X5_37 mwX5_in msX5_in rfl rfl (by decide) (Nat.le_of_ble_eq_true rfl) rfl ?_
          refine v_if_eq (tgt := 54) (pc' := 50) dX5_isSetting_47 (by decide) rfl (fun c_47 => ?_) (fun c_47 => ?_)
          · rw [z_b_eq0] at c_47
            refine v_iconst (pc' := 55) dX5_isSetting_54 kc_0 rfl ?_
            exact v_zret dX5_isSetting_55 rfl (Nat.le_refl _) (Nat.le_refl _) rfl (z_rdi (by first | (simp [z_b, p_isSet, *]; done) | (subst_vars; simp_all (decide := true); done)))
          · rw [z_b_ne0] at c_47
            refine v_iconst (pc' := 51) dX5_isSetting_50 kc_1 rfl ?_
            refine v_goto (tgt := 55) dX5_isSetting_51 (by decide) ?_
            exact v_zret dX5_isSetting_55 rfl (Nat.le_refl _) (Nat.le_refl _) rfl (z_rdi (by first | (simp [z_b, p_isSet, *]; done) | (subst_vars; simp_all (decide := true); done)))
  · refine v_iload_n (pc' := 5) dX5_isSetting_4 rfl rfl ?_
    refine v_i2l (pc' := 6) dX5_isSetting_5 rfl ?_
    refine v_lconst (pc' := 7) dX5_isSetting_6 kl_1 rfl ?_
    refine v_ldc2 (pc' := 10) dX5_isSetting_7 cn_X5_88 rfl ?_
    refine v_cSR (pc' := 13) (c5_in32 hl v 1 9 rfl rfl rfl) dX5_isSetting_10 lk_X5_37 mwX5_in msX5_in rfl rfl (by decide) (Nat.le_of_ble_eq_true rfl) rfl ?_
    refine v_if_ne (tgt := 50) (pc' := 16) dX5_isSetting_13 (by decide) rfl (fun c_13 => ?_) (fun c_13 => ?_)
    · rw [z_b_ne0] at c_13
      refine v_iconst (pc' := 51) dX5_isSetting_50 kc_1 rfl ?_
      refine v_goto (tgt := 55) dX5_isSetting_51 (by decide) ?_
      exact v_zret dX5_isSetting_55 rfl (Nat.le_refl _) (Nat.le_refl _) rfl (z_rdi (by first | (simp [z_b, p_isSet, *]; done) | (subst_vars; simp_all (decide := true); done)))
    · rw [z_b_eq0] at c_13
      refine v_iload_n (pc' := 17) dX5_isSetting_16 rfl rfl ?_
      refine v_iconst (pc' := 18) dX5_isSetting_17 kc_1 rfl ?_
      refine v_icmp_ne (tgt := 33) (pc' := 21) dX5_isSetting_18 (by decide) rfl (fun c_18 => ?_) (fun c_18 => ?_)
      · refine v_iload_n (pc' := 34) dX5_isSetting_33 rfl rfl ?_
        refine v_iconst (pc' := 35) dX5_isSetting_34 kc_2 rfl ?_
        refine v_icmp_ne (tgt := 54) (pc' := 38) dX5_isSetting_35 (by decide) rfl (fun c_35 => ?_) (fun c_35 => ?_)
        · refine v_iconst (pc' := 55) dX5_isSetting_54 kc_0 rfl ?_
          exact v_zret dX5_isSetting_55 rfl (Nat.le_refl _) (Nat.le_refl _) rfl (z_rdi (by first | (simp [z_b, p_isSet, *]; done) | (subst_vars; simp_all (decide := true); done)))
        · refine v_iload_n (pc' := 39) dX5_isSetting_38 rfl rfl ?_
          refine v_i2l (pc' := 40) dX5_isSetting_39 rfl ?_
          refine v_lconst (pc' := 41) dX5_isSetting_40 kl_1 rfl ?_
          refine v_ldc2 (pc' := 44) dX5_isSetting_41 cn_X5_92 rfl ?_
          refine v_cSR (pc' := 47) (c5_in32 hl v 1 99 rfl rfl rfl) dX5_isSetting_44 lk_X5_37 mwX5_in msX5_in rfl rfl (by decide) (Nat.le_of_ble_eq_true rfl) rfl ?_
          refine v_if_eq (tgt := 54) (pc' := 50) dX5_isSetting_47 (by decide) rfl (fun c_47 => ?_) (fun c_47 => ?_)
          · rw [z_b_eq0] at c_47
            refine v_iconst (pc' := 55) dX5_isSetting_54 kc_0 rfl ?_
            exact v_zret dX5_isSetting_55 rfl (Nat.le_refl _) (Nat.le_refl _) rfl (z_rdi (by first | (simp [z_b, p_isSet, *]; done) | (subst_vars; simp_all (decide := true); done)))
          · rw [z_b_ne0] at c_47
            refine v_iconst (pc' := 51) dX5_isSetting_50 kc_1 rfl ?_
            refine v_goto (tgt := 55) dX5_isSetting_51 (by decide) ?_
            exact v_zret dX5_isSetting_55 rfl (Nat.le_refl _) (Nat.le_refl _) rfl (z_rdi (by first | (simp [z_b, p_isSet, *]; done) | (subst_vars; simp_all (decide := true); done)))
      · refine v_iload_n (pc' := 22) dX5_isSetting_21 rfl rfl ?_
        refine v_i2l (pc' := 23) dX5_isSetting_22 rfl ?_
        refine v_lconst (pc' := 24) dX5_isSetting_23 kl_0 rfl ?_
        refine v_ldc2 (pc' := 27) dX5_isSetting_24 cn_X5_90 rfl ?_
        refine v_cSR (pc' := 30) (c5_in32 hl v 0 20 rfl rfl rfl) dX5_isSetting_27 lk_X5_37 mwX5_in msX5_in rfl rfl (by decide) (Nat.le_of_ble_eq_true rfl) rfl ?_
        refine v_if_ne (tgt := 50) (pc' := 33) dX5_isSetting_30 (by decide) rfl (fun c_30 => ?_) (fun c_30 => ?_)
        · rw [z_b_ne0] at c_30
          refine v_iconst (pc' := 51) dX5_isSetting_50 kc_1 rfl ?_
          refine v_goto (tgt := 55) dX5_isSetting_51 (by decide) ?_
          exact v_zret dX5_isSetting_55 rfl (Nat.le_refl _) (Nat.le_refl _) rfl (z_rdi (by first | (simp [z_b, p_isSet, *]; done) | (subst_vars; simp_all (decide := true); done)))
        · rw [z_b_eq0] at c_30
          refine v_iload_n (pc' := 34) dX5_isSetting_33 rfl rfl ?_
          refine v_iconst (pc' := 35) dX5_isSetting_34 kc_2 rfl ?_
          refine v_icmp_ne (tgt := 54) (pc' := 38) dX5_isSetting_35 (by decide) rfl (fun c_35 => ?_) (fun c_35 => ?_)
          · refine v_iconst (pc' := 55) dX5_isSetting_54 kc_0 rfl ?_
            exact v_zret dX5_isSetting_55 rfl (Nat.le_refl _) (Nat.le_refl _) rfl (z_rdi (by first | (simp [z_b, p_isSet, *]; done) | (subst_vars; simp_all (decide := true); done)))
          · refine v_iload_n (pc' := 39) dX5_isSetting_38 rfl rfl ?_
            refine v_i2l (pc' := 40) dX5_isSetting_39 rfl ?_
            refine v_lconst (pc' := 41) dX5_isSetting_40 kl_1 rfl ?_
            refine v_ldc2 (pc' := 44) dX5_isSetting_41 cn_X5_92 rfl ?_
            refine v_cSR (pc' := 47) (c5_in32 hl v 1 99 rfl rfl rfl) dX5_isSetting_44 lk_X5_37 mwX5_in msX5_in rfl rfl (by decide) (Nat.le_of_ble_eq_true rfl) rfl ?_
            refine v_if_eq (tgt := 54) (pc' := 50) dX5_isSetting_47 (by decide) rfl (fun c_47 => ?_) (fun c_47 => ?_)
            · rw [z_b_eq0] at c_47
              refine v_iconst (pc' := 55) dX5_isSetting_54 kc_0 rfl ?_
              exact v_zret dX5_isSetting_55 rfl (Nat.le_refl _) (Nat.le_refl _) rfl (z_rdi (by first | (simp [z_b, p_isSet, *]; done) | (subst_vars; simp_all (decide := true); done)))
            · rw [z_b_ne0] at c_47
              refine v_iconst (pc' := 51) dX5_isSetting_50 kc_1 rfl ?_
              refine v_goto (tgt := 55) dX5_isSetting_51 (by decide) ?_
              exact v_zret dX5_isSetting_55 rfl (Nat.le_refl _) (Nat.le_refl _) rfl (z_rdi (by first | (simp [z_b, p_isSet, *]; done) | (subst_vars; simp_all (decide := true); done)))
end REF3
