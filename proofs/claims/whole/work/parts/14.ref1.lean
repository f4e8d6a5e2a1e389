/-! THE REFERENCE's static methods, reads (written by wip/whole/gen_ref1.py) -/
theorem z_rd {v w : Value} {G : zG} {I : zI} {sz : Nat} (h : w = v) : z_q (fun v' G' I' sz' => v' = some v ∧ G' = G ∧ I' = I ∧ sz' = sz) (.inl (some w)) G I sz := ⟨by rw [h], rfl, rfl, rfl⟩
theorem z_rdi {x y : Int32} {G : zG} {I : zI} {sz : Nat} (h : x = y) : z_q (fun v' G' I' sz' => v' = some (.int y) ∧ G' = G ∧ I' = I ∧ sz' = sz) (.inl (some (.int x))) G I sz := ⟨by rw [h], rfl, rfl, rfl⟩
section REF1
variable {E : zE} {l : Launch} {G : zG} {I : zI} {sz q : Nat}
set_option maxRecDepth 20000 in
set_option maxHeartbeats 4000000 in
theorem c5_in (hl : l.stackTraces = false) (v lo hi : Int64) : z_CR E l mX5_in 0 [.long v, .long lo, .long hi] G I sz (.int (z_b (decide (lo ≤ v) && decide (v ≤ hi)))) := by
  refine z_Ct.of hl pn_X5 [some (.long v), none, some (.long lo), none, some (.long hi), none] rfl (Nat.le_of_ble_eq_true rfl) ?_
  refine v_lload_n (pc' := 1) dX5_in_0 rfl rfl ?_
  refine v_lload_n (pc' := 2) dX5_in_1 rfl rfl ?_
  refine v_lcmp (pc' := 3) dX5_in_2 rfl ?_
  refine v_if_lt (tgt := 17) (pc' := 6) dX5_in_3 (by decide) rfl (fun c_3 => ?_) (fun c_3 => ?_)
  · have e : ¬ lo ≤ v := by rw [lgc_lt, Int64.lt_iff_toInt_lt] at c_3; rw [Int64.le_iff_toInt_le]; omega
    refine v_iconst (pc' := 18) dX5_in_17 kc_0 rfl ?_
    exact v_zret dX5_in_18 rfl (Nat.le_refl _) (Nat.le_refl _) rfl (z_rdi (by simp [z_b, *]))
  · have e : lo ≤ v := by rw [lgc_lt, Int64.lt_iff_toInt_lt] at c_3; rw [Int64.le_iff_toInt_le]; omega
    refine v_lload_n (pc' := 7) dX5_in_6 rfl rfl ?_
    refine v_lload (pc' := 9) dX5_in_7 rfl rfl ?_
    refine v_lcmp (pc' := 10) dX5_in_9 rfl ?_
    refine v_if_gt (tgt := 17) (pc' := 13) dX5_in_10 (by decide) rfl (fun c_10 => ?_) (fun c_10 => ?_)
    · have e2 : ¬ v ≤ hi := by rw [lgc_gt, Int64.lt_iff_toInt_lt] at c_10; rw [Int64.le_iff_toInt_le]; omega
      refine v_iconst (pc' := 18) dX5_in_17 kc_0 rfl ?_
      exact v_zret dX5_in_18 rfl (Nat.le_refl _) (Nat.le_refl _) rfl (z_rdi (by simp [z_b, *]))
    · have e2 : v ≤ hi := by rw [lgc_gt, Int64.lt_iff_toInt_lt] at c_10; rw [Int64.le_iff_toInt_le]; omega
      refine v_iconst (pc' := 14) dX5_in_13 kc_1 rfl ?_
      refine v_goto (tgt := 18) dX5_in_14 (by decide) ?_
      exact v_zret dX5_in_18 rfl (Nat.le_refl _) (Nat.le_refl _) rfl (z_rdi (by simp [z_b, *]))
set_option maxRecDepth 20000 in
set_option maxHeartbeats 4000000 in
theorem c5_in32 (hl : l.stackTraces = false) (v lo hi : Int32) {v6 lo6 hi6 : Int64} (hv : v6 = v.toInt64) (hlo : lo6 = lo.toInt64) (hhi : hi6 = hi.toInt64) : z_CR E l mX5_in 0 [.long v6, .long lo6, .long hi6] G I sz (.int (z_b (z_in v lo hi))) := by
  have h := c5_in (E := E) (G := G) (I := I) (sz := sz) hl v6 lo6 hi6
  subst hv; subst hlo; subst hhi
  simp only [i64_le] at h
  exact h
set_option maxRecDepth 20000 in
set_option maxHeartbeats 4000000 in
theorem c5_isStripe (hl : l.stackTraces = false) (s : Int32) : z_CR E l mX5_isStripe 1 [.int s] G I sz (.int (z_b (p_isStripe s))) := by
  refine z_Ct.of hl pn_X5 [some (.int s)] rfl (Nat.le_of_ble_eq_true rfl) ?_
  refine v_iload_n (pc' := 1) dX5_isStripe_0 rfl rfl ?_
  refine v_i2l (pc' := 2) dX5_isStripe_1 rfl ?_
  refine v_lconst (pc' := 3) dX5_isStripe_2 kl_0 rfl ?_
  refine v_ldc2 (pc' := 6) dX5_isStripe_3 cn_X5_41 rfl ?_
  refine v_cSR (pc' := 9) (c5_in32 hl s 0 11 rfl rfl rfl) dX5_isStripe_6 lk_X5_37 mwX5_in msX5_in rfl rfl (by decide) (Nat.le_of_ble_eq_true rfl) rfl ?_
  exact v_zret dX5_isStripe_9 rfl (Nat.le_refl _) (Nat.le_refl _) (z_b_nar _) (z_rdi rfl)
set_option maxRecDepth 20000 in
set_option maxHeartbeats 4000000 in
theorem c5_isTask (hl : l.stackTraces = false) (hq : (q, sI E 0 65) ∈ G) (t : Int32) : z_CR E l mX5_isTask 1 [.ref q, .int t] G I sz (.int (z_b (p_isTask (I q) t))) := by
  refine z_Ct.of hl pn_X5 [some (.ref q), some (.int t)] rfl (Nat.le_of_ble_eq_true rfl) ?_
  refine v_iload_n (pc' := 1) dX5_isTask_0 rfl rfl ?_
  refine v_i2l (pc' := 2) dX5_isTask_1 rfl ?_
  refine v_lconst (pc' := 3) dX5_isTask_2 kl_0 rfl ?_
  refine v_aload_n (pc' := 4) dX5_isTask_3 rfl rfl ?_
  refine v_iconst (pc' := 5) dX5_isTask_4 kc_0 rfl ?_
  refine v_iald (pc' := 6) dX5_isTask_5 (0) rfl (by assumption) (by decide) (by decide) rfl ?_
  refine v_iconst (pc' := 7) dX5_isTask_6 kc_1 rfl ?_
  refine v_isub (pc' := 8) dX5_isTask_7 rfl ?_
  refine v_i2l (pc' := 9) dX5_isTask_8 rfl ?_
  refine v_cSR (pc' := 12) (c5_in32 hl t 0 (I q 0 - 1) rfl rfl rfl) dX5_isTask_9 lk_X5_37 mwX5_in msX5_in rfl rfl (by decide) (Nat.le_of_ble_eq_true rfl) rfl ?_
  exact v_zret dX5_isTask_12 rfl (Nat.le_refl _) (Nat.le_refl _) (z_b_nar _) (z_rdi rfl)
set_option maxRecDepth 20000 in
set_option maxHeartbeats 4000000 in
theorem c5_of (hl : l.stackTraces = false) (hq : (q, sI E 0 65) ∈ G) (t w : Nat) {t3 w3 : Int32} (ht3 : t3 = nI t) (hw3 : w3 = nI w) (ht : 23 + 7 * t + w < 65) : z_CR E l mX5_of 0 [.ref q, .int t3, .int w3] G I sz (.int (tf (I q) t w)) := by
  refine z_Ct.of hl pn_X5 [some (.ref q), some (.int t3), some (.int w3)] rfl (Nat.le_of_ble_eq_true rfl) ?_
  refine v_aload_n (pc' := 1) dX5_of_0 rfl rfl ?_
  refine v_bipush (pc' := 3) dX5_of_1 kb_23 rfl ?_
  refine v_bipush (pc' := 5) dX5_of_3 kb_7 rfl ?_
  refine v_iload_n (pc' := 6) dX5_of_5 rfl rfl ?_
  refine v_imul (pc' := 7) dX5_of_6 rfl ?_
  refine v_iadd (pc' := 8) dX5_of_7 rfl ?_
  refine v_iload_n (pc' := 9) dX5_of_8 rfl rfl ?_
  refine v_iadd (pc' := 10) dX5_of_9 rfl ?_
  refine v_iald (pc' := 11) dX5_of_10 (23 + 7 * t + w) (by rw [ht3, hw3]; exact z_ix t w) (by assumption) ht (by decide) rfl ?_
  exact v_iret dX5_of_11 rfl (Nat.le_refl _) (Nat.le_refl _) (z_rdi rfl)
set_option maxRecDepth 20000 in
set_option maxHeartbeats 4000000 in
theorem c5_lay (hl : l.stackTraces = false) (hq : (q, sI E 0 65) ∈ G) (t w : Nat) {t3 w3 : Int32} (x : Int32) (ht3 : t3 = nI t) (hw3 : w3 = nI w) (ht : 23 + 7 * t + w < 65) : z_CV E l mX5_lay 0 [.ref q, .int t3, .int w3, .int x] G I sz (fun I' => I' = z_row I q (upd (I q) (23 + 7 * t + w) x)) := by
  refine z_Ct.of hl pn_X5 [some (.ref q), some (.int t3), some (.int w3), some (.int x)] rfl (Nat.le_of_ble_eq_true rfl) ?_
  refine v_aload_n (pc' := 1) dX5_lay_0 rfl rfl ?_
  refine v_bipush (pc' := 3) dX5_lay_1 kb_23 rfl ?_
  refine v_bipush (pc' := 5) dX5_lay_3 kb_7 rfl ?_
  refine v_iload_n (pc' := 6) dX5_lay_5 rfl rfl ?_
  refine v_imul (pc' := 7) dX5_lay_6 rfl ?_
  refine v_iadd (pc' := 8) dX5_lay_7 rfl ?_
  refine v_iload_n (pc' := 9) dX5_lay_8 rfl rfl ?_
  refine v_iadd (pc' := 10) dX5_lay_9 rfl ?_
  refine v_iload_n (pc' := 11) dX5_lay_10 rfl rfl ?_
  refine v_iast (pc' := 12) dX5_lay_11 (23 + 7 * t + w) (by rw [ht3, hw3]; exact z_ix t w) (by assumption) ht (by decide) rfl ?_
  exact v_vret dX5_lay_12 rfl (Nat.le_refl _) (Nat.le_refl _) ⟨rfl, rfl, rfl, rfl⟩
set_option maxRecDepth 20000 in
set_option maxHeartbeats 4000000 in
theorem c5_taker (hl : l.stackTraces = false) (hq : (q, sI E 0 65) ∈ G) (hW : WF (I q)) (s : Int32) : z_CR E l mX5_taker 1 [.ref q, .int s] G I sz (.int (p_taker (I q) s)) := by
  obtain ⟨⟨hc6, hc0⟩, -⟩ := hW
  have loop : ∀ (n t : Nat) (o : Option Value), z_c1 o = true → cnt (I q) = t + n → p_tkf (I q) s n t = p_taker (I q) s → z_V E l mX5_taker (z_rm 1 0 0) 0 0 (z_q (fun v' G' I' sz' => v' = some (.int (p_taker (I q) s)) ∧ G' = G ∧ I' = I ∧ sz' = sz)) 0 0 G I sz 2 [some (.ref q), some (.int s), some (.int (nI t)), o] [] := by
    intro n
    induction n with
    | zero =>
      intro t o ho ht hp
      have hlt : I q 0 ≤ nI t := by rw [hc0, ht]; exact nI_le (by omega) (by omega)
      refine v_iload_n (pc' := 3) dX5_taker_2 rfl rfl ?_
      refine v_aload_n (pc' := 4) dX5_taker_3 rfl rfl ?_
      refine v_iconst (pc' := 5) dX5_taker_4 kc_0 rfl ?_
      refine v_iald (pc' := 6) dX5_taker_5 (0) rfl (by assumption) (by decide) (by decide) rfl ?_
      refine v_icmp_ge (tgt := 46) (pc' := 9) dX5_taker_6 (by decide) rfl (fun c_6 => ?_) (fun c_6 => ?_)
      · refine v_iconst (pc' := 47) dX5_taker_46 kc_m1 rfl ?_
        exact v_iret dX5_taker_47 rfl (Nat.le_refl _) (Nat.le_refl _) (z_rdi hp)
      · exact absurd hlt c_6
    | succ n ih =>
      intro t o ho ht hp
      have hlt : ¬ I q 0 ≤ nI t := by rw [hc0, ht]; exact nI_ge (by omega) (by omega)
      refine v_iload_n (pc' := 3) dX5_taker_2 rfl rfl ?_
      refine v_aload_n (pc' := 4) dX5_taker_3 rfl rfl ?_
      refine v_iconst (pc' := 5) dX5_taker_4 kc_0 rfl ?_
      refine v_iald (pc' := 6) dX5_taker_5 (0) rfl (by assumption) (by decide) (by decide) rfl ?_
      refine v_icmp_ge (tgt := 46) (pc' := 9) dX5_taker_6 (by decide) rfl (fun c_6 => ?_) (fun c_6 => ?_)
      · exact absurd c_6 hlt
      · refine v_aload_n (pc' := 10) dX5_taker_9 rfl rfl ?_
        refine v_iload_n (pc' := 11) dX5_taker_10 rfl rfl ?_
        refine v_iconst (pc' := 12) dX5_taker_11 kc_5 rfl ?_
        refine v_cSR (pc' := 15) (c5_of hl hq t 5 rfl rfl (by omega)) dX5_taker_12 lk_X5_43 mwX5_of msX5_of rfl rfl (by decide) (Nat.le_of_ble_eq_true rfl) rfl ?_
        refine v_istore_n3 (pc' := 16) dX5_taker_15 (by decide) rfl rfl ?_
        refine v_iload_n (pc' := 17) dX5_taker_16 rfl rfl ?_
        refine v_iconst (pc' := 18) dX5_taker_17 kc_m1 rfl ?_
        refine v_icmp_eq (tgt := 40) (pc' := 21) dX5_taker_18 (by decide) rfl (fun c_18 => ?_) (fun c_18 => ?_)
        · have e : p_takes (I q) t s = false := by simp [p_takes, c_18]
          simp only [p_tkf, e, Bool.false_eq_true, if_false] at hp
          refine v_iinc2 (pc' := 43) dX5_taker_40 (by decide) rfl kc_1 (nI_1 t) rfl ?_
          refine v_goto (tgt := 2) dX5_taker_43 (by decide) ?_
          exact ih (t + 1) _ rfl (by omega) hp
        · refine v_iload_n (pc' := 22) dX5_taker_21 rfl rfl ?_
          refine v_iload_n (pc' := 23) dX5_taker_22 rfl rfl ?_
          refine v_icmp_lt (tgt := 40) (pc' := 26) dX5_taker_23 (by decide) rfl (fun c_23 => ?_) (fun c_23 => ?_)
          · have e : p_takes (I q) t s = false := by
              have e1 : ¬ tf (I q) t 5 ≤ s := by rw [Int32.not_le]; exact c_23
              simp [p_takes, e1]
            simp only [p_tkf, e, Bool.false_eq_true, if_false] at hp
            refine v_iinc2 (pc' := 43) dX5_taker_40 (by decide) rfl kc_1 (nI_1 t) rfl ?_
            refine v_goto (tgt := 2) dX5_taker_43 (by decide) ?_
            exact ih (t + 1) _ rfl (by omega) hp
          · refine v_iload_n (pc' := 27) dX5_taker_26 rfl rfl ?_
            refine v_iload_n (pc' := 28) dX5_taker_27 rfl rfl ?_
            refine v_aload_n (pc' := 29) dX5_taker_28 rfl rfl ?_
            refine v_iload_n (pc' := 30) dX5_taker_29 rfl rfl ?_
            refine v_iconst (pc' := 31) dX5_taker_30 kc_0 rfl ?_
            refine v_cSR (pc' := 34) (c5_of hl hq t 0 rfl rfl (by omega)) dX5_taker_31 lk_X5_43 mwX5_of msX5_of rfl rfl (by decide) (Nat.le_of_ble_eq_true rfl) rfl ?_
            refine v_iadd (pc' := 35) dX5_taker_34 rfl ?_
            refine v_icmp_ge (tgt := 40) (pc' := 38) dX5_taker_35 (by decide) rfl (fun c_35 => ?_) (fun c_35 => ?_)
            · have e : p_takes (I q) t s = false := by
                have e1 : ¬ s < tf (I q) t 5 + tf (I q) t 0 := by rw [Int32.not_lt]; exact c_35
                simp [p_takes, e1]
              simp only [p_tkf, e, Bool.false_eq_true, if_false] at hp
              refine v_iinc2 (pc' := 43) dX5_taker_40 (by decide) rfl kc_1 (nI_1 t) rfl ?_
              refine v_goto (tgt := 2) dX5_taker_43 (by decide) ?_
              exact ih (t + 1) _ rfl (by omega) hp
            · have e : p_takes (I q) t s = true := by
                rw [Int32.not_le] at c_35
                rw [Int32.not_lt] at c_23
                simp [p_takes, c_18, c_23, c_35]
              simp only [p_tkf, e, if_true] at hp
              refine v_iload_n (pc' := 39) dX5_taker_38 rfl rfl ?_
              exact v_iret dX5_taker_39 rfl (Nat.le_refl _) (Nat.le_refl _) (z_rdi hp)
  refine z_Ct.of hl pn_X5 [some (.ref q), some (.int s), none, none] rfl (Nat.le_of_ble_eq_true rfl) ?_
  refine v_iconst (pc' := 1) dX5_taker_0 kc_0 rfl ?_
  refine v_istore_n2 (pc' := 2) dX5_taker_1 (by decide) rfl rfl ?_
  exact loop (cnt (I q)) 0 none rfl (by omega) rfl
end REF1
