/-! THE REFERENCE's static methods, on (written by wip/whole/gen_ref2.py) -/
section REF2
variable {E : zE} {l : Launch} {G : zG} {I : zI} {sz q : Nat}
set_option maxRecDepth 20000 in
set_option maxHeartbeats 4000000 in
theorem c5_isMove (hl : l.stackTraces = false) (hq : (q, sI E 0 65) ∈ G) (hW : WF (I q)) : z_CR E l mX5_isMove 1 [.ref q] G I sz (.int (z_b (p_isMove (I q)))) := by
  refine z_Ct.of hl pn_X5 [some (.ref q)] rfl (Nat.le_of_ble_eq_true rfl) ?_
  refine v_aload_n (pc' := 1) dX5_isMove_0 rfl rfl ?_
  refine v_iconst (pc' := 2) dX5_isMove_1 kc_5 rfl ?_
  refine v_iald (pc' := 3) dX5_isMove_2 (5) rfl (by assumption) (by decide) (by decide) rfl ?_
  refine v_iconst (pc' := 4) dX5_isMove_3 kc_m1 rfl ?_
  refine v_icmp_eq (tgt := 23) (pc' := 7) dX5_isMove_4 (by decide) rfl (fun c_4 => ?_) (fun c_4 => ?_)
  · refine v_iconst (pc' := 24) dX5_isMove_23 kc_0 rfl ?_
    exact v_zret dX5_isMove_24 rfl (Nat.le_refl _) (Nat.le_refl _) rfl (z_rdi (by first | (simp [z_b, p_isMove, c_4, c_16]; done) | (simp [z_b, p_isMove, c_4]; done)))
  · obtain ⟨hj1, hj2, hj3⟩ := hW.job c_4
    refine v_aload_n (pc' := 8) dX5_isMove_7 rfl rfl ?_
    refine v_aload_n (pc' := 9) dX5_isMove_8 rfl rfl ?_
    refine v_iconst (pc' := 10) dX5_isMove_9 kc_5 rfl ?_
    refine v_iald (pc' := 11) dX5_isMove_10 (5) rfl (by assumption) (by decide) (by decide) rfl ?_
    refine v_iconst (pc' := 12) dX5_isMove_11 kc_4 rfl ?_
    refine v_cSR (pc' := 15) (c5_of hl hq (jt (I q)) 4 hj2 rfl (by omega)) dX5_isMove_12 lk_X5_43 mwX5_of msX5_of rfl rfl (by decide) (Nat.le_of_ble_eq_true rfl) rfl ?_
    refine v_iconst (pc' := 16) dX5_isMove_15 kc_1 rfl ?_
    refine v_icmp_eq (tgt := 23) (pc' := 19) dX5_isMove_16 (by decide) rfl (fun c_16 => ?_) (fun c_16 => ?_)
    · refine v_iconst (pc' := 24) dX5_isMove_23 kc_0 rfl ?_
      exact v_zret dX5_isMove_24 rfl (Nat.le_refl _) (Nat.le_refl _) rfl (z_rdi (by first | (simp [z_b, p_isMove, c_4, c_16]; done) | (simp [z_b, p_isMove, c_4]; done)))
    · refine v_iconst (pc' := 20) dX5_isMove_19 kc_1 rfl ?_
      refine v_goto (tgt := 24) dX5_isMove_20 (by decide) ?_
      exact v_zret dX5_isMove_24 rfl (Nat.le_refl _) (Nat.le_refl _) rfl (z_rdi (by first | (simp [z_b, p_isMove, c_4, c_16]; done) | (simp [z_b, p_isMove, c_4]; done)))
set_option maxRecDepth 20000 in
set_option maxHeartbeats 4000000 in
theorem c5_comer (hl : l.stackTraces = false) (hq : (q, sI E 0 65) ∈ G) (hW : WF (I q)) (s : Int32) : z_CR E l mX5_comer 2 [.ref q, .int s] G I sz (.int (p_comer (I q) s)) := by
  refine z_Ct.of hl pn_X5 [some (.ref q), some (.int s)] rfl (Nat.le_of_ble_eq_true rfl) ?_
  refine v_aload_n (pc' := 1) dX5_comer_0 rfl rfl ?_
  refine v_cSR (pc' := 4) (c5_isMove hl hq hW) dX5_comer_1 lk_X5_47 mwX5_isMove msX5_isMove rfl rfl (by decide) (Nat.le_of_ble_eq_true rfl) rfl ?_
  refine v_if_eq (tgt := 38) (pc' := 7) dX5_comer_4 (by decide) rfl (fun c_4 => ?_) (fun c_4 => ?_)
  · rw [z_b_eq0] at c_4
    refine v_iconst (pc' := 39) dX5_comer_38 kc_m1 rfl ?_
    exact v_iret dX5_comer_39 rfl (Nat.le_refl _) (Nat.le_refl _) (z_rdi (by simp [p_comer, *]))
  · rw [z_b_ne0] at c_4
    have hj0 : ¬ I q 5 = -1 := by
      simp only [p_isMove, Bool.and_eq_true, decide_eq_true_eq] at c_4
      exact c_4.1
    obtain ⟨hj1, hj2, hj3⟩ := hW.job hj0
    refine v_iload_n (pc' := 8) dX5_comer_7 rfl rfl ?_
    refine v_aload_n (pc' := 9) dX5_comer_8 rfl rfl ?_
    refine v_bipush (pc' := 11) dX5_comer_9 kb_6 rfl ?_
    refine v_iald (pc' := 12) dX5_comer_11 (6) rfl (by assumption) (by decide) (by decide) rfl ?_
    refine v_icmp_lt (tgt := 38) (pc' := 15) dX5_comer_12 (by decide) rfl (fun c_12 => ?_) (fun c_12 => ?_)
    · rw [← Int32.not_le] at c_12
      refine v_iconst (pc' := 39) dX5_comer_38 kc_m1 rfl ?_
      exact v_iret dX5_comer_39 rfl (Nat.le_refl _) (Nat.le_refl _) (z_rdi (by simp [p_comer, *]))
    · rw [Int32.not_lt] at c_12
      refine v_iload_n (pc' := 16) dX5_comer_15 rfl rfl ?_
      refine v_aload_n (pc' := 17) dX5_comer_16 rfl rfl ?_
      refine v_bipush (pc' := 19) dX5_comer_17 kb_6 rfl ?_
      refine v_iald (pc' := 20) dX5_comer_19 (6) rfl (by assumption) (by decide) (by decide) rfl ?_
      refine v_aload_n (pc' := 21) dX5_comer_20 rfl rfl ?_
      refine v_aload_n (pc' := 22) dX5_comer_21 rfl rfl ?_
      refine v_iconst (pc' := 23) dX5_comer_22 kc_5 rfl ?_
      refine v_iald (pc' := 24) dX5_comer_23 (5) rfl (by assumption) (by decide) (by decide) rfl ?_
      refine v_iconst (pc' := 25) dX5_comer_24 kc_0 rfl ?_
      refine v_cSR (pc' := 28) (c5_of hl hq (jt (I q)) 0 hj2 rfl (by omega)) dX5_comer_25 lk_X5_43 mwX5_of msX5_of rfl rfl (by decide) (Nat.le_of_ble_eq_true rfl) rfl ?_
      refine v_iadd (pc' := 29) dX5_comer_28 rfl ?_
      refine v_icmp_ge (tgt := 38) (pc' := 32) dX5_comer_29 (by decide) rfl (fun c_29 => ?_) (fun c_29 => ?_)
      · rw [← Int32.not_lt] at c_29
        refine v_iconst (pc' := 39) dX5_comer_38 kc_m1 rfl ?_
        exact v_iret dX5_comer_39 rfl (Nat.le_refl _) (Nat.le_refl _) (z_rdi (by simp [p_comer, *]))
      · rw [Int32.not_le] at c_29
        refine v_aload_n (pc' := 33) dX5_comer_32 rfl rfl ?_
        refine v_iconst (pc' := 34) dX5_comer_33 kc_5 rfl ?_
        refine v_iald (pc' := 35) dX5_comer_34 (5) rfl (by assumption) (by decide) (by decide) rfl ?_
        refine v_goto (tgt := 39) dX5_comer_35 (by decide) ?_
        exact v_iret dX5_comer_39 rfl (Nat.le_refl _) (Nat.le_refl _) (z_rdi (by simp [p_comer, *]))
set_option maxRecDepth 20000 in
set_option maxHeartbeats 4000000 in
theorem c5_isFree (hl : l.stackTraces = false) (hq : (q, sI E 0 65) ∈ G) (hW : WF (I q)) (s : Nat) (hs : s < 12) {s3 : Int32} (hs3 : s3 = nI s) : z_CR E l mX5_isFree 3 [.ref q, .int s3] G I sz (.int (z_b (p_free (I q) s))) := by
  subst hs3
  refine z_Ct.of hl pn_X5 [some (.ref q), some (.int (nI s))] rfl (Nat.le_of_ble_eq_true rfl) ?_
  refine v_aload_n (pc' := 1) dX5_isFree_0 rfl rfl ?_
  refine v_bipush (pc' := 3) dX5_isFree_1 kb_11 rfl ?_
  refine v_iload_n (pc' := 4) dX5_isFree_3 rfl rfl ?_
  refine v_iadd (pc' := 5) dX5_isFree_4 rfl ?_
  refine v_iald (pc' := 6) dX5_isFree_5 (11 + s) (z_ix11 s) (by assumption) (by omega) (by decide) rfl ?_
  refine v_if_ne (tgt := 31) (pc' := 9) dX5_isFree_6 (by decide) rfl (fun c_6 => ?_) (fun c_6 => ?_)
  · refine v_iconst (pc' := 32) dX5_isFree_31 kc_0 rfl ?_
    exact v_zret dX5_isFree_32 rfl (Nat.le_refl _) (Nat.le_refl _) rfl (z_rdi (by simp [z_b, p_free, *]))
  · refine v_aload_n (pc' := 10) dX5_isFree_9 rfl rfl ?_
    refine v_iload_n (pc' := 11) dX5_isFree_10 rfl rfl ?_
    refine v_cSR (pc' := 14) (c5_taker hl hq hW (nI s)) dX5_isFree_11 lk_X5_51 mwX5_taker msX5_taker rfl rfl (by decide) (Nat.le_of_ble_eq_true rfl) rfl ?_
    refine v_iconst (pc' := 15) dX5_isFree_14 kc_m1 rfl ?_
    refine v_icmp_ne (tgt := 31) (pc' := 18) dX5_isFree_15 (by decide) rfl (fun c_15 => ?_) (fun c_15 => ?_)
    · refine v_iconst (pc' := 32) dX5_isFree_31 kc_0 rfl ?_
      exact v_zret dX5_isFree_32 rfl (Nat.le_refl _) (Nat.le_refl _) rfl (z_rdi (by simp [z_b, p_free, *]))
    · refine v_aload_n (pc' := 19) dX5_isFree_18 rfl rfl ?_
      refine v_iload_n (pc' := 20) dX5_isFree_19 rfl rfl ?_
      refine v_cSR (pc' := 23) (c5_comer hl hq hW (nI s)) dX5_isFree_20 lk_X5_55 mwX5_comer msX5_comer rfl rfl (by decide) (Nat.le_of_ble_eq_true rfl) rfl ?_
      refine v_iconst (pc' := 24) dX5_isFree_23 kc_m1 rfl ?_
      refine v_icmp_ne (tgt := 31) (pc' := 27) dX5_isFree_24 (by decide) rfl (fun c_24 => ?_) (fun c_24 => ?_)
      · refine v_iconst (pc' := 32) dX5_isFree_31 kc_0 rfl ?_
        exact v_zret dX5_isFree_32 rfl (Nat.le_refl _) (Nat.le_refl _) rfl (z_rdi (by simp [z_b, p_free, *]))
      · refine v_iconst (pc' := 28) dX5_isFree_27 kc_1 rfl ?_
        refine v_goto (tgt := 32) dX5_isFree_28 (by decide) ?_
        exact v_zret dX5_isFree_32 rfl (Nat.le_refl _) (Nat.le_refl _) rfl (z_rdi (by simp [z_b, p_free, *]))
set_option maxRecDepth 20000 in
set_option maxHeartbeats 4000000 in
theorem c5_freeFrom (hl : l.stackTraces = false) (hq : (q, sI E 0 65) ∈ G) (hW : WF (I q)) (s : Nat) (hs : s ≤ 12) {s3 : Int32} (hs3 : s3 = nI s) : z_CR E l mX5_freeFrom 4 [.ref q, .int s3] G I sz (.int (nI (p_ff (I q) s))) := by
  subst hs3
  have loop : ∀ (n k : Nat), 12 - s = k + n → k + p_ffn (I q) n (s + k) = p_ff (I q) s → z_V E l mX5_freeFrom (z_rm 4 0 0) 0 0 (z_q (fun v' G' I' sz' => v' = some (.int (nI (p_ff (I q) s))) ∧ G' = G ∧ I' = I ∧ sz' = sz)) 0 0 G I sz 2 [some (.ref q), some (.int (nI s)), some (.int (nI k))] [] := by
    intro n
    induction n with
    | zero =>
      intro k hk hp
      have e12 : (12 : Int32) ≤ nI s + nI k := by rw [nI_add]; exact nI_le (a := 12) (by omega) (by omega)
      refine v_iload_n (pc' := 3) dX5_freeFrom_2 rfl rfl ?_
      refine v_iload_n (pc' := 4) dX5_freeFrom_3 rfl rfl ?_
      refine v_iadd (pc' := 5) dX5_freeFrom_4 rfl ?_
      refine v_bipush (pc' := 7) dX5_freeFrom_5 kb_12 rfl ?_
      refine v_icmp_ge (tgt := 26) (pc' := 10) dX5_freeFrom_7 (by decide) rfl (fun c_7 => ?_) (fun c_7 => ?_)
      · refine v_iload_n (pc' := 27) dX5_freeFrom_26 rfl rfl ?_
        exact v_iret dX5_freeFrom_27 rfl (Nat.le_refl _) (Nat.le_refl _) (z_rdi (by rw [← hp]; rfl))
      · exact absurd e12 c_7
    | succ n ih =>
      intro k hk hp
      have e12 : ¬ (12 : Int32) ≤ nI s + nI k := by rw [nI_add]; exact nI_ge (b := 12) (by omega) (by omega)
      refine v_iload_n (pc' := 3) dX5_freeFrom_2 rfl rfl ?_
      refine v_iload_n (pc' := 4) dX5_freeFrom_3 rfl rfl ?_
      refine v_iadd (pc' := 5) dX5_freeFrom_4 rfl ?_
      refine v_bipush (pc' := 7) dX5_freeFrom_5 kb_12 rfl ?_
      refine v_icmp_ge (tgt := 26) (pc' := 10) dX5_freeFrom_7 (by decide) rfl (fun c_7 => ?_) (fun c_7 => ?_)
      · exact absurd c_7 e12
      · refine v_aload_n (pc' := 11) dX5_freeFrom_10 rfl rfl ?_
        refine v_iload_n (pc' := 12) dX5_freeFrom_11 rfl rfl ?_
        refine v_iload_n (pc' := 13) dX5_freeFrom_12 rfl rfl ?_
        refine v_iadd (pc' := 14) dX5_freeFrom_13 rfl ?_
        refine v_cSR (pc' := 17) (c5_isFree hl hq hW (s + k) (by omega) (nI_add s k)) dX5_freeFrom_14 lk_X5_58 mwX5_isFree msX5_isFree rfl rfl (by decide) (Nat.le_of_ble_eq_true rfl) rfl ?_
        refine v_if_eq (tgt := 26) (pc' := 20) dX5_freeFrom_17 (by decide) rfl (fun c_17 => ?_) (fun c_17 => ?_)
        · rw [z_b_eq0] at c_17
          simp only [p_ffn, c_17, Bool.false_eq_true, if_false] at hp
          refine v_iload_n (pc' := 27) dX5_freeFrom_26 rfl rfl ?_
          exact v_iret dX5_freeFrom_27 rfl (Nat.le_refl _) (Nat.le_refl _) (z_rdi (by rw [← hp]; rfl))
        · rw [z_b_ne0] at c_17
          simp only [p_ffn, c_17, if_true] at hp
          refine v_iinc2 (pc' := 23) dX5_freeFrom_20 (by decide) rfl kc_1 (nI_1 k) rfl ?_
          refine v_goto (tgt := 2) dX5_freeFrom_23 (by decide) ?_
          exact ih (k + 1) (by omega) (by rw [← hp, show s + (k + 1) = s + k + 1 by omega]; omega)
  refine z_Ct.of hl pn_X5 [some (.ref q), some (.int (nI s)), none] rfl (Nat.le_of_ble_eq_true rfl) ?_
  refine v_iconst (pc' := 1) dX5_freeFrom_0 kc_0 rfl ?_
  refine v_istore_n2 (pc' := 2) dX5_freeFrom_1 (by decide) rfl rfl ?_
  exact loop (12 - s) 0 (by omega) (Nat.zero_add _)
set_option maxRecDepth 20000 in
set_option maxHeartbeats 4000000 in
theorem c5_canBring (hl : l.stackTraces = false) (hq : (q, sI E 0 65) ∈ G) (hW : WF (I q)) (t s : Int32) : z_CR E l mX5_canBring 2 [.ref q, .int t, .int s] G I sz (.int (z_b (p_canb (I q) t s))) := by
  refine z_Ct.of hl pn_X5 [some (.ref q), some (.int t), some (.int s), none, none] rfl (Nat.le_of_ble_eq_true rfl) ?_
  refine v_aload_n (pc' := 1) dX5_canBring_0 rfl rfl ?_
  refine v_iload_n (pc' := 2) dX5_canBring_1 rfl rfl ?_
  refine v_cSR (pc' := 5) (c5_isTask hl hq t) dX5_canBring_2 lk_X5_62 mwX5_isTask msX5_isTask rfl rfl (by decide) (Nat.le_of_ble_eq_true rfl) rfl ?_
  refine v_if_eq (tgt := 35) (pc' := 8) dX5_canBring_5 (by decide) rfl (fun c_5 => ?_) (fun c_5 => ?_)
  · rw [z_b_eq0] at c_5
    refine v_iconst (pc' := 36) dX5_canBring_35 kc_0 rfl ?_
    exact v_zret dX5_canBring_36 rfl (Nat.le_refl _) (Nat.le_refl _) rfl (z_rdi (by simp [z_b, p_canb, *]))
  · rw [z_b_ne0] at c_5
    obtain ⟨t0, ht0, rfl⟩ := p_isTask_nI hW c_5
    have ht6 : t0 < 6 := by have := hW.1.1; omega
    refine v_iload_n (pc' := 9) dX5_canBring_8 rfl rfl ?_
    refine v_cSR (pc' := 12) (c5_isStripe hl s) dX5_canBring_9 lk_X5_65 mwX5_isStripe msX5_isStripe rfl rfl (by decide) (Nat.le_of_ble_eq_true rfl) rfl ?_
    refine v_if_eq (tgt := 35) (pc' := 15) dX5_canBring_12 (by decide) rfl (fun c_12 => ?_) (fun c_12 => ?_)
    · rw [z_b_eq0] at c_12
      refine v_iconst (pc' := 36) dX5_canBring_35 kc_0 rfl ?_
      exact v_zret dX5_canBring_36 rfl (Nat.le_refl _) (Nat.le_refl _) rfl (z_rdi (by simp [z_b, p_canb, *]))
    · rw [z_b_ne0] at c_12
      obtain ⟨s0, hs0, rfl⟩ := p_isStripe_nI c_12
      refine v_aload_n (pc' := 16) dX5_canBring_15 rfl rfl ?_
      refine v_iconst (pc' := 17) dX5_canBring_16 kc_5 rfl ?_
      refine v_iald (pc' := 18) dX5_canBring_17 (5) rfl (by assumption) (by decide) (by decide) rfl ?_
      refine v_iconst (pc' := 19) dX5_canBring_18 kc_m1 rfl ?_
      refine v_icmp_ne (tgt := 35) (pc' := 22) dX5_canBring_19 (by decide) rfl (fun c_19 => ?_) (fun c_19 => ?_)
      · refine v_iconst (pc' := 36) dX5_canBring_35 kc_0 rfl ?_
        exact v_zret dX5_canBring_36 rfl (Nat.le_refl _) (Nat.le_refl _) rfl (z_rdi (by simp [z_b, p_canb, *]))
      · refine v_iload_n (pc' := 23) dX5_canBring_22 rfl rfl ?_
        refine v_aload_n (pc' := 24) dX5_canBring_23 rfl rfl ?_
        refine v_iload_n (pc' := 25) dX5_canBring_24 rfl rfl ?_
        refine v_iconst (pc' := 26) dX5_canBring_25 kc_0 rfl ?_
        refine v_cSR (pc' := 29) (c5_of hl hq t0 0 rfl rfl (by omega)) dX5_canBring_26 lk_X5_43 mwX5_of msX5_of rfl rfl (by decide) (Nat.le_of_ble_eq_true rfl) rfl ?_
        refine v_iadd (pc' := 30) dX5_canBring_29 rfl ?_
        refine v_bipush (pc' := 32) dX5_canBring_30 kb_12 rfl ?_
        refine v_icmp_le (tgt := 37) (pc' := 35) dX5_canBring_32 (by decide) rfl (fun c_32 => ?_) (fun c_32 => ?_)
        · obtain ⟨w, hw1, hw6, hw⟩ := WF_w hW ht0
          rw [hw, nI_add] at c_32
          have h12 : s0 + w ≤ 12 := (nI_leI (b := 12) (by omega) (by omega)).mp c_32
          have hp0 : p_canb (I q) (nI t0) (nI s0) = p_fitn (I q) (nI t0) w s0 := by
            simp only [p_canb, c_5, c_12, c_19, nI_clamp (show t0 < 2 ^ 31 by omega), nI_clamp (show s0 < 2 ^ 31 by omega), hw, nI_clamp (show w < 2 ^ 31 by omega), nI_add, Bool.true_and, decide_true, c_32]
          have loop : ∀ (n k : Nat) (o : Option Value), z_c1 o = true → s0 + w = k + n → p_fitn (I q) (nI t0) n k = p_canb (I q) (nI t0) (nI s0) → z_V E l mX5_canBring (z_rm 2 0 0) 0 0 (z_q (fun v' G' I' sz' => v' = some (.int (z_b (p_canb (I q) (nI t0) (nI s0)))) ∧ G' = G ∧ I' = I ∧ sz' = sz)) 0 0 G I sz 39 [some (.ref q), some (.int (nI t0)), some (.int (nI s0)), some (.int (nI k)), o] [] := by
            intro n
            induction n with
            | zero =>
              intro k o ho hk hp
              have e12 : nI s0 + tf (I q) t0 0 ≤ nI k := by rw [hw, nI_add]; exact nI_le (by omega) (by omega)
              refine v_iload_n (pc' := 40) dX5_canBring_39 rfl rfl ?_
              refine v_iload_n (pc' := 41) dX5_canBring_40 rfl rfl ?_
              refine v_aload_n (pc' := 42) dX5_canBring_41 rfl rfl ?_
              refine v_iload_n (pc' := 43) dX5_canBring_42 rfl rfl ?_
              refine v_iconst (pc' := 44) dX5_canBring_43 kc_0 rfl ?_
              refine v_cSR (pc' := 47) (c5_of hl hq t0 0 rfl rfl (by omega)) dX5_canBring_44 lk_X5_43 mwX5_of msX5_of rfl rfl (by decide) (Nat.le_of_ble_eq_true rfl) rfl ?_
              refine v_iadd (pc' := 48) dX5_canBring_47 rfl ?_
              refine v_icmp_ge (tgt := 88) (pc' := 51) dX5_canBring_48 (by decide) rfl (fun c_48 => ?_) (fun c_48 => ?_)
              · refine v_iconst (pc' := 89) dX5_canBring_88 kc_1 rfl ?_
                exact v_zret dX5_canBring_89 rfl (Nat.le_refl _) (Nat.le_refl _) rfl (z_rdi (by rw [← hp]; rfl))
              · exact absurd e12 c_48
            | succ n ih =>
              intro k o ho hk hp
              have e12 : ¬ nI s0 + tf (I q) t0 0 ≤ nI k := by rw [hw, nI_add]; exact nI_ge (by omega) (by omega)
              refine v_iload_n (pc' := 40) dX5_canBring_39 rfl rfl ?_
              refine v_iload_n (pc' := 41) dX5_canBring_40 rfl rfl ?_
              refine v_aload_n (pc' := 42) dX5_canBring_41 rfl rfl ?_
              refine v_iload_n (pc' := 43) dX5_canBring_42 rfl rfl ?_
              refine v_iconst (pc' := 44) dX5_canBring_43 kc_0 rfl ?_
              refine v_cSR (pc' := 47) (c5_of hl hq t0 0 rfl rfl (by omega)) dX5_canBring_44 lk_X5_43 mwX5_of msX5_of rfl rfl (by decide) (Nat.le_of_ble_eq_true rfl) rfl ?_
              refine v_iadd (pc' := 48) dX5_canBring_47 rfl ?_
              refine v_icmp_ge (tgt := 88) (pc' := 51) dX5_canBring_48 (by decide) rfl (fun c_48 => ?_) (fun c_48 => ?_)
              · exact absurd c_48 e12
              · refine v_aload_n (pc' := 52) dX5_canBring_51 rfl rfl ?_
                refine v_iload_n (pc' := 53) dX5_canBring_52 rfl rfl ?_
                refine v_cSR (pc' := 56) (c5_taker hl hq hW (nI k)) dX5_canBring_53 lk_X5_51 mwX5_taker msX5_taker rfl rfl (by decide) (Nat.le_of_ble_eq_true rfl) rfl ?_
                refine v_istore4 (pc' := 58) dX5_canBring_56 (by decide) rfl rfl ?_
                refine v_aload_n (pc' := 59) dX5_canBring_58 rfl rfl ?_
                refine v_bipush (pc' := 61) dX5_canBring_59 kb_11 rfl ?_
                refine v_iload_n (pc' := 62) dX5_canBring_61 rfl rfl ?_
                refine v_iadd (pc' := 63) dX5_canBring_62 rfl ?_
                refine v_iald (pc' := 64) dX5_canBring_63 (11 + k) (z_ix11 k) (by assumption) (by omega) (by decide) rfl ?_
                refine v_iconst (pc' := 65) dX5_canBring_64 kc_1 rfl ?_
                refine v_icmp_eq (tgt := 80) (pc' := 68) dX5_canBring_65 (by decide) rfl (fun c_65 => ?_) (fun c_65 => ?_)
                · refine v_iconst (pc' := 81) dX5_canBring_80 kc_0 rfl ?_
                  exact v_zret dX5_canBring_81 rfl (Nat.le_refl _) (Nat.le_refl _) rfl (z_rdi (by rw [← hp, p_fitn]; simp [z_b, *]))
                · refine v_iload (pc' := 70) dX5_canBring_68 rfl rfl ?_
                  refine v_iconst (pc' := 71) dX5_canBring_70 kc_m1 rfl ?_
                  refine v_icmp_eq (tgt := 82) (pc' := 74) dX5_canBring_71 (by decide) rfl (fun c_71 => ?_) (fun c_71 => ?_)
                  · refine v_iinc3 (pc' := 85) dX5_canBring_82 (by decide) rfl kc_1 (nI_1 k) rfl ?_
                    refine v_goto (tgt := 39) dX5_canBring_85 (by decide) ?_
                    exact ih (k + 1) _ rfl (by omega) (by rw [← hp, p_fitn]; simp [*])
                  · refine v_iload (pc' := 76) dX5_canBring_74 rfl rfl ?_
                    refine v_iload_n (pc' := 77) dX5_canBring_76 rfl rfl ?_
                    refine v_icmp_eq (tgt := 82) (pc' := 80) dX5_canBring_77 (by decide) rfl (fun c_77 => ?_) (fun c_77 => ?_)
                    · refine v_iinc3 (pc' := 85) dX5_canBring_82 (by decide) rfl kc_1 (nI_1 k) rfl ?_
                      refine v_goto (tgt := 39) dX5_canBring_85 (by decide) ?_
                      exact ih (k + 1) _ rfl (by omega) (by rw [← hp, p_fitn]; simp [*])
                    · refine v_iconst (pc' := 81) dX5_canBring_80 kc_0 rfl ?_
                      exact v_zret dX5_canBring_81 rfl (Nat.le_refl _) (Nat.le_refl _) rfl (z_rdi (by rw [← hp, p_fitn]; simp [z_b, *]))
          refine v_iload_n (pc' := 38) dX5_canBring_37 rfl rfl ?_
          refine v_istore_n3 (pc' := 39) dX5_canBring_38 (by decide) rfl rfl ?_
          exact loop w s0 none rfl rfl hp0.symm
        · have c_33 : ¬ (nI s0 + tf (I q) (nI t0).toNatClampNeg 0 ≤ 12) := by rw [nI_clamp (by omega)]; exact c_32
          refine v_iconst (pc' := 36) dX5_canBring_35 kc_0 rfl ?_
          exact v_zret dX5_canBring_36 rfl (Nat.le_refl _) (Nat.le_refl _) rfl (z_rdi (by simp [z_b, p_canb, *]))
end REF2
