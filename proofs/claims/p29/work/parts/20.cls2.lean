/-! THE CLASS: what a state counts and finds (written by wip/whole/gen_cls2.py) -/
section CLS2
variable {E : zE} {l : Launch} {G : zG} {I : zI} {sz a b : Nat} {r : zR}
set_option maxRecDepth 20000 in
set_option maxHeartbeats 4000000 in
theorem c1_countRunning (hl : l.stackTraces = false) (hS : ShS E G a) (hA : Abs I a r) (hW : WF r) : z_CR E l mX1_countRunning 3 [.ref a] G I sz (.int (p_running r)) := by
  obtain ⟨h0, h1, h2, h3, hT⟩ := id hS
  obtain ⟨⟨⟨g3, g4, g5, g6, g9, g10⟩, g78⟩, gb, gs, gt⟩ := id hA
  obtain ⟨⟨hc6, hc0⟩, -⟩ := id hW
  have loop : ∀ (n t : Nat) (x : Int32), cnt r = t + n → p_runn r n t x = p_running r → z_V E l mX1_countRunning (z_rm 3 0 0) 0 0 (z_q (fun v' G' I' sz' => v' = some (.int (p_running r)) ∧ G' = G ∧ I' = I ∧ sz' = sz)) 0 0 G I sz 4 [some (.ref a), some (.int x), some (.int (nI t))] [] := by
    intro n
    induction n with
    | zero =>
      intro t x ht hp
      refine v_iload_n (pc' := 5) dX1_countRunning_4 rfl rfl ?_
      refine v_aload_n (pc' := 6) dX1_countRunning_5 rfl rfl ?_
      refine g_X1_32 (pc' := 9) rfl dX1_countRunning_6 (by assumption) rfl ?_
      refine v_icmp_ge (tgt := 30) (pc' := 12) dX1_countRunning_9 (by decide) rfl (fun c_9 => ?_) (fun c_9 => ?_)
      · refine v_iload_n (pc' := 31) dX1_countRunning_30 rfl rfl ?_
        exact v_iret dX1_countRunning_31 rfl (Nat.le_refl _) (Nat.le_refl _) (z_rdi hp)
      · exact absurd (by rw [g3, hc0, ht]; exact nI_le (by omega) (by omega)) c_9
    | succ n ih =>
      intro t x ht hp
      refine v_iload_n (pc' := 5) dX1_countRunning_4 rfl rfl ?_
      refine v_aload_n (pc' := 6) dX1_countRunning_5 rfl rfl ?_
      refine g_X1_32 (pc' := 9) rfl dX1_countRunning_6 (by assumption) rfl ?_
      refine v_icmp_ge (tgt := 30) (pc' := 12) dX1_countRunning_9 (by decide) rfl (fun c_9 => ?_) (fun c_9 => ?_)
      · rw [g3, hc0, ht] at c_9
        exact absurd c_9 (nI_ge (by omega) (by omega))
      · refine v_aload_n (pc' := 13) dX1_countRunning_12 rfl rfl ?_
        refine v_iload_n (pc' := 14) dX1_countRunning_13 rfl rfl ?_
        refine v_iconst (pc' := 15) dX1_countRunning_14 kc_2 rfl ?_
        refine v_cVR (pc' := 18) (c1_isTaskInStatus hl hS hA hW (nI t) 2) dX1_countRunning_15 lk_X1_96 mwX1_isTaskInStatus miX1_isTaskInStatus h0 rfl rfl rfl rfl (by decide) (Nat.le_of_ble_eq_true rfl) rfl ?_
        rw [p_isTask_of hW (show t < cnt r by omega), nI_clamp (show t < 2 ^ 31 by omega), Bool.true_and]
        refine v_if_eq (tgt := 24) (pc' := 21) dX1_countRunning_18 (by decide) rfl (fun c_18 => ?_) (fun c_18 => ?_)
        · rw [z_b_eq0, decide_eq_false_iff_not] at c_18
          rw [p_runn, if_neg c_18, Int32.add_zero] at hp
          refine v_iinc2 (pc' := 27) dX1_countRunning_24 (by decide) rfl kc_1 (nI_1 t) rfl ?_
          refine v_goto (tgt := 4) dX1_countRunning_27 (by decide) ?_
          exact ih (t + 1) _ (by omega) hp
        · rw [z_b_ne0, decide_eq_true_eq] at c_18
          rw [p_runn, if_pos c_18] at hp
          refine v_iinc1 (pc' := 24) dX1_countRunning_21 (by decide) rfl kc_1 rfl rfl ?_
          refine v_iinc2 (pc' := 27) dX1_countRunning_24 (by decide) rfl kc_1 (nI_1 t) rfl ?_
          refine v_goto (tgt := 4) dX1_countRunning_27 (by decide) ?_
          exact ih (t + 1) _ (by omega) hp
  refine z_Ct.of hl pn_X1 [some (.ref a), none, none] rfl (Nat.le_of_ble_eq_true rfl) ?_
  refine v_iconst (pc' := 1) dX1_countRunning_0 kc_0 rfl ?_
  refine v_istore_n1 (pc' := 2) dX1_countRunning_1 (by decide) rfl rfl ?_
  refine v_iconst (pc' := 3) dX1_countRunning_2 kc_0 rfl ?_
  refine v_istore_n2 (pc' := 4) dX1_countRunning_3 (by decide) rfl rfl ?_
  exact loop (cnt r) 0 0 (by omega) rfl
set_option maxRecDepth 20000 in
set_option maxHeartbeats 4000000 in
theorem c1_countBad (hl : l.stackTraces = false) (hS : ShS E G a) (hA : Abs I a r) (hW : WF r) : z_CR E l mX1_countBad 0 [.ref a] G I sz (.int (p_badn r 12 0 0)) := by
  obtain ⟨h0, h1, h2, h3, hT⟩ := id hS
  obtain ⟨⟨⟨g3, g4, g5, g6, g9, g10⟩, g78⟩, gb, gs, gt⟩ := id hA
  obtain ⟨⟨hc6, hc0⟩, -⟩ := id hW
  have loop : ∀ (n t : Nat) (x : Int32), 12 = t + n → p_badn r n t x = p_badn r 12 0 0 → z_V E l mX1_countBad (z_rm 0 0 0) 0 0 (z_q (fun v' G' I' sz' => v' = some (.int (p_badn r 12 0 0)) ∧ G' = G ∧ I' = I ∧ sz' = sz)) 0 0 G I sz 4 [some (.ref a), some (.int x), some (.int (nI t))] [] := by
    intro n
    induction n with
    | zero =>
      intro t x ht hp
      refine v_iload_n (pc' := 5) dX1_countBad_4 rfl rfl ?_
      refine v_bipush (pc' := 7) dX1_countBad_5 kb_12 rfl ?_
      refine v_icmp_ge (tgt := 28) (pc' := 10) dX1_countBad_7 (by decide) rfl (fun c_7 => ?_) (fun c_7 => ?_)
      · refine v_iload_n (pc' := 29) dX1_countBad_28 rfl rfl ?_
        exact v_iret dX1_countBad_29 rfl (Nat.le_refl _) (Nat.le_refl _) (z_rdi hp)
      · exact absurd (nI_le (a := 12) (by omega) (by omega)) c_7
    | succ n ih =>
      intro t x ht hp
      refine v_iload_n (pc' := 5) dX1_countBad_4 rfl rfl ?_
      refine v_bipush (pc' := 7) dX1_countBad_5 kb_12 rfl ?_
      refine v_icmp_ge (tgt := 28) (pc' := 10) dX1_countBad_7 (by decide) rfl (fun c_7 => ?_) (fun c_7 => ?_)
      · exact absurd c_7 (nI_ge (b := 12) (by omega) (by omega))
      · refine v_aload_n (pc' := 11) dX1_countBad_10 rfl rfl ?_
        refine g_X1_17 (pc' := 14) rfl dX1_countBad_11 (by assumption) rfl ?_
        refine v_iload_n (pc' := 15) dX1_countBad_14 rfl rfl ?_
        refine v_zald (pc' := 16) dX1_countBad_15 (t) rfl (by assumption) (by omega) (by decide) rfl ?_
        refine v_if_eq (tgt := 22) (pc' := 19) dX1_countBad_16 (by decide) rfl (fun c_16 => ?_) (fun c_16 => ?_)
        · rw [gb t (by omega)] at c_16
          rw [p_badn, c_16, Int32.add_zero] at hp
          refine v_iinc2 (pc' := 25) dX1_countBad_22 (by decide) rfl kc_1 (nI_1 t) rfl ?_
          refine v_goto (tgt := 4) dX1_countBad_25 (by decide) ?_
          exact ih (t + 1) _ (by omega) hp
        · rw [gb t (by omega)] at c_16
          rw [p_badn, (hW.2.2.2.1 t (by omega)).resolve_left c_16] at hp
          refine v_iinc1 (pc' := 22) dX1_countBad_19 (by decide) rfl kc_1 rfl rfl ?_
          refine v_iinc2 (pc' := 25) dX1_countBad_22 (by decide) rfl kc_1 (nI_1 t) rfl ?_
          refine v_goto (tgt := 4) dX1_countBad_25 (by decide) ?_
          exact ih (t + 1) _ (by omega) hp
  refine z_Ct.of hl pn_X1 [some (.ref a), none, none] rfl (Nat.le_of_ble_eq_true rfl) ?_
  refine v_iconst (pc' := 1) dX1_countBad_0 kc_0 rfl ?_
  refine v_istore_n1 (pc' := 2) dX1_countBad_1 (by decide) rfl rfl ?_
  refine v_iconst (pc' := 3) dX1_countBad_2 kc_0 rfl ?_
  refine v_istore_n2 (pc' := 4) dX1_countBad_3 (by decide) rfl rfl ?_
  exact loop 12 0 0 (by omega) rfl
set_option maxRecDepth 20000 in
set_option maxHeartbeats 4000000 in
theorem c1_countFree (hl : l.stackTraces = false) (hS : ShS E G a) (hA : Abs I a r) (hW : WF r) : z_CR E l mX1_countFree 5 [.ref a] G I sz (.int (p_frn r 12 0 0)) := by
  obtain ⟨h0, h1, h2, h3, hT⟩ := id hS
  obtain ⟨⟨⟨g3, g4, g5, g6, g9, g10⟩, g78⟩, gb, gs, gt⟩ := id hA
  obtain ⟨⟨hc6, hc0⟩, -⟩ := id hW
  have loop : ∀ (n t : Nat) (x : Int32), 12 = t + n → p_frn r n t x = p_frn r 12 0 0 → z_V E l mX1_countFree (z_rm 5 0 0) 0 0 (z_q (fun v' G' I' sz' => v' = some (.int (p_frn r 12 0 0)) ∧ G' = G ∧ I' = I ∧ sz' = sz)) 0 0 G I sz 4 [some (.ref a), some (.int x), some (.int (nI t))] [] := by
    intro n
    induction n with
    | zero =>
      intro t x ht hp
      refine v_iload_n (pc' := 5) dX1_countFree_4 rfl rfl ?_
      refine v_bipush (pc' := 7) dX1_countFree_5 kb_12 rfl ?_
      refine v_icmp_ge (tgt := 27) (pc' := 10) dX1_countFree_7 (by decide) rfl (fun c_7 => ?_) (fun c_7 => ?_)
      · refine v_iload_n (pc' := 28) dX1_countFree_27 rfl rfl ?_
        exact v_iret dX1_countFree_28 rfl (Nat.le_refl _) (Nat.le_refl _) (z_rdi hp)
      · exact absurd (nI_le (a := 12) (by omega) (by omega)) c_7
    | succ n ih =>
      intro t x ht hp
      refine v_iload_n (pc' := 5) dX1_countFree_4 rfl rfl ?_
      refine v_bipush (pc' := 7) dX1_countFree_5 kb_12 rfl ?_
      refine v_icmp_ge (tgt := 27) (pc' := 10) dX1_countFree_7 (by decide) rfl (fun c_7 => ?_) (fun c_7 => ?_)
      · exact absurd c_7 (nI_ge (b := 12) (by omega) (by omega))
      · refine v_aload_n (pc' := 11) dX1_countFree_10 rfl rfl ?_
        refine v_iload_n (pc' := 12) dX1_countFree_11 rfl rfl ?_
        refine v_cVR (pc' := 15) (c1_isFree hl hS hA hW t (by omega) rfl) dX1_countFree_12 lk_X1_123 mwX1_isFree miX1_isFree h0 rfl rfl rfl rfl (by decide) (Nat.le_of_ble_eq_true rfl) rfl ?_
        refine v_if_eq (tgt := 21) (pc' := 18) dX1_countFree_15 (by decide) rfl (fun c_15 => ?_) (fun c_15 => ?_)
        · rw [z_b_eq0] at c_15
          rw [p_frn, c_15] at hp
          refine v_iinc2 (pc' := 24) dX1_countFree_21 (by decide) rfl kc_1 (nI_1 t) rfl ?_
          refine v_goto (tgt := 4) dX1_countFree_24 (by decide) ?_
          exact ih (t + 1) _ (by omega) hp
        · rw [z_b_ne0] at c_15
          rw [p_frn, if_pos c_15] at hp
          refine v_iinc1 (pc' := 21) dX1_countFree_18 (by decide) rfl kc_1 rfl rfl ?_
          refine v_iinc2 (pc' := 24) dX1_countFree_21 (by decide) rfl kc_1 (nI_1 t) rfl ?_
          refine v_goto (tgt := 4) dX1_countFree_24 (by decide) ?_
          exact ih (t + 1) _ (by omega) hp
  refine z_Ct.of hl pn_X1 [some (.ref a), none, none] rfl (Nat.le_of_ble_eq_true rfl) ?_
  refine v_iconst (pc' := 1) dX1_countFree_0 kc_0 rfl ?_
  refine v_istore_n1 (pc' := 2) dX1_countFree_1 (by decide) rfl rfl ?_
  refine v_iconst (pc' := 3) dX1_countFree_2 kc_0 rfl ?_
  refine v_istore_n2 (pc' := 4) dX1_countFree_3 (by decide) rfl rfl ?_
  exact loop 12 0 0 (by omega) rfl
set_option maxRecDepth 20000 in
set_option maxHeartbeats 4000000 in
theorem c1_freeRowFrom (hl : l.stackTraces = false) (hS : ShS E G a) (hA : Abs I a r) (hW : WF r) (s : Nat) (hs : s < 12) {s3 : Int32} (hs3 : s3 = nI s) : z_CR E l mX1_freeRowFrom 5 [.ref a, .int s3] G I sz (.int (nI (p_ff r s))) := by
  obtain ⟨h0, h1, h2, h3, hT⟩ := id hS
  obtain ⟨⟨⟨g3, g4, g5, g6, g9, g10⟩, g78⟩, gb, gs, gt⟩ := id hA
  obtain ⟨⟨hc6, hc0⟩, -⟩ := id hW
  subst hs3
  have loop : ∀ (n k : Nat), 12 = s + k + n → k + p_ffn r n (s + k) = p_ff r s → z_V E l mX1_freeRowFrom (z_rm 5 0 0) 0 0 (z_q (fun v' G' I' sz' => v' = some (.int (nI (p_ff r s))) ∧ G' = G ∧ I' = I ∧ sz' = sz)) 0 0 G I sz 2 [some (.ref a), some (.int (nI s)), some (.int (nI k))] [] := by
    intro n
    induction n with
    | zero =>
      intro k ht hp
      refine v_iload_n (pc' := 3) dX1_freeRowFrom_2 rfl rfl ?_
      refine v_bipush (pc' := 5) dX1_freeRowFrom_3 kb_12 rfl ?_
      refine v_icmp_ge (tgt := 24) (pc' := 8) dX1_freeRowFrom_5 (by decide) rfl (fun c_5 => ?_) (fun c_5 => ?_)
      · have e9 : k = p_ff r s := (by rw [← hp]; rfl)
        refine v_iload_n (pc' := 25) dX1_freeRowFrom_24 rfl rfl ?_
        exact v_iret dX1_freeRowFrom_25 rfl (Nat.le_refl _) (Nat.le_refl _) (z_rdi (by rw [e9]))
      · refine v_aload_n (pc' := 9) dX1_freeRowFrom_8 rfl rfl ?_
        refine v_iload_n (pc' := 10) dX1_freeRowFrom_9 rfl rfl ?_
        refine v_iload_n (pc' := 11) dX1_freeRowFrom_10 rfl rfl ?_
        refine v_iadd (pc' := 12) dX1_freeRowFrom_11 rfl ?_
        rw [nI_add]
        refine v_cVR (pc' := 15) (c1_isFreeOut hl hS hA hW (nI (s + k)) (p_isStripe_out (by omega) (by omega))) dX1_freeRowFrom_12 lk_X1_123 mwX1_isFree miX1_isFree h0 rfl rfl rfl rfl (by decide) (Nat.le_of_ble_eq_true rfl) rfl ?_
        refine v_if_eq (tgt := 24) (pc' := 18) dX1_freeRowFrom_15 (by decide) rfl (fun c_15 => ?_) (fun c_15 => ?_)
        · have e9 : k = p_ff r s := (by rw [← hp]; rfl)
          refine v_iload_n (pc' := 25) dX1_freeRowFrom_24 rfl rfl ?_
          exact v_iret dX1_freeRowFrom_25 rfl (Nat.le_refl _) (Nat.le_refl _) (z_rdi (by rw [e9]))
        · exact absurd rfl c_15
    | succ n ih =>
      intro k ht hp
      refine v_iload_n (pc' := 3) dX1_freeRowFrom_2 rfl rfl ?_
      refine v_bipush (pc' := 5) dX1_freeRowFrom_3 kb_12 rfl ?_
      refine v_icmp_ge (tgt := 24) (pc' := 8) dX1_freeRowFrom_5 (by decide) rfl (fun c_5 => ?_) (fun c_5 => ?_)
      · exact absurd c_5 (nI_ge (b := 12) (by omega) (by omega))
      · refine v_aload_n (pc' := 9) dX1_freeRowFrom_8 rfl rfl ?_
        refine v_iload_n (pc' := 10) dX1_freeRowFrom_9 rfl rfl ?_
        refine v_iload_n (pc' := 11) dX1_freeRowFrom_10 rfl rfl ?_
        refine v_iadd (pc' := 12) dX1_freeRowFrom_11 rfl ?_
        rw [nI_add]
        refine v_cVR (pc' := 15) (c1_isFree hl hS hA hW (s + k) (by omega) rfl) dX1_freeRowFrom_12 lk_X1_123 mwX1_isFree miX1_isFree h0 rfl rfl rfl rfl (by decide) (Nat.le_of_ble_eq_true rfl) rfl ?_
        refine v_if_eq (tgt := 24) (pc' := 18) dX1_freeRowFrom_15 (by decide) rfl (fun c_15 => ?_) (fun c_15 => ?_)
        · rw [z_b_eq0] at c_15
          rw [p_ffn_s, c_15] at hp
          have e9 : k = p_ff r s := hp
          refine v_iload_n (pc' := 25) dX1_freeRowFrom_24 rfl rfl ?_
          exact v_iret dX1_freeRowFrom_25 rfl (Nat.le_refl _) (Nat.le_refl _) (z_rdi (by rw [e9]))
        · rw [z_b_ne0] at c_15
          rw [p_ffn_s, if_pos c_15] at hp
          refine v_iinc2 (pc' := 21) dX1_freeRowFrom_18 (by decide) rfl kc_1 (nI_1 k) rfl ?_
          refine v_goto (tgt := 2) dX1_freeRowFrom_21 (by decide) ?_
          exact ih (k + 1) (by omega) (by rw [← hp, show s + (k + 1) = s + k + 1 by omega]; omega)
  refine z_Ct.of hl pn_X1 [some (.ref a), some (.int (nI s)), none] rfl (Nat.le_of_ble_eq_true rfl) ?_
  refine v_iconst (pc' := 1) dX1_freeRowFrom_0 kc_0 rfl ?_
  refine v_istore_n2 (pc' := 2) dX1_freeRowFrom_1 (by decide) rfl rfl ?_
  exact loop (12 - s) 0 (by omega) (by rw [Nat.zero_add]; rfl)
set_option maxRecDepth 20000 in
set_option maxHeartbeats 4000000 in
theorem c1_longest (hl : l.stackTraces = false) (hS : ShS E G a) (hA : Abs I a r) (hW : WF r) : z_CR E l mX1_longestFreeRow 6 [.ref a] G I sz (.int (p_lonn r 12 0 0)) := by
  obtain ⟨h0, h1, h2, h3, hT⟩ := id hS
  obtain ⟨⟨⟨g3, g4, g5, g6, g9, g10⟩, g78⟩, gb, gs, gt⟩ := id hA
  obtain ⟨⟨hc6, hc0⟩, -⟩ := id hW
  have loop : ∀ (n t : Nat) (x : Int32), 12 = t + n → p_lonn r n t x = p_lonn r 12 0 0 → z_V E l mX1_longestFreeRow (z_rm 6 0 0) 0 0 (z_q (fun v' G' I' sz' => v' = some (.int (p_lonn r 12 0 0)) ∧ G' = G ∧ I' = I ∧ sz' = sz)) 0 0 G I sz 4 [some (.ref a), some (.int x), some (.int (nI t))] [] := by
    intro n
    induction n with
    | zero =>
      intro t x ht hp
      refine v_iload_n (pc' := 5) dX1_longestFreeRow_4 rfl rfl ?_
      refine v_bipush (pc' := 7) dX1_longestFreeRow_5 kb_12 rfl ?_
      refine v_icmp_ge (tgt := 26) (pc' := 10) dX1_longestFreeRow_7 (by decide) rfl (fun c_7 => ?_) (fun c_7 => ?_)
      · refine v_iload_n (pc' := 27) dX1_longestFreeRow_26 rfl rfl ?_
        exact v_iret dX1_longestFreeRow_27 rfl (Nat.le_refl _) (Nat.le_refl _) (z_rdi hp)
      · exact absurd (nI_le (a := 12) (by omega) (by omega)) c_7
    | succ n ih =>
      intro t x ht hp
      refine v_iload_n (pc' := 5) dX1_longestFreeRow_4 rfl rfl ?_
      refine v_bipush (pc' := 7) dX1_longestFreeRow_5 kb_12 rfl ?_
      refine v_icmp_ge (tgt := 26) (pc' := 10) dX1_longestFreeRow_7 (by decide) rfl (fun c_7 => ?_) (fun c_7 => ?_)
      · exact absurd c_7 (nI_ge (b := 12) (by omega) (by omega))
      · refine v_iload_n (pc' := 11) dX1_longestFreeRow_10 rfl rfl ?_
        refine v_aload_n (pc' := 12) dX1_longestFreeRow_11 rfl rfl ?_
        refine v_iload_n (pc' := 13) dX1_longestFreeRow_12 rfl rfl ?_
        refine v_cVR (pc' := 16) (c1_freeRowFrom hl hS hA hW t (by omega) rfl) dX1_longestFreeRow_13 lk_X1_126 mwX1_freeRowFrom miX1_freeRowFrom h0 rfl rfl rfl rfl (by decide) (Nat.le_of_ble_eq_true rfl) rfl ?_
        refine v_mmax (pc' := 19) rfl dX1_longestFreeRow_16 (by decide) (Nat.le_of_ble_eq_true rfl) rfl (Nat.le_refl _) (Nat.le_refl _) ?_
        refine v_istore_n1 (pc' := 20) dX1_longestFreeRow_19 (by decide) rfl rfl ?_
        refine v_iinc2 (pc' := 23) dX1_longestFreeRow_20 (by decide) rfl kc_1 (nI_1 t) rfl ?_
        refine v_goto (tgt := 4) dX1_longestFreeRow_23 (by decide) ?_
        exact ih (t + 1) _ (by omega) hp
  refine z_Ct.of hl pn_X1 [some (.ref a), none, none] rfl (Nat.le_of_ble_eq_true rfl) ?_
  refine v_iconst (pc' := 1) dX1_longestFreeRow_0 kc_0 rfl ?_
  refine v_istore_n1 (pc' := 2) dX1_longestFreeRow_1 (by decide) rfl rfl ?_
  refine v_iconst (pc' := 3) dX1_longestFreeRow_2 kc_0 rfl ?_
  refine v_istore_n2 (pc' := 4) dX1_longestFreeRow_3 (by decide) rfl rfl ?_
  exact loop 12 0 0 (by omega) rfl
set_option maxRecDepth 20000 in
set_option maxHeartbeats 4000000 in
theorem c1_shortestGap (hl : l.stackTraces = false) (hS : ShS E G a) (hA : Abs I a r) (hW : WF r) (w : Int32) : z_CR E l mX1_shortestGap 6 [.ref a, .int w] G I sz (.int (p_gapn r w 12 0 (-1) 13)) := by
  obtain ⟨h0, h1, h2, h3, hT⟩ := id hS
  obtain ⟨⟨⟨g3, g4, g5, g6, g9, g10⟩, g78⟩, gb, gs, gt⟩ := id hA
  obtain ⟨⟨hc6, hc0⟩, -⟩ := id hW
  have loop : ∀ (n t : Nat) (b9 x : Int32) (o : Option Value), z_c1 o = true → 12 = t + n → p_gapn r w n t b9 x = p_gapn r w 12 0 (-1) 13 → z_V E l mX1_shortestGap (z_rm 6 0 0) 0 0 (z_q (fun v' G' I' sz' => v' = some (.int (p_gapn r w 12 0 (-1) 13)) ∧ G' = G ∧ I' = I ∧ sz' = sz)) 0 0 G I sz 8 [some (.ref a), some (.int w), some (.int b9), some (.int x), some (.int (nI t)), o] [] := by
    intro n
    induction n with
    | zero =>
      intro t b9 x o ho ht hp
      refine v_iload (pc' := 10) dX1_shortestGap_8 rfl rfl ?_
      refine v_bipush (pc' := 12) dX1_shortestGap_10 kb_12 rfl ?_
      refine v_icmp_ge (tgt := 62) (pc' := 15) dX1_shortestGap_12 (by decide) rfl (fun c_12 => ?_) (fun c_12 => ?_)
      · refine v_iload_n (pc' := 63) dX1_shortestGap_62 rfl rfl ?_
        exact v_iret dX1_shortestGap_63 rfl (Nat.le_refl _) (Nat.le_refl _) (z_rdi hp)
      · exact absurd (nI_le (a := 12) (by omega) (by omega)) c_12
    | succ n ih =>
      intro t b9 x o ho ht hp
      have tail : z_V E l mX1_shortestGap (z_rm 6 0 0) 0 0 (z_q (fun v' G' I' sz' => v' = some (.int (p_gapn r w 12 0 (-1) 13)) ∧ G' = G ∧ I' = I ∧ sz' = sz)) 0 0 G I sz 36 [some (.ref a), some (.int w), some (.int b9), some (.int x), some (.int (nI t)), o] [.int (nI (p_gl r t))] := by
        refine v_istore5 (pc' := 38) dX1_shortestGap_36 (by decide) rfl rfl ?_
        refine v_iload (pc' := 40) dX1_shortestGap_38 rfl rfl ?_
        refine v_iload_n (pc' := 41) dX1_shortestGap_40 rfl rfl ?_
        refine v_icmp_lt (tgt := 56) (pc' := 44) dX1_shortestGap_41 (by decide) rfl (fun c_41 => ?_) (fun c_41 => ?_)
        · rw [← Int32.not_le] at c_41
          rw [p_gapn, if_neg (fun q9 => c_41 q9.1)] at hp
          refine v_iinc4 (pc' := 59) dX1_shortestGap_56 (by decide) rfl kc_1 (nI_1 t) rfl ?_
          refine v_goto (tgt := 8) dX1_shortestGap_59 (by decide) ?_
          exact ih (t + 1) _ _ _ rfl (by omega) hp
        · rw [Int32.not_lt] at c_41
          refine v_iload (pc' := 46) dX1_shortestGap_44 rfl rfl ?_
          refine v_iload_n (pc' := 47) dX1_shortestGap_46 rfl rfl ?_
          refine v_icmp_ge (tgt := 56) (pc' := 50) dX1_shortestGap_47 (by decide) rfl (fun c_47 => ?_) (fun c_47 => ?_)
          · rw [← Int32.not_lt] at c_47
            rw [p_gapn, if_neg (fun q9 => c_47 q9.2)] at hp
            refine v_iinc4 (pc' := 59) dX1_shortestGap_56 (by decide) rfl kc_1 (nI_1 t) rfl ?_
            refine v_goto (tgt := 8) dX1_shortestGap_59 (by decide) ?_
            exact ih (t + 1) _ _ _ rfl (by omega) hp
          · rw [Int32.not_le] at c_47
            rw [p_gapn, if_pos (And.intro c_41 c_47)] at hp
            refine v_iload (pc' := 52) dX1_shortestGap_50 rfl rfl ?_
            refine v_istore_n2 (pc' := 53) dX1_shortestGap_52 (by decide) rfl rfl ?_
            refine v_iload (pc' := 55) dX1_shortestGap_53 rfl rfl ?_
            refine v_istore_n3 (pc' := 56) dX1_shortestGap_55 (by decide) rfl rfl ?_
            refine v_iinc4 (pc' := 59) dX1_shortestGap_56 (by decide) rfl kc_1 (nI_1 t) rfl ?_
            refine v_goto (tgt := 8) dX1_shortestGap_59 (by decide) ?_
            exact ih (t + 1) _ _ _ rfl (by omega) hp
      refine v_iload (pc' := 10) dX1_shortestGap_8 rfl rfl ?_
      refine v_bipush (pc' := 12) dX1_shortestGap_10 kb_12 rfl ?_
      refine v_icmp_ge (tgt := 62) (pc' := 15) dX1_shortestGap_12 (by decide) rfl (fun c_12 => ?_) (fun c_12 => ?_)
      · exact absurd c_12 (nI_ge (b := 12) (by omega) (by omega))
      · refine v_aload_n (pc' := 16) dX1_shortestGap_15 rfl rfl ?_
        refine v_iload (pc' := 18) dX1_shortestGap_16 rfl rfl ?_
        refine v_iconst (pc' := 19) dX1_shortestGap_18 kc_1 rfl ?_
        refine v_isub (pc' := 20) dX1_shortestGap_19 rfl ?_
        rcases Nat.eq_zero_or_pos t with ht0 | ht0
        · subst ht0
          refine v_cVR (pc' := 23) (c1_isFreeOut hl hS hA hW _ rfl) dX1_shortestGap_20 lk_X1_123 mwX1_isFree miX1_isFree h0 rfl rfl rfl rfl (by decide) (Nat.le_of_ble_eq_true rfl) rfl ?_
          refine v_if_eq (tgt := 30) (pc' := 26) dX1_shortestGap_23 (by decide) rfl (fun c_23 => ?_) (fun c_23 => ?_)
          · refine v_aload_n (pc' := 31) dX1_shortestGap_30 rfl rfl ?_
            refine v_iload (pc' := 33) dX1_shortestGap_31 rfl rfl ?_
            refine v_cVR (pc' := 36) (c1_freeRowFrom hl hS hA hW 0 (by omega) rfl) dX1_shortestGap_33 lk_X1_126 mwX1_freeRowFrom miX1_freeRowFrom h0 rfl rfl rfl rfl (by decide) (Nat.le_of_ble_eq_true rfl) rfl ?_
            exact tail
          · exact absurd rfl c_23
        · obtain ⟨u, rfl⟩ : ∃ u, t = u + 1 := ⟨t - 1, by omega⟩
          rw [nI_pred]
          refine v_cVR (pc' := 23) (c1_isFree hl hS hA hW u (by omega) rfl) dX1_shortestGap_20 lk_X1_123 mwX1_isFree miX1_isFree h0 rfl rfl rfl rfl (by decide) (Nat.le_of_ble_eq_true rfl) rfl ?_
          refine v_if_eq (tgt := 30) (pc' := 26) dX1_shortestGap_23 (by decide) rfl (fun c_23 => ?_) (fun c_23 => ?_)
          · rw [z_b_eq0] at c_23
            rw [show p_gl r (u + 1) = p_ff r (u + 1) by simp [p_gl, c_23]] at tail
            refine v_aload_n (pc' := 31) dX1_shortestGap_30 rfl rfl ?_
            refine v_iload (pc' := 33) dX1_shortestGap_31 rfl rfl ?_
            refine v_cVR (pc' := 36) (c1_freeRowFrom hl hS hA hW (u + 1) (by omega) rfl) dX1_shortestGap_33 lk_X1_126 mwX1_freeRowFrom miX1_freeRowFrom h0 rfl rfl rfl rfl (by decide) (Nat.le_of_ble_eq_true rfl) rfl ?_
            exact tail
          · rw [z_b_ne0] at c_23
            rw [show p_gl r (u + 1) = 0 by simp [p_gl, c_23]] at tail
            refine v_iconst (pc' := 27) dX1_shortestGap_26 kc_0 rfl ?_
            refine v_goto (tgt := 36) dX1_shortestGap_27 (by decide) ?_
            exact tail
  refine z_Ct.of hl pn_X1 [some (.ref a), some (.int w), none, none, none, none] rfl (Nat.le_of_ble_eq_true rfl) ?_
  refine v_iconst (pc' := 1) dX1_shortestGap_0 kc_m1 rfl ?_
  refine v_istore_n2 (pc' := 2) dX1_shortestGap_1 (by decide) rfl rfl ?_
  refine v_bipush (pc' := 4) dX1_shortestGap_2 kb_13 rfl ?_
  refine v_istore_n3 (pc' := 5) dX1_shortestGap_4 (by decide) rfl rfl ?_
  refine v_iconst (pc' := 6) dX1_shortestGap_5 kc_0 rfl ?_
  refine v_istore4 (pc' := 8) dX1_shortestGap_6 (by decide) rfl rfl ?_
  exact loop 12 0 _ _ none rfl (by omega) rfl
set_option maxRecDepth 20000 in
set_option maxHeartbeats 4000000 in
theorem c1_canBeMadeFree (hl : l.stackTraces = false) (hS : ShS E G a) (hA : Abs I a r) (hW : WF r) (s w : Nat) (hsw : s + w ≤ 12) : z_CR E l mX1_canBeMadeFree 4 [.ref a, .int (nI s), .int (nI w)] G I sz (.int (z_b (p_mfn r w s))) := by
  obtain ⟨h0, h1, h2, h3, hT⟩ := id hS
  obtain ⟨⟨⟨g3, g4, g5, g6, g9, g10⟩, g78⟩, gb, gs, gt⟩ := id hA
  obtain ⟨⟨hc6, hc0⟩, -⟩ := id hW
  have loop : ∀ (n k : Nat), s + w = k + n → p_mfn r n k = p_mfn r w s → z_V E l mX1_canBeMadeFree (z_rm 4 0 0) 0 0 (z_q (fun v' G' I' sz' => v' = some (.int (z_b (p_mfn r w s))) ∧ G' = G ∧ I' = I ∧ sz' = sz)) 0 0 G I sz 2 [some (.ref a), some (.int (nI s)), some (.int (nI w)), some (.int (nI k))] [] := by
    intro n
    induction n with
    | zero =>
      intro k ht hp
      refine v_iload_n (pc' := 3) dX1_canBeMadeFree_2 rfl rfl ?_
      refine v_iload_n (pc' := 4) dX1_canBeMadeFree_3 rfl rfl ?_
      refine v_iload_n (pc' := 5) dX1_canBeMadeFree_4 rfl rfl ?_
      refine v_iadd (pc' := 6) dX1_canBeMadeFree_5 rfl ?_
      rw [nI_add]
      refine v_icmp_ge (tgt := 34) (pc' := 9) dX1_canBeMadeFree_6 (by decide) rfl (fun c_6 => ?_) (fun c_6 => ?_)
      · refine v_iconst (pc' := 35) dX1_canBeMadeFree_34 kc_1 rfl ?_
        exact v_zret dX1_canBeMadeFree_35 rfl (Nat.le_refl _) (Nat.le_refl _) rfl (z_rdi (by rw [← hp]; rfl))
      · exact absurd (nI_le (by omega) (by omega)) c_6
    | succ n ih =>
      intro k ht hp
      refine v_iload_n (pc' := 3) dX1_canBeMadeFree_2 rfl rfl ?_
      refine v_iload_n (pc' := 4) dX1_canBeMadeFree_3 rfl rfl ?_
      refine v_iload_n (pc' := 5) dX1_canBeMadeFree_4 rfl rfl ?_
      refine v_iadd (pc' := 6) dX1_canBeMadeFree_5 rfl ?_
      rw [nI_add]
      refine v_icmp_ge (tgt := 34) (pc' := 9) dX1_canBeMadeFree_6 (by decide) rfl (fun c_6 => ?_) (fun c_6 => ?_)
      · exact absurd c_6 (nI_ge (by omega) (by omega))
      · refine v_aload_n (pc' := 10) dX1_canBeMadeFree_9 rfl rfl ?_
        refine v_iload_n (pc' := 11) dX1_canBeMadeFree_10 rfl rfl ?_
        refine v_cVR (pc' := 14) (c1_isGood hl hS hA hW k (by omega) rfl) dX1_canBeMadeFree_11 lk_X1_113 mwX1_isGood miX1_isGood h0 rfl rfl rfl rfl (by decide) (Nat.le_of_ble_eq_true rfl) rfl ?_
        refine v_if_eq (tgt := 26) (pc' := 17) dX1_canBeMadeFree_14 (by decide) rfl (fun c_14 => ?_) (fun c_14 => ?_)
        · rw [z_b_eq0, decide_eq_false_iff_not] at c_14
          rw [p_mfn, if_neg (fun q9 => c_14 q9.1)] at hp
          refine v_iconst (pc' := 27) dX1_canBeMadeFree_26 kc_0 rfl ?_
          exact v_zret dX1_canBeMadeFree_27 rfl (Nat.le_refl _) (Nat.le_refl _) rfl (z_rdi (by rw [← hp]; rfl))
        · rw [z_b_ne0, decide_eq_true_eq] at c_14
          refine v_aload_n (pc' := 18) dX1_canBeMadeFree_17 rfl rfl ?_
          refine v_iload_n (pc' := 19) dX1_canBeMadeFree_18 rfl rfl ?_
          refine v_cVR (pc' := 22) (c1_moverTo hl hS hA hW (nI k)) dX1_canBeMadeFree_19 lk_X1_120 mwX1_moverTo miX1_moverTo h0 rfl rfl rfl rfl (by decide) (Nat.le_of_ble_eq_true rfl) rfl ?_
          refine v_iconst (pc' := 23) dX1_canBeMadeFree_22 kc_m1 rfl ?_
          refine v_icmp_eq (tgt := 28) (pc' := 26) dX1_canBeMadeFree_23 (by decide) rfl (fun c_23 => ?_) (fun c_23 => ?_)
          · rw [p_mfn, if_pos (And.intro c_14 c_23)] at hp
            refine v_iinc3 (pc' := 31) dX1_canBeMadeFree_28 (by decide) rfl kc_1 (nI_1 k) rfl ?_
            refine v_goto (tgt := 2) dX1_canBeMadeFree_31 (by decide) ?_
            exact ih (k + 1) (by omega) hp
          · rw [p_mfn, if_neg (fun q9 => c_23 q9.2)] at hp
            refine v_iconst (pc' := 27) dX1_canBeMadeFree_26 kc_0 rfl ?_
            exact v_zret dX1_canBeMadeFree_27 rfl (Nat.le_refl _) (Nat.le_refl _) rfl (z_rdi (by rw [← hp]; rfl))
  refine z_Ct.of hl pn_X1 [some (.ref a), some (.int (nI s)), some (.int (nI w)), none] rfl (Nat.le_of_ble_eq_true rfl) ?_
  refine v_iload_n (pc' := 1) dX1_canBeMadeFree_0 rfl rfl ?_
  refine v_istore_n3 (pc' := 2) dX1_canBeMadeFree_1 (by decide) rfl rfl ?_
  exact loop w s (by omega) rfl
set_option maxRecDepth 20000 in
set_option maxHeartbeats 4000000 in
theorem c1_widthInTheWay (hl : l.stackTraces = false) (hS : ShS E G a) (hA : Abs I a r) (hW : WF r) (f m : Int32) : z_CR E l mX1_widthInTheWay 1 [.ref a, .int f, .int m] G I sz (.int (p_ww r f m)) := by
  obtain ⟨h0, h1, h2, h3, hT⟩ := id hS
  obtain ⟨⟨⟨g3, g4, g5, g6, g9, g10⟩, g78⟩, gb, gs, gt⟩ := id hA
  obtain ⟨⟨hc6, hc0⟩, -⟩ := id hW
  have loop : ∀ (n t : Nat) (x : Int32), cnt r = t + n → p_wwn r f m n t x = p_ww r f m → z_V E l mX1_widthInTheWay (z_rm 1 0 0) 0 0 (z_q (fun v' G' I' sz' => v' = some (.int (p_ww r f m)) ∧ G' = G ∧ I' = I ∧ sz' = sz)) 0 0 G I sz 5 [some (.ref a), some (.int f), some (.int m), some (.int x), some (.int (nI t))] [] := by
    intro n
    induction n with
    | zero =>
      intro t x ht hp
      refine v_iload (pc' := 7) dX1_widthInTheWay_5 rfl rfl ?_
      refine v_aload_n (pc' := 8) dX1_widthInTheWay_7 rfl rfl ?_
      refine g_X1_32 (pc' := 11) rfl dX1_widthInTheWay_8 (by assumption) rfl ?_
      refine v_icmp_ge (tgt := 55) (pc' := 14) dX1_widthInTheWay_11 (by decide) rfl (fun c_11 => ?_) (fun c_11 => ?_)
      · refine v_iload_n (pc' := 56) dX1_widthInTheWay_55 rfl rfl ?_
        exact v_iret dX1_widthInTheWay_56 rfl (Nat.le_refl _) (Nat.le_refl _) (z_rdi hp)
      · exact absurd (by rw [g3, hc0, ht]; exact nI_le (by omega) (by omega)) c_11
    | succ n ih =>
      intro t x ht hp
      refine v_iload (pc' := 7) dX1_widthInTheWay_5 rfl rfl ?_
      refine v_aload_n (pc' := 8) dX1_widthInTheWay_7 rfl rfl ?_
      refine g_X1_32 (pc' := 11) rfl dX1_widthInTheWay_8 (by assumption) rfl ?_
      refine v_icmp_ge (tgt := 55) (pc' := 14) dX1_widthInTheWay_11 (by decide) rfl (fun c_11 => ?_) (fun c_11 => ?_)
      · rw [g3, hc0, ht] at c_11
        exact absurd c_11 (nI_ge (by omega) (by omega))
      · refine v_iload (pc' := 16) dX1_widthInTheWay_14 rfl rfl ?_
        refine v_bipush (pc' := 18) dX1_widthInTheWay_16 kb_6 rfl ?_
        refine v_icmp_ge (tgt := 55) (pc' := 21) dX1_widthInTheWay_18 (by decide) rfl (fun c_18 => ?_) (fun c_18 => ?_)
        · exact absurd c_18 (nI_ge (b := 6) (by omega) (by decide))
        · refine v_aload_n (pc' := 22) dX1_widthInTheWay_21 rfl rfl ?_
          refine g_X1_11 (pc' := 25) rfl dX1_widthInTheWay_22 (by assumption) rfl ?_
          refine v_iload (pc' := 27) dX1_widthInTheWay_25 rfl rfl ?_
          refine v_aald (t := 4) (pc' := 28) rfl dX1_widthInTheWay_27 (t) rfl (by assumption) (by omega) (by decide) rfl ?_
          refine v_iload_n (pc' := 29) dX1_widthInTheWay_28 rfl rfl ?_
          refine v_iload_n (pc' := 30) dX1_widthInTheWay_29 rfl rfl ?_
          refine v_cVR (pc' := 33) (c2_takesOneOf hl (hT t (by omega)) f m) dX1_widthInTheWay_30 lk_X1_141 mwX2_takesOneOf miX2_takesOneOf (hT t (by omega)) rfl rfl rfl rfl (by decide) (Nat.le_of_ble_eq_true rfl) rfl ?_
          refine v_if_eq (tgt := 49) (pc' := 36) dX1_widthInTheWay_33 (by decide) rfl (fun c_33 => ?_) (fun c_33 => ?_)
          · rw [z_b_eq0, (gt t (by omega)).one f m] at c_33
            rw [p_wwn, c_33] at hp
            refine v_iinc4 (pc' := 52) dX1_widthInTheWay_49 (by decide) rfl kc_1 (nI_1 t) rfl ?_
            refine v_goto (tgt := 5) dX1_widthInTheWay_52 (by decide) ?_
            exact ih (t + 1) _ (by omega) hp
          · rw [z_b_ne0, (gt t (by omega)).one f m] at c_33
            rw [p_wwn, if_pos c_33] at hp
            refine v_iload_n (pc' := 37) dX1_widthInTheWay_36 rfl rfl ?_
            refine v_aload_n (pc' := 38) dX1_widthInTheWay_37 rfl rfl ?_
            refine g_X1_11 (pc' := 41) rfl dX1_widthInTheWay_38 (by assumption) rfl ?_
            refine v_iload (pc' := 43) dX1_widthInTheWay_41 rfl rfl ?_
            refine v_aald (t := 4) (pc' := 44) rfl dX1_widthInTheWay_43 (t) rfl (by assumption) (by omega) (by decide) rfl ?_
            skip
            refine g_X1_110 (pc' := 47) rfl dX1_widthInTheWay_44 (hT t (by omega)) rfl ?_
            rw [(gt t (by omega)).1]
            refine v_iadd (pc' := 48) dX1_widthInTheWay_47 rfl ?_
            refine v_istore_n3 (pc' := 49) dX1_widthInTheWay_48 (by decide) rfl rfl ?_
            refine v_iinc4 (pc' := 52) dX1_widthInTheWay_49 (by decide) rfl kc_1 (nI_1 t) rfl ?_
            refine v_goto (tgt := 5) dX1_widthInTheWay_52 (by decide) ?_
            exact ih (t + 1) _ (by omega) hp
  refine z_Ct.of hl pn_X1 [some (.ref a), some (.int f), some (.int m), none, none] rfl (Nat.le_of_ble_eq_true rfl) ?_
  refine v_iconst (pc' := 1) dX1_widthInTheWay_0 kc_0 rfl ?_
  refine v_istore_n3 (pc' := 2) dX1_widthInTheWay_1 (by decide) rfl rfl ?_
  refine v_iconst (pc' := 3) dX1_widthInTheWay_2 kc_0 rfl ?_
  refine v_istore4 (pc' := 5) dX1_widthInTheWay_3 (by decide) rfl rfl ?_
  exact loop (cnt r) 0 0 (by omega) rfl
set_option maxRecDepth 20000 in
set_option maxHeartbeats 4000000 in
theorem c1_easiestWindow (hl : l.stackTraces = false) (hS : ShS E G a) (hA : Abs I a r) (hW : WF r) (w : Nat) (hw : 1 ≤ w ∧ w ≤ 12) : z_CR E l mX1_easiestWindow 5 [.ref a, .int (nI w)] G I sz (.int (p_winn r w (13 - w) 0 (-1) 0)) := by
  obtain ⟨h0, h1, h2, h3, hT⟩ := id hS
  obtain ⟨⟨⟨g3, g4, g5, g6, g9, g10⟩, g78⟩, gb, gs, gt⟩ := id hA
  obtain ⟨⟨hc6, hc0⟩, -⟩ := id hW
  have loop : ∀ (n t : Nat) (b9 x : Int32) (o : Option Value), z_c1 o = true → 13 = t + w + n → p_winn r w n t b9 x = p_winn r w (13 - w) 0 (-1) 0 → z_V E l mX1_easiestWindow (z_rm 5 0 0) 0 0 (z_q (fun v' G' I' sz' => v' = some (.int (p_winn r w (13 - w) 0 (-1) 0)) ∧ G' = G ∧ I' = I ∧ sz' = sz)) 0 0 G I sz 7 [some (.ref a), some (.int (nI w)), some (.int b9), some (.int x), some (.int (nI t)), o] [] := by
    intro n
    induction n with
    | zero =>
      intro t b9 x o ho ht hp
      refine v_iload (pc' := 9) dX1_easiestWindow_7 rfl rfl ?_
      refine v_iload_n (pc' := 10) dX1_easiestWindow_9 rfl rfl ?_
      refine v_iadd (pc' := 11) dX1_easiestWindow_10 rfl ?_
      refine v_bipush (pc' := 13) dX1_easiestWindow_11 kb_12 rfl ?_
      rw [nI_add]
      refine v_icmp_gt (tgt := 58) (pc' := 16) dX1_easiestWindow_13 (by decide) rfl (fun c_13 => ?_) (fun c_13 => ?_)
      · refine v_iload_n (pc' := 59) dX1_easiestWindow_58 rfl rfl ?_
        exact v_iret dX1_easiestWindow_59 rfl (Nat.le_refl _) (Nat.le_refl _) (z_rdi hp)
      · exact absurd (nI_lt (a := 12) (by omega) (by omega)) c_13
    | succ n ih =>
      intro t b9 x o ho ht hp
      refine v_iload (pc' := 9) dX1_easiestWindow_7 rfl rfl ?_
      refine v_iload_n (pc' := 10) dX1_easiestWindow_9 rfl rfl ?_
      refine v_iadd (pc' := 11) dX1_easiestWindow_10 rfl ?_
      refine v_bipush (pc' := 13) dX1_easiestWindow_11 kb_12 rfl ?_
      rw [nI_add]
      refine v_icmp_gt (tgt := 58) (pc' := 16) dX1_easiestWindow_13 (by decide) rfl (fun c_13 => ?_) (fun c_13 => ?_)
      · exact absurd c_13 (nI_nlt (b := t + w) (a := 12) (by omega) (by omega))
      · refine v_aload_n (pc' := 17) dX1_easiestWindow_16 rfl rfl ?_
        refine v_iload (pc' := 19) dX1_easiestWindow_17 rfl rfl ?_
        refine v_iload_n (pc' := 20) dX1_easiestWindow_19 rfl rfl ?_
        refine v_cVR (pc' := 23) (c1_canBeMadeFree hl hS hA hW t w (by omega)) dX1_easiestWindow_20 lk_X1_135 mwX1_canBeMadeFree miX1_canBeMadeFree h0 rfl rfl rfl rfl (by decide) (Nat.le_of_ble_eq_true rfl) rfl ?_
        refine v_if_eq (tgt := 52) (pc' := 26) dX1_easiestWindow_23 (by decide) rfl (fun c_23 => ?_) (fun c_23 => ?_)
        · rw [z_b_eq0] at c_23
          rw [p_winn, if_neg (fun q9 => by rw [c_23] at q9; cases q9.1)] at hp
          refine v_iinc4 (pc' := 55) dX1_easiestWindow_52 (by decide) rfl kc_1 (nI_1 t) rfl ?_
          refine v_goto (tgt := 7) dX1_easiestWindow_55 (by decide) ?_
          exact ih (t + 1) _ _ _ (by first | rfl | exact ho) (by omega) hp
        · rw [z_b_ne0] at c_23
          refine v_aload_n (pc' := 27) dX1_easiestWindow_26 rfl rfl ?_
          refine v_iload (pc' := 29) dX1_easiestWindow_27 rfl rfl ?_
          refine v_iload_n (pc' := 30) dX1_easiestWindow_29 rfl rfl ?_
          refine v_cVR (pc' := 33) (c1_widthInTheWay hl hS hA hW (nI t) (nI w)) dX1_easiestWindow_30 lk_X1_138 mwX1_widthInTheWay miX1_widthInTheWay h0 rfl rfl rfl rfl (by decide) (Nat.le_of_ble_eq_true rfl) rfl ?_
          refine v_istore5 (pc' := 35) dX1_easiestWindow_33 (by decide) rfl rfl ?_
          refine v_iload_n (pc' := 36) dX1_easiestWindow_35 rfl rfl ?_
          refine v_iconst (pc' := 37) dX1_easiestWindow_36 kc_m1 rfl ?_
          refine v_icmp_eq (tgt := 46) (pc' := 40) dX1_easiestWindow_37 (by decide) rfl (fun c_37 => ?_) (fun c_37 => ?_)
          · rw [p_winn, if_pos (And.intro c_23 (Or.inl c_37))] at hp
            refine v_iload (pc' := 48) dX1_easiestWindow_46 rfl rfl ?_
            refine v_istore_n2 (pc' := 49) dX1_easiestWindow_48 (by decide) rfl rfl ?_
            refine v_iload (pc' := 51) dX1_easiestWindow_49 rfl rfl ?_
            refine v_istore_n3 (pc' := 52) dX1_easiestWindow_51 (by decide) rfl rfl ?_
            refine v_iinc4 (pc' := 55) dX1_easiestWindow_52 (by decide) rfl kc_1 (nI_1 t) rfl ?_
            refine v_goto (tgt := 7) dX1_easiestWindow_55 (by decide) ?_
            exact ih (t + 1) _ _ _ (by first | rfl | exact ho) (by omega) hp
          · refine v_iload (pc' := 42) dX1_easiestWindow_40 rfl rfl ?_
            refine v_iload_n (pc' := 43) dX1_easiestWindow_42 rfl rfl ?_
            refine v_icmp_ge (tgt := 52) (pc' := 46) dX1_easiestWindow_43 (by decide) rfl (fun c_43 => ?_) (fun c_43 => ?_)
            · rw [← Int32.not_lt] at c_43
              rw [p_winn, if_neg (fun q9 => q9.2.elim c_37 c_43)] at hp
              refine v_iinc4 (pc' := 55) dX1_easiestWindow_52 (by decide) rfl kc_1 (nI_1 t) rfl ?_
              refine v_goto (tgt := 7) dX1_easiestWindow_55 (by decide) ?_
              exact ih (t + 1) _ _ _ (by first | rfl | exact ho) (by omega) hp
            · rw [Int32.not_le] at c_43
              rw [p_winn, if_pos (And.intro c_23 (Or.inr c_43))] at hp
              refine v_iload (pc' := 48) dX1_easiestWindow_46 rfl rfl ?_
              refine v_istore_n2 (pc' := 49) dX1_easiestWindow_48 (by decide) rfl rfl ?_
              refine v_iload (pc' := 51) dX1_easiestWindow_49 rfl rfl ?_
              refine v_istore_n3 (pc' := 52) dX1_easiestWindow_51 (by decide) rfl rfl ?_
              refine v_iinc4 (pc' := 55) dX1_easiestWindow_52 (by decide) rfl kc_1 (nI_1 t) rfl ?_
              refine v_goto (tgt := 7) dX1_easiestWindow_55 (by decide) ?_
              exact ih (t + 1) _ _ _ (by first | rfl | exact ho) (by omega) hp
  refine z_Ct.of hl pn_X1 [some (.ref a), some (.int (nI w)), none, none, none, none] rfl (Nat.le_of_ble_eq_true rfl) ?_
  refine v_iconst (pc' := 1) dX1_easiestWindow_0 kc_m1 rfl ?_
  refine v_istore_n2 (pc' := 2) dX1_easiestWindow_1 (by decide) rfl rfl ?_
  refine v_iconst (pc' := 3) dX1_easiestWindow_2 kc_0 rfl ?_
  refine v_istore_n3 (pc' := 4) dX1_easiestWindow_3 (by decide) rfl rfl ?_
  refine v_iconst (pc' := 5) dX1_easiestWindow_4 kc_0 rfl ?_
  refine v_istore4 (pc' := 7) dX1_easiestWindow_5 (by decide) rfl rfl ?_
  exact loop (13 - w) 0 _ _ none rfl (by omega) rfl
set_option maxRecDepth 20000 in
set_option maxHeartbeats 4000000 in
theorem c1_canStop (hl : l.stackTraces = false) (hS : ShS E G a) (hA : Abs I a r) (hW : WF r) (t : Int32) : z_CR E l mX1_canStop 2 [.ref a, .int t] G I sz (.int (z_b (p_cans r t))) := by
  obtain ⟨h0, h1, h2, h3, hT⟩ := id hS
  obtain ⟨⟨⟨g3, g4, g5, g6, g9, g10⟩, g78⟩, gb, gs, gt⟩ := id hA
  obtain ⟨⟨hc6, hc0⟩, -⟩ := id hW
  rcases nI_isTask hW (t := t) with ⟨hi, u, hu, hu6, rfl⟩ | hi
  · have g := gt u hu
    have hcl : (nI u).toNatClampNeg = u := nI_clamp (by omega)
    refine z_Ct.of hl pn_X1 [some (.ref a), some (.int (nI u)), none] rfl (Nat.le_of_ble_eq_true rfl) ?_
    refine v_aload_n (pc' := 1) dX1_canStop_0 rfl rfl ?_
    refine v_iload_n (pc' := 2) dX1_canStop_1 rfl rfl ?_
    refine v_cVR (pc' := 5) (c1_taskNumbered hl hS hA hW u hu rfl) dX1_canStop_2 lk_X1_64 mwX1_taskNumbered miX1_taskNumbered h0 rfl rfl rfl rfl (by decide) (Nat.le_of_ble_eq_true rfl) rfl ?_
    refine v_astore_n2 (pc' := 6) dX1_canStop_5 (by decide) rfl rfl ?_
    refine v_aload_n (pc' := 7) dX1_canStop_6 rfl rfl ?_
    refine v_ifnull (pc' := 10) dX1_canStop_7 rfl ?_
    refine v_aload_n (pc' := 11) dX1_canStop_10 rfl rfl ?_
    refine g_X1_80 (pc' := 14) rfl dX1_canStop_11 (hT u hu6) rfl ?_
    refine v_iconst (pc' := 15) dX1_canStop_14 kc_2 rfl ?_
    refine v_icmp_ne (tgt := 30) (pc' := 18) dX1_canStop_15 (by decide) rfl (fun c_15 => ?_) (fun c_15 => ?_)
    · rw [g.2.2.2.2.2.1] at c_15
      refine v_iconst (pc' := 31) dX1_canStop_30 kc_0 rfl ?_
      exact v_zret dX1_canStop_31 rfl (Nat.le_refl _) (Nat.le_refl _) rfl (z_rdi (by first | (simp [p_cans, z_b, hi, hcl, c_15]; done) | (simp [p_cans, z_b, hi, hcl, c_15, c_23]; done) | (simp [p_cans, z_b, hi, hcl, c_15, Ne.symm c_23]; done) | (simp [p_cans, z_b, hi, hcl, c_15, fun q9 => c_23 (Eq.symm q9)]; done)))
    · rw [g.2.2.2.2.2.1] at c_15
      refine v_iload_n (pc' := 19) dX1_canStop_18 rfl rfl ?_
      refine v_aload_n (pc' := 20) dX1_canStop_19 rfl rfl ?_
      refine g_X1_55 (pc' := 23) rfl dX1_canStop_20 (by assumption) rfl ?_
      refine v_icmp_eq (tgt := 30) (pc' := 26) dX1_canStop_23 (by decide) rfl (fun c_23 => ?_) (fun c_23 => ?_)
      · rw [g6] at c_23
        refine v_iconst (pc' := 31) dX1_canStop_30 kc_0 rfl ?_
        exact v_zret dX1_canStop_31 rfl (Nat.le_refl _) (Nat.le_refl _) rfl (z_rdi (by first | (simp [p_cans, z_b, hi, hcl, c_15]; done) | (simp [p_cans, z_b, hi, hcl, c_15, c_23]; done) | (simp [p_cans, z_b, hi, hcl, c_15, Ne.symm c_23]; done) | (simp [p_cans, z_b, hi, hcl, c_15, fun q9 => c_23 (Eq.symm q9)]; done)))
      · rw [g6] at c_23
        refine v_iconst (pc' := 27) dX1_canStop_26 kc_1 rfl ?_
        refine v_goto (tgt := 31) dX1_canStop_27 (by decide) ?_
        exact v_zret dX1_canStop_31 rfl (Nat.le_refl _) (Nat.le_refl _) rfl (z_rdi (by first | (simp [p_cans, z_b, hi, hcl, c_15]; done) | (simp [p_cans, z_b, hi, hcl, c_15, c_23]; done) | (simp [p_cans, z_b, hi, hcl, c_15, Ne.symm c_23]; done) | (simp [p_cans, z_b, hi, hcl, c_15, fun q9 => c_23 (Eq.symm q9)]; done)))
  · refine z_Ct.of hl pn_X1 [some (.ref a), some (.int t), none] rfl (Nat.le_of_ble_eq_true rfl) ?_
    refine v_aload_n (pc' := 1) dX1_canStop_0 rfl rfl ?_
    refine v_iload_n (pc' := 2) dX1_canStop_1 rfl rfl ?_
    refine v_cVR (pc' := 5) (c1_taskNone hl hS hA hW t hi) dX1_canStop_2 lk_X1_64 mwX1_taskNumbered miX1_taskNumbered h0 rfl rfl rfl rfl (by decide) (Nat.le_of_ble_eq_true rfl) rfl ?_
    refine v_astoreN_n2 (pc' := 6) dX1_canStop_5 (by decide) rfl rfl ?_
    refine v_aloadN_n (pc' := 7) dX1_canStop_6 rfl rfl ?_
    refine v_ifnullN (tgt := 30) dX1_canStop_7 (by decide) ?_
    refine v_iconst (pc' := 31) dX1_canStop_30 kc_0 rfl ?_
    exact v_zret dX1_canStop_31 rfl (Nat.le_refl _) (Nat.le_refl _) rfl (z_rdi (by simp [p_cans, hi, z_b]))

set_option maxRecDepth 20000 in
set_option maxHeartbeats 4000000 in
theorem c1_canBring1 (hl : l.stackTraces = false) (hS : ShS E G a) (hA : Abs I a r) (hW : WF r) (u s w : Nat) (hu : u < cnt r) (hu6 : u < 6) (hs : p_isStripe (nI s) = true) (hs12 : s < 12) (h5 : r 5 = -1) (w6 : w ≤ 6) (ew : tf r u 0 = nI w) : z_CR E l mX1_canBring 4 [.ref a, .int (nI u), .int (nI s)] G I sz (.int (z_b (decide (s + w ≤ 12) && p_fitn r (nI u) w s))) := by
  obtain ⟨h0, h1, h2, h3, hT⟩ := id hS
  obtain ⟨⟨⟨g3, g4, g5, g6, g9, g10⟩, g78⟩, gb, gs, gt⟩ := id hA
  obtain ⟨⟨hc6, hc0⟩, -⟩ := id hW
  have g := gt u hu
  have loop : ∀ (n k : Nat) (o : Option Value), z_c1 o = true → s + w = k + n → k ≤ 12 → (decide (k + n ≤ 12) && p_fitn r (nI u) n k) = (decide (s + w ≤ 12) && p_fitn r (nI u) w s) → z_V E l mX1_canBring (z_rm 4 0 0) 0 0 (z_q (fun v' G' I' sz' => v' = some (.int (z_b (decide (s + w ≤ 12) && p_fitn r (nI u) w s))) ∧ G' = G ∧ I' = I ∧ sz' = sz)) 0 0 G I sz 29 [some (.ref a), some (.int (nI u)), some (.int (nI s)), some (.ref (a + 4 + 1 * u)), some (.int (nI k)), o] [] := by
    intro n
    induction n with
    | zero =>
      intro k o ho ht hk12 hp
      refine v_iload (pc' := 31) dX1_canBring_29 rfl rfl ?_
      refine v_iload_n (pc' := 32) dX1_canBring_31 rfl rfl ?_
      refine v_aload_n (pc' := 33) dX1_canBring_32 rfl rfl ?_
      refine g_X1_110 (pc' := 36) rfl dX1_canBring_33 (hT u hu6) rfl ?_
      rw [g.1, ew]
      refine v_iadd (pc' := 37) dX1_canBring_36 rfl ?_
      rw [nI_add]
      refine v_icmp_ge (tgt := 77) (pc' := 40) dX1_canBring_37 (by decide) rfl (fun c_37 => ?_) (fun c_37 => ?_)
      · refine v_iconst (pc' := 78) dX1_canBring_77 kc_1 rfl ?_
        exact v_zret dX1_canBring_78 rfl (Nat.le_refl _) (Nat.le_refl _) rfl (z_rdi (by rw [← hp]; simp [p_fitn, z_b]; omega))
      · exact absurd (nI_le (by omega) (by omega)) c_37
    | succ n ih =>
      intro k o ho ht hk12 hp
      by_cases hk : 12 ≤ k
      · refine v_iload (pc' := 31) dX1_canBring_29 rfl rfl ?_
        refine v_iload_n (pc' := 32) dX1_canBring_31 rfl rfl ?_
        refine v_aload_n (pc' := 33) dX1_canBring_32 rfl rfl ?_
        refine g_X1_110 (pc' := 36) rfl dX1_canBring_33 (hT u hu6) rfl ?_
        rw [g.1, ew]
        refine v_iadd (pc' := 37) dX1_canBring_36 rfl ?_
        rw [nI_add]
        refine v_icmp_ge (tgt := 77) (pc' := 40) dX1_canBring_37 (by decide) rfl (fun c_37 => ?_) (fun c_37 => ?_)
        · exact absurd c_37 (nI_ge (by omega) (by omega))
        · refine v_aload_n (pc' := 41) dX1_canBring_40 rfl rfl ?_
          refine v_iload (pc' := 43) dX1_canBring_41 rfl rfl ?_
          refine v_cVR (pc' := 46) (c1_takerOf hl hS hA hW (nI k)) dX1_canBring_43 lk_X1_116 mwX1_takerOf miX1_takerOf h0 rfl rfl rfl rfl (by decide) (Nat.le_of_ble_eq_true rfl) rfl ?_
          refine v_istore5 (pc' := 48) dX1_canBring_46 (by decide) rfl rfl ?_
          refine v_aload_n (pc' := 49) dX1_canBring_48 rfl rfl ?_
          refine v_iload (pc' := 51) dX1_canBring_49 rfl rfl ?_
          refine v_cVR (pc' := 54) (c1_isGoodOut hl hS hA hW _ (p_isStripe_out (s := k) (by omega) (by omega))) dX1_canBring_51 lk_X1_113 mwX1_isGood miX1_isGood h0 rfl rfl rfl rfl (by decide) (Nat.le_of_ble_eq_true rfl) rfl ?_
          refine v_if_eq (tgt := 69) (pc' := 57) dX1_canBring_54 (by decide) rfl (fun c_54 => ?_) (fun c_54 => ?_)
          · refine v_iconst (pc' := 70) dX1_canBring_69 kc_0 rfl ?_
            exact v_zret dX1_canBring_70 rfl (Nat.le_refl _) (Nat.le_refl _) rfl (z_rdi (by rw [← hp, decide_eq_false (show ¬ k + (n + 1) ≤ 12 by omega)]; rfl))
          · exact absurd rfl c_54
      · refine v_iload (pc' := 31) dX1_canBring_29 rfl rfl ?_
        refine v_iload_n (pc' := 32) dX1_canBring_31 rfl rfl ?_
        refine v_aload_n (pc' := 33) dX1_canBring_32 rfl rfl ?_
        refine g_X1_110 (pc' := 36) rfl dX1_canBring_33 (hT u hu6) rfl ?_
        rw [g.1, ew]
        refine v_iadd (pc' := 37) dX1_canBring_36 rfl ?_
        rw [nI_add]
        refine v_icmp_ge (tgt := 77) (pc' := 40) dX1_canBring_37 (by decide) rfl (fun c_37 => ?_) (fun c_37 => ?_)
        · exact absurd c_37 (nI_ge (by omega) (by omega))
        · refine v_aload_n (pc' := 41) dX1_canBring_40 rfl rfl ?_
          refine v_iload (pc' := 43) dX1_canBring_41 rfl rfl ?_
          refine v_cVR (pc' := 46) (c1_takerOf hl hS hA hW (nI k)) dX1_canBring_43 lk_X1_116 mwX1_takerOf miX1_takerOf h0 rfl rfl rfl rfl (by decide) (Nat.le_of_ble_eq_true rfl) rfl ?_
          refine v_istore5 (pc' := 48) dX1_canBring_46 (by decide) rfl rfl ?_
          refine v_aload_n (pc' := 49) dX1_canBring_48 rfl rfl ?_
          refine v_iload (pc' := 51) dX1_canBring_49 rfl rfl ?_
          refine v_cVR (pc' := 54) (c1_isGood hl hS hA hW k (by omega) rfl) dX1_canBring_51 lk_X1_113 mwX1_isGood miX1_isGood h0 rfl rfl rfl rfl (by decide) (Nat.le_of_ble_eq_true rfl) rfl ?_
          refine v_if_eq (tgt := 69) (pc' := 57) dX1_canBring_54 (by decide) rfl (fun c_54 => ?_) (fun c_54 => ?_)
          · rw [z_b_eq0, decide_eq_false_iff_not] at c_54
            have q1 := (hW.2.2.2.1 k (by omega)).resolve_left c_54
            rw [p_fitn, if_pos (by simp [q1])] at hp
            refine v_iconst (pc' := 70) dX1_canBring_69 kc_0 rfl ?_
            exact v_zret dX1_canBring_70 rfl (Nat.le_refl _) (Nat.le_refl _) rfl (z_rdi (by rw [← hp]; simp [z_b]))
          · rw [z_b_ne0, decide_eq_true_eq] at c_54
            have q1 : ¬ r (11 + k) = 1 := by rw [c_54]; decide
            refine v_iload (pc' := 59) dX1_canBring_57 rfl rfl ?_
            refine v_iconst (pc' := 60) dX1_canBring_59 kc_m1 rfl ?_
            refine v_icmp_eq (tgt := 71) (pc' := 63) dX1_canBring_60 (by decide) rfl (fun c_60 => ?_) (fun c_60 => ?_)
            · rw [p_fitn, if_neg (by simp [q1, c_60])] at hp
              refine v_iinc4 (pc' := 74) dX1_canBring_71 (by decide) rfl kc_1 (nI_1 k) rfl ?_
              refine v_goto (tgt := 29) dX1_canBring_74 (by decide) ?_
              exact ih (k + 1) _ rfl (by omega) (by omega) (by rw [← hp, show k + 1 + n = k + (n + 1) by omega])
            · refine v_iload (pc' := 65) dX1_canBring_63 rfl rfl ?_
              refine v_iload_n (pc' := 66) dX1_canBring_65 rfl rfl ?_
              refine v_icmp_eq (tgt := 71) (pc' := 69) dX1_canBring_66 (by decide) rfl (fun c_66 => ?_) (fun c_66 => ?_)
              · rw [p_fitn, if_neg (by simp [q1, c_66])] at hp
                refine v_iinc4 (pc' := 74) dX1_canBring_71 (by decide) rfl kc_1 (nI_1 k) rfl ?_
                refine v_goto (tgt := 29) dX1_canBring_74 (by decide) ?_
                exact ih (k + 1) _ rfl (by omega) (by omega) (by rw [← hp, show k + 1 + n = k + (n + 1) by omega])
              · rw [p_fitn, if_pos (by simp [q1, c_60, c_66])] at hp
                refine v_iconst (pc' := 70) dX1_canBring_69 kc_0 rfl ?_
                exact v_zret dX1_canBring_70 rfl (Nat.le_refl _) (Nat.le_refl _) rfl (z_rdi (by rw [← hp]; simp [z_b]))
  refine z_Ct.of hl pn_X1 [some (.ref a), some (.int (nI u)), some (.int (nI s)), none, none, none] rfl (Nat.le_of_ble_eq_true rfl) ?_
  refine v_aload_n (pc' := 1) dX1_canBring_0 rfl rfl ?_
  refine v_iload_n (pc' := 2) dX1_canBring_1 rfl rfl ?_
  refine v_cVR (pc' := 5) (c1_taskNumbered hl hS hA hW u hu rfl) dX1_canBring_2 lk_X1_64 mwX1_taskNumbered miX1_taskNumbered h0 rfl rfl rfl rfl (by decide) (Nat.le_of_ble_eq_true rfl) rfl ?_
  refine v_astore_n3 (pc' := 6) dX1_canBring_5 (by decide) rfl rfl ?_
  refine v_aload_n (pc' := 7) dX1_canBring_6 rfl rfl ?_
  refine v_ifnull (pc' := 10) dX1_canBring_7 rfl ?_
  refine v_iload_n (pc' := 11) dX1_canBring_10 rfl rfl ?_
  refine v_cSNR (pc' := 14) (c4_isStripe hl (nI s)) dX1_canBring_11 lk_X1_100 mwX4_isStripe msX4_isStripe rfl rfl (by decide) (Nat.le_of_ble_eq_true rfl) rfl ?_
  refine v_if_eq (tgt := 24) (pc' := 17) dX1_canBring_14 (by decide) rfl (fun c_14 => ?_) (fun c_14 => ?_)
  · rw [z_b_eq0, hs] at c_14
    cases c_14
  · refine v_aload_n (pc' := 18) dX1_canBring_17 rfl rfl ?_
    refine v_cVR (pc' := 21) (c1_isIdle hl hS hA hW) dX1_canBring_18 lk_X1_147 mwX1_isIdle miX1_isIdle h0 rfl rfl rfl rfl (by decide) (Nat.le_of_ble_eq_true rfl) rfl ?_
    refine v_if_ne (tgt := 26) (pc' := 24) dX1_canBring_21 (by decide) rfl (fun c_21 => ?_) (fun c_21 => ?_)
    · skip
      refine v_iload_n (pc' := 27) dX1_canBring_26 rfl rfl ?_
      refine v_istore4 (pc' := 29) dX1_canBring_27 (by decide) rfl rfl ?_
      exact loop w s none rfl rfl (by omega) rfl
    · rw [h5] at c_21
      exact absurd c_21 (by decide)
set_option maxRecDepth 20000 in
set_option maxHeartbeats 4000000 in
theorem c1_canBring (hl : l.stackTraces = false) (hS : ShS E G a) (hA : Abs I a r) (hW : WF r) (t3 s3 : Int32) : z_CR E l mX1_canBring 4 [.ref a, .int t3, .int s3] G I sz (.int (z_b (p_canb r t3 s3))) := by
  obtain ⟨h0, h1, h2, h3, hT⟩ := id hS
  obtain ⟨⟨⟨g3, g4, g5, g6, g9, g10⟩, g78⟩, gb, gs, gt⟩ := id hA
  obtain ⟨⟨hc6, hc0⟩, -⟩ := id hW
  rcases nI_isTask hW (t := t3) with ⟨hi, u, hu, hu6, rfl⟩ | hi
  · have hcl : (nI u).toNatClampNeg = u := nI_clamp (by omega)
    obtain ⟨w, w1, w6, ew⟩ := WF_w hW hu
    by_cases hs : p_isStripe s3 = true
    · by_cases h5 : r 5 = -1
      · obtain ⟨s, hs12, rfl⟩ := p_isStripe_nI hs
        have hcs : (nI s).toNatClampNeg = s := nI_clamp (by omega)
        have hv : p_canb r (nI u) (nI s) = (decide (s + w ≤ 12) && p_fitn r (nI u) w s) := by
          simp only [p_canb, hi, hs, h5, hcl, hcs, ew, nI_clamp (show w < 2 ^ 31 by omega), nI_add, decide_true, Bool.true_and]
          rw [show (12 : Int32) = nI 12 from rfl, decide_eq_decide.mpr (nI_leI (show s + w < 2 ^ 31 by omega) (by omega))]
        rw [hv]
        exact c1_canBring1 hl hS hA hW u s w hu hu6 hs hs12 h5 w6 ew
      · have hv : p_canb r (nI u) s3 = false := by simp [p_canb, h5]
        rw [hv]
        refine z_Ct.of hl pn_X1 [some (.ref a), some (.int (nI u)), some (.int s3), none, none, none] rfl (Nat.le_of_ble_eq_true rfl) ?_
        refine v_aload_n (pc' := 1) dX1_canBring_0 rfl rfl ?_
        refine v_iload_n (pc' := 2) dX1_canBring_1 rfl rfl ?_
        refine v_cVR (pc' := 5) (c1_taskNumbered hl hS hA hW u hu rfl) dX1_canBring_2 lk_X1_64 mwX1_taskNumbered miX1_taskNumbered h0 rfl rfl rfl rfl (by decide) (Nat.le_of_ble_eq_true rfl) rfl ?_
        refine v_astore_n3 (pc' := 6) dX1_canBring_5 (by decide) rfl rfl ?_
        refine v_aload_n (pc' := 7) dX1_canBring_6 rfl rfl ?_
        refine v_ifnull (pc' := 10) dX1_canBring_7 rfl ?_
        refine v_iload_n (pc' := 11) dX1_canBring_10 rfl rfl ?_
        refine v_cSNR (pc' := 14) (c4_isStripe hl s3) dX1_canBring_11 lk_X1_100 mwX4_isStripe msX4_isStripe rfl rfl (by decide) (Nat.le_of_ble_eq_true rfl) rfl ?_
        refine v_if_eq (tgt := 24) (pc' := 17) dX1_canBring_14 (by decide) rfl (fun c_14 => ?_) (fun c_14 => ?_)
        · rw [z_b_eq0, hs] at c_14
          cases c_14
        · refine v_aload_n (pc' := 18) dX1_canBring_17 rfl rfl ?_
          refine v_cVR (pc' := 21) (c1_isIdle hl hS hA hW) dX1_canBring_18 lk_X1_147 mwX1_isIdle miX1_isIdle h0 rfl rfl rfl rfl (by decide) (Nat.le_of_ble_eq_true rfl) rfl ?_
          refine v_if_ne (tgt := 26) (pc' := 24) dX1_canBring_21 (by decide) rfl (fun c_21 => ?_) (fun c_21 => ?_)
          · rw [decide_eq_false h5] at c_21
            exact absurd rfl c_21
          · refine v_iconst (pc' := 25) dX1_canBring_24 kc_0 rfl ?_
            exact v_zret dX1_canBring_25 rfl (Nat.le_refl _) (Nat.le_refl _) rfl (z_rdi rfl)
    · have hs' : p_isStripe s3 = false := by simpa using hs
      have hv : p_canb r (nI u) s3 = false := by simp [p_canb, hs']
      rw [hv]
      refine z_Ct.of hl pn_X1 [some (.ref a), some (.int (nI u)), some (.int s3), none, none, none] rfl (Nat.le_of_ble_eq_true rfl) ?_
      refine v_aload_n (pc' := 1) dX1_canBring_0 rfl rfl ?_
      refine v_iload_n (pc' := 2) dX1_canBring_1 rfl rfl ?_
      refine v_cVR (pc' := 5) (c1_taskNumbered hl hS hA hW u hu rfl) dX1_canBring_2 lk_X1_64 mwX1_taskNumbered miX1_taskNumbered h0 rfl rfl rfl rfl (by decide) (Nat.le_of_ble_eq_true rfl) rfl ?_
      refine v_astore_n3 (pc' := 6) dX1_canBring_5 (by decide) rfl rfl ?_
      refine v_aload_n (pc' := 7) dX1_canBring_6 rfl rfl ?_
      refine v_ifnull (pc' := 10) dX1_canBring_7 rfl ?_
      refine v_iload_n (pc' := 11) dX1_canBring_10 rfl rfl ?_
      refine v_cSNR (pc' := 14) (c4_isStripe hl s3) dX1_canBring_11 lk_X1_100 mwX4_isStripe msX4_isStripe rfl rfl (by decide) (Nat.le_of_ble_eq_true rfl) rfl ?_
      refine v_if_eq (tgt := 24) (pc' := 17) dX1_canBring_14 (by decide) rfl (fun c_14 => ?_) (fun c_14 => ?_)
      · refine v_iconst (pc' := 25) dX1_canBring_24 kc_0 rfl ?_
        exact v_zret dX1_canBring_25 rfl (Nat.le_refl _) (Nat.le_refl _) rfl (z_rdi rfl)
      · rw [z_b_ne0, hs'] at c_14
        cases c_14
  · have hv : p_canb r t3 s3 = false := by simp [p_canb, hi]
    rw [hv]
    refine z_Ct.of hl pn_X1 [some (.ref a), some (.int t3), some (.int s3), none, none, none] rfl (Nat.le_of_ble_eq_true rfl) ?_
    refine v_aload_n (pc' := 1) dX1_canBring_0 rfl rfl ?_
    refine v_iload_n (pc' := 2) dX1_canBring_1 rfl rfl ?_
    refine v_cVR (pc' := 5) (c1_taskNone hl hS hA hW t3 hi) dX1_canBring_2 lk_X1_64 mwX1_taskNumbered miX1_taskNumbered h0 rfl rfl rfl rfl (by decide) (Nat.le_of_ble_eq_true rfl) rfl ?_
    refine v_astoreN_n3 (pc' := 6) dX1_canBring_5 (by decide) rfl rfl ?_
    refine v_aloadN_n (pc' := 7) dX1_canBring_6 rfl rfl ?_
    refine v_ifnullN (tgt := 24) dX1_canBring_7 (by decide) ?_
    refine v_iconst (pc' := 25) dX1_canBring_24 kc_0 rfl ?_
    exact v_zret dX1_canBring_25 rfl (Nat.le_refl _) (Nat.le_refl _) rfl (z_rdi rfl)

end CLS2
