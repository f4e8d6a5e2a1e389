/-! THE CLASS: where a text is wrong; commands done (written by wip/whole/gen_obey.py) -/
def p_err (T : Nat → Nat) (n : Nat) : Nat → Nat → Option Nat
  | 0, _ => none
  | f + 1, k => if k < n then (if (p_cmd T n k).1.isSome then p_err T n f (p_cmd T n k).2 else some (p_cmd T n k).2) else none
def p_ep (T : Nat → Nat) (n : Nat) : Option Nat := if p_wrong T n then some 0 else p_err T n 120 1
section OBEY
variable {E : zE} {l : Launch} {G : zG} {I : zI} {sz a n : Nat} {T : Nat → Nat} {r : zR}
set_option maxRecDepth 20000 in
set_option maxHeartbeats 4000000 in
theorem c3_firstError (hl : l.stackTraces = false) (hS : ShT E G a) (hX : AbsX I a T n) : z_CI E l mX3_firstError 5 [.ref a] G I sz (fun x I' => x = rv (p_ep T n) ∧ FrT I I' a) := by
  obtain ⟨h0, h1⟩ := id hS
  obtain ⟨hn, gn, gc⟩ := id hX
  have loop : ∀ (f c k : Nat) (I1 : zI), 120 = c + f → FrT I I1 a → I1 a 2 = nI k → I1 a 3 = 0 → k ≤ n → p_err T n f k = p_ep T n → z_V E l mX3_firstError (z_rm 5 0 0) 0 0 (z_q (fun v' G' I' sz' => ∃ x, v' = some (.int x) ∧ G' = G ∧ sz' = sz ∧ (x = rv (p_ep T n) ∧ FrT I I' a))) 0 0 G I1 sz 6 [some (.ref a), some (.int (nI c))] [] := by
    intro f
    induction f with
    | zero =>
      intro c k I1 hc hF hat1 hw1 hk hp
      refine v_iload_n (pc' := 7) dX3_firstError_6 rfl rfl ?_
      refine v_bipush (pc' := 9) dX3_firstError_7 kb_120 rfl ?_
      refine v_icmp_ge (tgt := 25) (pc' := 12) dX3_firstError_9 (by decide) rfl (fun c_9 => ?_) (fun c_9 => ?_)
      · refine v_aload_n (pc' := 26) dX3_firstError_25 rfl rfl ?_
        refine g_X3_22 (pc' := 29) rfl dX3_firstError_26 (by assumption) rfl ?_
        rw [hw1]
        refine v_if_eq (tgt := 39) (pc' := 32) dX3_firstError_29 (by decide) rfl (fun c_29 => ?_) (fun c_29 => ?_)
        · refine v_iconst (pc' := 40) dX3_firstError_39 kc_m1 rfl ?_
          exact v_iret dX3_firstError_40 rfl (Nat.le_refl _) (Nat.le_refl _) ⟨_, rfl, rfl, rfl, by rw [← hp]; rfl, hF⟩
        · exact absurd rfl c_29
      · exact absurd (nI_le (a := 120) (by omega) (by omega)) c_9
    | succ f ih =>
      intro c k I1 hc hF hat1 hw1 hk hp
      have hX1 := hX.fr hF
      by_cases hk2 : k < n
      · by_cases hs : (p_cmd T n k).1.isSome = true
        · refine v_iload_n (pc' := 7) dX3_firstError_6 rfl rfl ?_
          refine v_bipush (pc' := 9) dX3_firstError_7 kb_120 rfl ?_
          refine v_icmp_ge (tgt := 25) (pc' := 12) dX3_firstError_9 (by decide) rfl (fun c_9 => ?_) (fun c_9 => ?_)
          · exact absurd c_9 (nI_ge (b := 120) (by omega) (by omega))
          · refine v_aload_n (pc' := 13) dX3_firstError_12 rfl rfl ?_
            refine v_cVI (pc' := 16) (c3_readCommand hl hS hX1 hw1 k hk2 hat1) dX3_firstError_13 lk_X3_42 mwX3_readCommand miX3_readCommand h0 rfl rfl rfl rfl (by decide) (Nat.le_of_ble_eq_true rfl) rfl ?_
            rintro _ I2 ⟨hF2, at2, w2, rfl, -⟩
            rw [hs] at w2 ⊢
            refine v_if_eq (tgt := 25) (pc' := 19) dX3_firstError_16 (by decide) rfl (fun c_16 => ?_) (fun c_16 => ?_)
            · exact absurd c_16 (by decide)
            · refine v_iinc1 (pc' := 22) dX3_firstError_19 (by decide) rfl kc_1 (nI_1 c) rfl ?_
              refine v_goto (tgt := 6) dX3_firstError_22 (by decide) ?_
              exact ih (c + 1) _ I2 (by omega) (hF.tr hF2) at2 w2 (p_cmd_le hk2).2.1 (by rw [← hp, p_err, if_pos hk2, if_pos hs])
        · have hs' : (p_cmd T n k).1.isSome = false := by simpa using hs
          refine v_iload_n (pc' := 7) dX3_firstError_6 rfl rfl ?_
          refine v_bipush (pc' := 9) dX3_firstError_7 kb_120 rfl ?_
          refine v_icmp_ge (tgt := 25) (pc' := 12) dX3_firstError_9 (by decide) rfl (fun c_9 => ?_) (fun c_9 => ?_)
          · exact absurd c_9 (nI_ge (b := 120) (by omega) (by omega))
          · refine v_aload_n (pc' := 13) dX3_firstError_12 rfl rfl ?_
            refine v_cVI (pc' := 16) (c3_readCommand hl hS hX1 hw1 k hk2 hat1) dX3_firstError_13 lk_X3_42 mwX3_readCommand miX3_readCommand h0 rfl rfl rfl rfl (by decide) (Nat.le_of_ble_eq_true rfl) rfl ?_
            rintro _ I2 ⟨hF2, at2, w2, rfl, -⟩
            rw [hs'] at w2 ⊢
            refine v_if_eq (tgt := 25) (pc' := 19) dX3_firstError_16 (by decide) rfl (fun c_16 => ?_) (fun c_16 => ?_)
            · refine v_aload_n (pc' := 26) dX3_firstError_25 rfl rfl ?_
              refine g_X3_22 (pc' := 29) rfl dX3_firstError_26 (by assumption) rfl ?_
              rw [w2]
              refine v_if_eq (tgt := 39) (pc' := 32) dX3_firstError_29 (by decide) rfl (fun c_29 => ?_) (fun c_29 => ?_)
              · exact absurd c_29 (by decide)
              · refine v_aload_n (pc' := 33) dX3_firstError_32 rfl rfl ?_
                refine g_X3_19 (pc' := 36) rfl dX3_firstError_33 (by assumption) rfl ?_
                rw [at2]
                refine v_goto (tgt := 40) dX3_firstError_36 (by decide) ?_
                exact v_iret dX3_firstError_40 rfl (Nat.le_refl _) (Nat.le_refl _) ⟨_, rfl, rfl, rfl, by rw [← hp, p_err, if_pos hk2, if_neg hs]; rfl, hF.tr hF2⟩
            · exact absurd rfl c_16
      · refine v_iload_n (pc' := 7) dX3_firstError_6 rfl rfl ?_
        refine v_bipush (pc' := 9) dX3_firstError_7 kb_120 rfl ?_
        refine v_icmp_ge (tgt := 25) (pc' := 12) dX3_firstError_9 (by decide) rfl (fun c_9 => ?_) (fun c_9 => ?_)
        · exact absurd c_9 (nI_ge (b := 120) (by omega) (by omega))
        · refine v_aload_n (pc' := 13) dX3_firstError_12 rfl rfl ?_
          refine v_cVI (pc' := 16) (c3_readCommandE hl hS hX1 hw1 k hk hk2 hat1) dX3_firstError_13 lk_X3_42 mwX3_readCommand miX3_readCommand h0 rfl rfl rfl rfl (by decide) (Nat.le_of_ble_eq_true rfl) rfl ?_
          rintro _ _ ⟨rfl, rfl⟩
          refine v_if_eq (tgt := 25) (pc' := 19) dX3_firstError_16 (by decide) rfl (fun c_16 => ?_) (fun c_16 => ?_)
          · refine v_aload_n (pc' := 26) dX3_firstError_25 rfl rfl ?_
            refine g_X3_22 (pc' := 29) rfl dX3_firstError_26 (by assumption) rfl ?_
            rw [hw1]
            refine v_if_eq (tgt := 39) (pc' := 32) dX3_firstError_29 (by decide) rfl (fun c_29 => ?_) (fun c_29 => ?_)
            · refine v_iconst (pc' := 40) dX3_firstError_39 kc_m1 rfl ?_
              exact v_iret dX3_firstError_40 rfl (Nat.le_refl _) (Nat.le_refl _) ⟨_, rfl, rfl, rfl, by rw [← hp, p_err, if_neg hk2]; rfl, hF⟩
            · exact absurd rfl c_29
          · exact absurd rfl c_16
  have rest : ∀ I1, FrT I I1 a → I1 a 2 = nI (p_at0 T n) → I1 a 3 = z_b (p_wrong T n) → z_V E l mX3_firstError (z_rm 5 0 0) 0 0 (z_q (fun v' G' I' sz' => ∃ x, v' = some (.int x) ∧ G' = G ∧ sz' = sz ∧ (x = rv (p_ep T n) ∧ FrT I I' a))) 0 0 G I1 sz 4 [some (.ref a), none] [] := by
    intro I1 hF1 at1 w1
    cases hw : p_wrong T n with
    | false =>
      have he : p_err T n 120 1 = p_ep T n := by rw [p_ep, hw]; rfl
      have hn1 : 1 ≤ n := by
        rcases Nat.eq_zero_or_pos n with q | q
        · simp [p_wrong, q] at hw
        · exact q
      rw [p_at0, hw] at at1
      rw [hw] at w1
      refine v_iconst (pc' := 5) dX3_firstError_4 kc_0 rfl ?_
      refine v_istore_n1 (pc' := 6) dX3_firstError_5 (by decide) rfl rfl ?_
      exact loop 120 0 1 I1 (by omega) hF1 at1 w1 hn1 he
    | true =>
      rw [p_at0, hw] at at1
      rw [hw] at w1
      refine v_iconst (pc' := 5) dX3_firstError_4 kc_0 rfl ?_
      refine v_istore_n1 (pc' := 6) dX3_firstError_5 (by decide) rfl rfl ?_
      refine v_iload_n (pc' := 7) dX3_firstError_6 rfl rfl ?_
      refine v_bipush (pc' := 9) dX3_firstError_7 kb_120 rfl ?_
      refine v_icmp_ge (tgt := 25) (pc' := 12) dX3_firstError_9 (by decide) rfl (fun c_9 => ?_) (fun c_9 => ?_)
      · exact absurd c_9 (by decide)
      · refine v_aload_n (pc' := 13) dX3_firstError_12 rfl rfl ?_
        refine v_cVI (pc' := 16) (c3_readCommandW hl hS (hX.fr hF1) w1) dX3_firstError_13 lk_X3_42 mwX3_readCommand miX3_readCommand h0 rfl rfl rfl rfl (by decide) (Nat.le_of_ble_eq_true rfl) rfl ?_
        rintro _ _ ⟨rfl, rfl⟩
        refine v_if_eq (tgt := 25) (pc' := 19) dX3_firstError_16 (by decide) rfl (fun c_16 => ?_) (fun c_16 => ?_)
        · refine v_aload_n (pc' := 26) dX3_firstError_25 rfl rfl ?_
          refine g_X3_22 (pc' := 29) rfl dX3_firstError_26 (by assumption) rfl ?_
          rw [w1]
          refine v_if_eq (tgt := 39) (pc' := 32) dX3_firstError_29 (by decide) rfl (fun c_29 => ?_) (fun c_29 => ?_)
          · exact absurd c_29 (by decide)
          · refine v_aload_n (pc' := 33) dX3_firstError_32 rfl rfl ?_
            refine g_X3_19 (pc' := 36) rfl dX3_firstError_33 (by assumption) rfl ?_
            rw [at1]
            refine v_goto (tgt := 40) dX3_firstError_36 (by decide) ?_
            exact v_iret dX3_firstError_40 rfl (Nat.le_refl _) (Nat.le_refl _) ⟨_, rfl, rfl, rfl, by rw [p_ep, hw]; rfl, hF1⟩
        · exact absurd rfl c_16
  refine z_Ct.of hl pn_X3 [some (.ref a), none] rfl (Nat.le_of_ble_eq_true rfl) ?_
  refine v_aload_n (pc' := 1) dX3_firstError_0 rfl rfl ?_
  refine v_cVV (pc' := 4) (c3_beginReading hl hS hX) dX3_firstError_1 lk_X3_39 mwX3_beginReading miX3_beginReading h0 rfl rfl rfl rfl (by decide) (Nat.le_of_ble_eq_true rfl) rfl ?_
  rintro I1 ⟨hF1, at1, w1⟩
  exact rest I1 hF1 at1 w1
set_option maxRecDepth 20000 in
set_option maxHeartbeats 4000000 in
theorem c4_tryToMakeBad (hl : l.stackTraces = false) (hS : ShS E G a) (hA : Abs I a r) (hW : WF r) (s : Int32) : z_CI E l mX4_tryToMakeBad 6 [.ref a, .int s] G I sz (fun x I' => x = z_b (p_isStripe s) ∧ Abs I' a (t_bad r s) ∧ Fr I I' a) := by
  have h0 := hS.1
  refine z_Ct.of hl pn_X4 [some (.ref a), some (.int s)] rfl (Nat.le_of_ble_eq_true rfl) ?_
  refine v_iload_n (pc' := 1) dX4_tryToMakeBad_0 rfl rfl ?_
  refine v_cSR (pc' := 4) (c4_isStripe hl s) dX4_tryToMakeBad_1 lk_X4_144 mwX4_isStripe msX4_isStripe rfl rfl (by decide) (Nat.le_of_ble_eq_true rfl) rfl ?_
  refine v_if_ne (tgt := 9) (pc' := 7) dX4_tryToMakeBad_4 (by decide) rfl (fun c_4 => ?_) (fun c_4 => ?_)
  · rw [z_b_ne0] at c_4
    refine v_aload_n (pc' := 10) dX4_tryToMakeBad_9 rfl rfl ?_
    refine v_iload_n (pc' := 11) dX4_tryToMakeBad_10 rfl rfl ?_
    refine v_cVI (pc' := 14) (c1_tbad hl hS hA hW s) dX4_tryToMakeBad_11 lk_X4_210 mwX1_makeBad miX1_makeBad h0 rfl rfl rfl rfl (by decide) (Nat.le_of_ble_eq_true rfl) rfl ?_
    rintro x I2 ⟨-, hA2, hF2⟩
    refine v_pop (pc' := 15) dX4_tryToMakeBad_14 rfl rfl ?_
    refine v_iconst (pc' := 16) dX4_tryToMakeBad_15 kc_1 rfl ?_
    exact v_zret dX4_tryToMakeBad_16 rfl (Nat.le_refl _) (Nat.le_refl _) rfl ⟨_, rfl, rfl, rfl, by rw [c_4]; rfl, by first | exact hA2 | (rw [e]; exact hA), by first | exact hF2 | exact Fr.rf⟩
  · rw [z_b_eq0] at c_4
    have e : t_bad r s = r := by rw [t_bad, c_4]; rfl
    refine v_iconst (pc' := 8) dX4_tryToMakeBad_7 kc_0 rfl ?_
    exact v_zret dX4_tryToMakeBad_8 rfl (Nat.le_refl _) (Nat.le_refl _) rfl ⟨_, rfl, rfl, rfl, by rw [c_4]; rfl, by first | exact hA2 | (rw [e]; exact hA), by first | exact hF2 | exact Fr.rf⟩
set_option maxRecDepth 20000 in
set_option maxHeartbeats 4000000 in
theorem c4_obey_t (hl : l.stackTraces = false) (hS : ShS E G a) (hA : Abs I a r) (hW : WF r) (L u v : Nat) (v3 : Int32) (hc : L = 116) (hv : v3 = nI v) : z_CI E l mX4_obeyTextCommand 7 [.ref a, .int (nI L), .int (nI u), .int v3] G I sz (fun x I' => (x = z_b (p_obeyb r L u v) ∧ Abs I' a (p_obey r L u v) ∧ Fr I I' a)) := by
  have h0 := hS.1
  subst hv
  refine z_Ct.of hl pn_X4 [some (.ref a), some (.int (nI L)), some (.int (nI u)), some (.int (nI v))] rfl (Nat.le_of_ble_eq_true rfl) ?_
  refine v_iload_n (pc' := 1) dX4_obeyTextCommand_0 rfl rfl ?_
  refine v_lookup (tgt := 60) (off := 59) dX4_obeyTextCommand_1 rfl (by rw [hc, nI_toInt (by omega)]; simp only [Array.toList, Op.lookupswitch.offset]; repeat' first | omega | split) (by decide) ?_
  refine v_aload_n (pc' := 61) dX4_obeyTextCommand_60 rfl rfl ?_
  refine v_iload_n (pc' := 62) dX4_obeyTextCommand_61 rfl rfl ?_
  refine v_iload_n (pc' := 63) dX4_obeyTextCommand_62 rfl rfl ?_
  refine v_cVI (pc' := 66) (c1_tadd hl hS hA hW (nI u) (nI v)) dX4_obeyTextCommand_63 lk_X4_190 mwX1_addTask miX1_addTask h0 rfl rfl rfl rfl (by decide) (Nat.le_of_ble_eq_true rfl) rfl ?_
  rintro x I2 ⟨rfl, hA2, hF2⟩
  refine v_iconst (pc' := 67) dX4_obeyTextCommand_66 kc_m1 rfl ?_
  refine v_icmp_eq (tgt := 74) (pc' := 70) dX4_obeyTextCommand_67 (by decide) rfl (fun c_67 => ?_) (fun c_67 => ?_)
  · rw [t_addv_ne hW] at c_67
    refine v_iconst (pc' := 75) dX4_obeyTextCommand_74 kc_0 rfl ?_
    exact v_zret dX4_obeyTextCommand_75 rfl (Nat.le_refl _) (Nat.le_refl _) rfl ⟨_, rfl, rfl, rfl, by rw [p_obeyb, hc]; first | rfl | (show _ = z_b (decide (cnt r < 6)); simp [z_b, c_67]), by rw [p_obey, hc]; exact hA2, hF2⟩
  · rw [t_addv_ne hW] at c_67
    rw [Classical.not_not] at c_67
    refine v_iconst (pc' := 71) dX4_obeyTextCommand_70 kc_1 rfl ?_
    refine v_goto (tgt := 75) dX4_obeyTextCommand_71 (by decide) ?_
    exact v_zret dX4_obeyTextCommand_75 rfl (Nat.le_refl _) (Nat.le_refl _) rfl ⟨_, rfl, rfl, rfl, by rw [p_obeyb, hc]; first | rfl | (show _ = z_b (decide (cnt r < 6)); simp [z_b, c_67]), by rw [p_obey, hc]; exact hA2, hF2⟩
set_option maxRecDepth 20000 in
set_option maxHeartbeats 4000000 in
theorem c4_obey_l (hl : l.stackTraces = false) (hS : ShS E G a) (hA : Abs I a r) (hW : WF r) (L u v : Nat) (v3 : Int32) (hc : L = 108) (hv : v3 = nI v) : z_CI E l mX4_obeyTextCommand 7 [.ref a, .int (nI L), .int (nI u), .int v3] G I sz (fun x I' => (x = z_b (p_obeyb r L u v) ∧ Abs I' a (p_obey r L u v) ∧ Fr I I' a)) := by
  have h0 := hS.1
  subst hv
  refine z_Ct.of hl pn_X4 [some (.ref a), some (.int (nI L)), some (.int (nI u)), some (.int (nI v))] rfl (Nat.le_of_ble_eq_true rfl) ?_
  refine v_iload_n (pc' := 1) dX4_obeyTextCommand_0 rfl rfl ?_
  refine v_lookup (tgt := 76) (off := 75) dX4_obeyTextCommand_1 rfl (by rw [hc, nI_toInt (by omega)]; simp only [Array.toList, Op.lookupswitch.offset]; repeat' first | omega | split) (by decide) ?_
  refine v_aload_n (pc' := 77) dX4_obeyTextCommand_76 rfl rfl ?_
  refine v_iload_n (pc' := 78) dX4_obeyTextCommand_77 rfl rfl ?_
  refine v_iload_n (pc' := 79) dX4_obeyTextCommand_78 rfl rfl ?_
  refine v_cVI (pc' := 82) (c1_tjob hl hS hA hW (nI u) (nI v)) dX4_obeyTextCommand_79 lk_X4_201 mwX1_startJob miX1_startJob h0 rfl rfl rfl rfl (by decide) (Nat.le_of_ble_eq_true rfl) rfl ?_
  rintro x I2 ⟨rfl, hA2, hF2⟩
  refine v_iconst (pc' := 83) dX4_obeyTextCommand_82 kc_m1 rfl ?_
  refine v_icmp_eq (tgt := 90) (pc' := 86) dX4_obeyTextCommand_83 (by decide) rfl (fun c_83 => ?_) (fun c_83 => ?_)
  · rw [t_jobv_ne hW] at c_83
    refine v_iconst (pc' := 91) dX4_obeyTextCommand_90 kc_0 rfl ?_
    exact v_zret dX4_obeyTextCommand_91 rfl (Nat.le_refl _) (Nat.le_refl _) rfl ⟨_, rfl, rfl, rfl, by rw [p_obeyb, hc]; first | rfl | (show _ = z_b (p_canb r (nI u) (nI v)); simp [z_b, c_83]), by rw [p_obey, hc]; exact hA2, hF2⟩
  · rw [t_jobv_ne hW] at c_83
    rw [Classical.not_not] at c_83
    refine v_iconst (pc' := 87) dX4_obeyTextCommand_86 kc_1 rfl ?_
    refine v_goto (tgt := 91) dX4_obeyTextCommand_87 (by decide) ?_
    exact v_zret dX4_obeyTextCommand_91 rfl (Nat.le_refl _) (Nat.le_refl _) rfl ⟨_, rfl, rfl, rfl, by rw [p_obeyb, hc]; first | rfl | (show _ = z_b (p_canb r (nI u) (nI v)); simp [z_b, c_83]), by rw [p_obey, hc]; exact hA2, hF2⟩
set_option maxRecDepth 20000 in
set_option maxHeartbeats 4000000 in
theorem c4_obey_b (hl : l.stackTraces = false) (hS : ShS E G a) (hA : Abs I a r) (hW : WF r) (L u v : Nat) (v3 : Int32) (hc : L = 98) : z_CI E l mX4_obeyTextCommand 7 [.ref a, .int (nI L), .int (nI u), .int v3] G I sz (fun x I' => (x = z_b (p_obeyb r L u v) ∧ Abs I' a (p_obey r L u v) ∧ Fr I I' a)) := by
  have h0 := hS.1
  refine z_Ct.of hl pn_X4 [some (.ref a), some (.int (nI L)), some (.int (nI u)), some (.int v3)] rfl (Nat.le_of_ble_eq_true rfl) ?_
  refine v_iload_n (pc' := 1) dX4_obeyTextCommand_0 rfl rfl ?_
  refine v_lookup (tgt := 92) (off := 91) dX4_obeyTextCommand_1 rfl (by rw [hc, nI_toInt (by omega)]; simp only [Array.toList, Op.lookupswitch.offset]; repeat' first | omega | split) (by decide) ?_
  refine v_aload_n (pc' := 93) dX4_obeyTextCommand_92 rfl rfl ?_
  refine v_iload_n (pc' := 94) dX4_obeyTextCommand_93 rfl rfl ?_
  refine v_cSI (pc' := 97) (c4_tryToMakeBad hl hS hA hW (nI u)) dX4_obeyTextCommand_94 lk_X4_279 mwX4_tryToMakeBad msX4_tryToMakeBad rfl rfl (by decide) (Nat.le_of_ble_eq_true rfl) rfl ?_
  rintro x I2 ⟨rfl, hA2, hF2⟩
  exact v_zret dX4_obeyTextCommand_97 rfl (Nat.le_refl _) (Nat.le_refl _) (z_b_nar _) ⟨_, rfl, rfl, rfl, by rw [p_obeyb, hc]; rfl, by rw [p_obey, hc]; exact hA2, hF2⟩
set_option maxRecDepth 20000 in
set_option maxHeartbeats 4000000 in
theorem c4_obey_g (hl : l.stackTraces = false) (hS : ShS E G a) (hA : Abs I a r) (hW : WF r) (L u v : Nat) (v3 : Int32) (hc : L = 103) : z_CI E l mX4_obeyTextCommand 7 [.ref a, .int (nI L), .int (nI u), .int v3] G I sz (fun x I' => (x = z_b (p_obeyb r L u v) ∧ Abs I' a (p_obey r L u v) ∧ Fr I I' a)) := by
  have h0 := hS.1
  refine z_Ct.of hl pn_X4 [some (.ref a), some (.int (nI L)), some (.int (nI u)), some (.int v3)] rfl (Nat.le_of_ble_eq_true rfl) ?_
  refine v_iload_n (pc' := 1) dX4_obeyTextCommand_0 rfl rfl ?_
  refine v_lookup (tgt := 98) (off := 97) dX4_obeyTextCommand_1 rfl (by rw [hc, nI_toInt (by omega)]; simp only [Array.toList, Op.lookupswitch.offset]; repeat' first | omega | split) (by decide) ?_
  refine v_aload_n (pc' := 99) dX4_obeyTextCommand_98 rfl rfl ?_
  refine v_iload_n (pc' := 100) dX4_obeyTextCommand_99 rfl rfl ?_
  refine v_cVI (pc' := 103) (c1_tmend hl hS hA hW (nI u)) dX4_obeyTextCommand_100 lk_X4_213 mwX1_makeGood miX1_makeGood h0 rfl rfl rfl rfl (by decide) (Nat.le_of_ble_eq_true rfl) rfl ?_
  rintro x I2 ⟨rfl, hA2, hF2⟩
  refine v_iconst (pc' := 104) dX4_obeyTextCommand_103 kc_m1 rfl ?_
  refine v_icmp_eq (tgt := 111) (pc' := 107) dX4_obeyTextCommand_104 (by decide) rfl (fun c_104 => ?_) (fun c_104 => ?_)
  · rw [t_mendv_ne hW] at c_104
    refine v_iconst (pc' := 112) dX4_obeyTextCommand_111 kc_0 rfl ?_
    exact v_zret dX4_obeyTextCommand_112 rfl (Nat.le_refl _) (Nat.le_refl _) rfl ⟨_, rfl, rfl, rfl, by rw [p_obeyb, hc]; first | rfl | (show _ = z_b (p_isStripe (nI u)); simp [z_b, c_104]), by rw [p_obey, hc]; exact hA2, hF2⟩
  · rw [t_mendv_ne hW] at c_104
    rw [Classical.not_not] at c_104
    refine v_iconst (pc' := 108) dX4_obeyTextCommand_107 kc_1 rfl ?_
    refine v_goto (tgt := 112) dX4_obeyTextCommand_108 (by decide) ?_
    exact v_zret dX4_obeyTextCommand_112 rfl (Nat.le_refl _) (Nat.le_refl _) rfl ⟨_, rfl, rfl, rfl, by rw [p_obeyb, hc]; first | rfl | (show _ = z_b (p_isStripe (nI u)); simp [z_b, c_104]), by rw [p_obey, hc]; exact hA2, hF2⟩
set_option maxRecDepth 20000 in
set_option maxHeartbeats 4000000 in
theorem c4_obey_s (hl : l.stackTraces = false) (hS : ShS E G a) (hA : Abs I a r) (hW : WF r) (L u v : Nat) (v3 : Int32) (hc : L = 115) : z_CI E l mX4_obeyTextCommand 7 [.ref a, .int (nI L), .int (nI u), .int v3] G I sz (fun x I' => (x = z_b (p_obeyb r L u v) ∧ Abs I' a (p_obey r L u v) ∧ Fr I I' a)) := by
  have h0 := hS.1
  refine z_Ct.of hl pn_X4 [some (.ref a), some (.int (nI L)), some (.int (nI u)), some (.int v3)] rfl (Nat.le_of_ble_eq_true rfl) ?_
  refine v_iload_n (pc' := 1) dX4_obeyTextCommand_0 rfl rfl ?_
  refine v_lookup (tgt := 113) (off := 112) dX4_obeyTextCommand_1 rfl (by rw [hc, nI_toInt (by omega)]; simp only [Array.toList, Op.lookupswitch.offset]; repeat' first | omega | split) (by decide) ?_
  refine v_aload_n (pc' := 114) dX4_obeyTextCommand_113 rfl rfl ?_
  refine v_iload_n (pc' := 115) dX4_obeyTextCommand_114 rfl rfl ?_
  refine v_cVI (pc' := 118) (c1_tstop hl hS hA hW (nI u)) dX4_obeyTextCommand_115 lk_X4_207 mwX1_stopTask miX1_stopTask h0 rfl rfl rfl rfl (by decide) (Nat.le_of_ble_eq_true rfl) rfl ?_
  rintro x I2 ⟨rfl, hA2, hF2⟩
  refine v_iconst (pc' := 119) dX4_obeyTextCommand_118 kc_m1 rfl ?_
  refine v_icmp_eq (tgt := 126) (pc' := 122) dX4_obeyTextCommand_119 (by decide) rfl (fun c_119 => ?_) (fun c_119 => ?_)
  · rw [t_stopv_ne hW] at c_119
    refine v_iconst (pc' := 127) dX4_obeyTextCommand_126 kc_0 rfl ?_
    exact v_zret dX4_obeyTextCommand_127 rfl (Nat.le_refl _) (Nat.le_refl _) rfl ⟨_, rfl, rfl, rfl, by rw [p_obeyb, hc]; first | rfl | (show _ = z_b (p_cans r (nI u)); simp [z_b, c_119]), by rw [p_obey, hc]; exact hA2, hF2⟩
  · rw [t_stopv_ne hW] at c_119
    rw [Classical.not_not] at c_119
    refine v_iconst (pc' := 123) dX4_obeyTextCommand_122 kc_1 rfl ?_
    refine v_goto (tgt := 127) dX4_obeyTextCommand_123 (by decide) ?_
    exact v_zret dX4_obeyTextCommand_127 rfl (Nat.le_refl _) (Nat.le_refl _) rfl ⟨_, rfl, rfl, rfl, by rw [p_obeyb, hc]; first | rfl | (show _ = z_b (p_cans r (nI u)); simp [z_b, c_119]), by rw [p_obey, hc]; exact hA2, hF2⟩
set_option maxRecDepth 20000 in
set_option maxHeartbeats 4000000 in
theorem c4_obey_w (hl : l.stackTraces = false) (hS : ShS E G a) (hA : Abs I a r) (hW : WF r) (L u v : Nat) (v3 : Int32) (hc : L = 119) : z_CI E l mX4_obeyTextCommand 7 [.ref a, .int (nI L), .int (nI u), .int v3] G I sz (fun x I' => (x = z_b (p_obeyb r L u v) ∧ Abs I' a (p_obey r L u v) ∧ Fr I I' a)) := by
  have h0 := hS.1
  refine z_Ct.of hl pn_X4 [some (.ref a), some (.int (nI L)), some (.int (nI u)), some (.int v3)] rfl (Nat.le_of_ble_eq_true rfl) ?_
  refine v_iload_n (pc' := 1) dX4_obeyTextCommand_0 rfl rfl ?_
  refine v_lookup (tgt := 128) (off := 127) dX4_obeyTextCommand_1 rfl (by rw [hc, nI_toInt (by omega)]; simp only [Array.toList, Op.lookupswitch.offset]; repeat' first | omega | split) (by decide) ?_
  refine v_aload_n (pc' := 129) dX4_obeyTextCommand_128 rfl rfl ?_
  refine v_iload_n (pc' := 130) dX4_obeyTextCommand_129 rfl rfl ?_
  refine v_cVI (pc' := 133) (c1_trun hl hS hA hW (nI u)) dX4_obeyTextCommand_130 lk_X4_216 mwX1_passTicks miX1_passTicks h0 rfl rfl rfl rfl (by decide) (Nat.le_of_ble_eq_true rfl) rfl ?_
  rintro x I2 ⟨rfl, hA2, hF2⟩
  refine v_iconst (pc' := 134) dX4_obeyTextCommand_133 kc_m1 rfl ?_
  refine v_icmp_eq (tgt := 141) (pc' := 137) dX4_obeyTextCommand_134 (by decide) rfl (fun c_134 => ?_) (fun c_134 => ?_)
  · rw [t_runv_ne hW] at c_134
    refine v_iconst (pc' := 142) dX4_obeyTextCommand_141 kc_0 rfl ?_
    exact v_zret dX4_obeyTextCommand_142 rfl (Nat.le_refl _) (Nat.le_refl _) rfl ⟨_, rfl, rfl, rfl, by rw [p_obeyb, hc]; first | rfl | (show _ = z_b (z_in (nI u) 1 60); simp [z_b, c_134]), by rw [p_obey, hc]; exact hA2, hF2⟩
  · rw [t_runv_ne hW] at c_134
    rw [Classical.not_not] at c_134
    refine v_iconst (pc' := 138) dX4_obeyTextCommand_137 kc_1 rfl ?_
    refine v_goto (tgt := 142) dX4_obeyTextCommand_138 (by decide) ?_
    exact v_zret dX4_obeyTextCommand_142 rfl (Nat.le_refl _) (Nat.le_refl _) rfl ⟨_, rfl, rfl, rfl, by rw [p_obeyb, hc]; first | rfl | (show _ = z_b (z_in (nI u) 1 60); simp [z_b, c_134]), by rw [p_obey, hc]; exact hA2, hF2⟩
theorem c4_obey (hl : l.stackTraces = false) (hS : ShS E G a) (hA : Abs I a r) (hW : WF r) (L u v : Nat) (v3 : Int32) (hv : (L = 116 ∨ L = 108) → v3 = nI v) (hL : L = 116 ∨ L = 108 ∨ L = 98 ∨ L = 103 ∨ L = 115 ∨ L = 119) : z_CI E l mX4_obeyTextCommand 7 [.ref a, .int (nI L), .int (nI u), .int v3] G I sz (fun x I' => (x = z_b (p_obeyb r L u v) ∧ Abs I' a (p_obey r L u v) ∧ Fr I I' a)) := by
  rcases hL with q | q | q | q | q | q
  · exact c4_obey_t hl hS hA hW L u v v3 q (hv (Or.inl q))
  · exact c4_obey_l hl hS hA hW L u v v3 q (hv (Or.inr q))
  · exact c4_obey_b hl hS hA hW L u v v3 q
  · exact c4_obey_g hl hS hA hW L u v v3 q
  · exact c4_obey_s hl hS hA hW L u v v3 q
  · exact c4_obey_w hl hS hA hW L u v v3 q
def q_turn (r : zR) (x : Nat) : zR :=
  if x % 8 = 0 then t_add r (nI (1 + x / 8 % 6)) (nI (x / 8 / 8 % 997)) else if x % 8 = 1 ∨ x % 8 = 2 then t_job r (nI (x / 8 % 6)) (nI (x / 8 / 8 % 12)) else if x % 8 = 3 then (if x / 8 / 16 % 4 = 0 then t_bad r (nI (x / 8 % 12)) else t_mend r (nI (x / 8 % 12))) else if x % 8 = 4 then t_stop r (nI (x / 8 % 6)) else t_run r (nI (1 + x / 8 % 20))
theorem dv {a d : Nat} (ha : a < 2 ^ 31) (h0 : 0 < d) (hd : d < 2 ^ 31) : nI a / nI d = nI (a / d) := pk_div ha h0 hd
theorem rm {a d : Nat} (ha : a < 2 ^ 31) (h0 : 0 < d) (hd : d < 2 ^ 31) : nI a - nI a / nI d * nI d = nI (a % d) := pk_rem ha h0 hd
set_option maxRecDepth 20000 in
set_option maxHeartbeats 4000000 in
theorem c4_turn_0 (hl : l.stackTraces = false) (hS : ShS E G a) (hA : Abs I a r) (hW : WF r) (x : Nat) (hx : x < 2 ^ 31) (hc : x % 8 = 0) : z_CV E l mX4_takeTurn 6 [.ref a, .int (nI x)] G I sz (fun I' => Abs I' a (q_turn r x) ∧ Fr I I' a) := by
  have h0 := hS.1
  refine z_Ct.of hl pn_X4 [some (.ref a), some (.int (nI x)), none] rfl (Nat.le_of_ble_eq_true rfl) ?_
  refine v_iload_n (pc' := 1) dX4_takeTurn_0 rfl rfl ?_
  refine v_bipush (pc' := 3) dX4_takeTurn_1 kb_8 rfl ?_
  refine v_idiv (pc' := 4) dX4_takeTurn_3 (by decide) rfl ?_
  rw [show nI (x) / (8 : Int32) = nI ((x) / 8) from pk_div (d := 8) (by omega) (by omega) (by omega)]
  refine v_istore_n2 (pc' := 5) dX4_takeTurn_4 (by decide) rfl rfl ?_
  refine v_iload_n (pc' := 6) dX4_takeTurn_5 rfl rfl ?_
  refine v_bipush (pc' := 8) dX4_takeTurn_6 kb_8 rfl ?_
  refine v_irem (pc' := 9) dX4_takeTurn_8 (by decide) rfl ?_
  rw [show nI (x) - nI (x) / (8 : Int32) * 8 = nI ((x) % 8) from pk_rem (d := 8) (by omega) (by omega) (by omega)]
  refine v_tableIn (tgt := 44) 0 dX4_takeTurn_9 (by rw [nI_toInt (by omega)]; omega) (by decide) rfl (by decide) ?_
  refine v_aload_n (pc' := 45) dX4_takeTurn_44 rfl rfl ?_
  refine v_iconst (pc' := 46) dX4_takeTurn_45 kc_1 rfl ?_
  refine v_iload_n (pc' := 47) dX4_takeTurn_46 rfl rfl ?_
  refine v_bipush (pc' := 49) dX4_takeTurn_47 kb_6 rfl ?_
  refine v_irem (pc' := 50) dX4_takeTurn_49 (by decide) rfl ?_
  rw [show nI (x / 8) - nI (x / 8) / (6 : Int32) * 6 = nI ((x / 8) % 6) from pk_rem (d := 6) (by omega) (by omega) (by omega)]
  refine v_iadd (pc' := 51) dX4_takeTurn_50 rfl ?_
  rw [show (1 + nI (x / 8 % 6) : Int32) = nI (1 + x / 8 % 6) from nI_add 1 _]
  refine v_iload_n (pc' := 52) dX4_takeTurn_51 rfl rfl ?_
  refine v_bipush (pc' := 54) dX4_takeTurn_52 kb_8 rfl ?_
  refine v_idiv (pc' := 55) dX4_takeTurn_54 (by decide) rfl ?_
  rw [show nI (x / 8) / (8 : Int32) = nI ((x / 8) / 8) from pk_div (d := 8) (by omega) (by omega) (by omega)]
  refine v_sipush (pc' := 58) dX4_takeTurn_55 ks_997 rfl ?_
  refine v_irem (pc' := 59) dX4_takeTurn_58 (by decide) rfl ?_
  rw [show nI (x / 8 / 8) - nI (x / 8 / 8) / (997 : Int32) * 997 = nI ((x / 8 / 8) % 997) from pk_rem (d := 997) (by omega) (by omega) (by omega)]
  refine v_cVI (pc' := 62) (c1_tadd hl hS hA hW (nI (1 + x / 8 % 6)) (nI (x / 8 / 8 % 997))) dX4_takeTurn_59 lk_X4_190 mwX1_addTask miX1_addTask h0 rfl rfl rfl rfl (by decide) (Nat.le_of_ble_eq_true rfl) rfl ?_
  rintro x9 I2 ⟨rfl, hA2, hF2⟩
  refine v_pop (pc' := 63) dX4_takeTurn_62 rfl rfl ?_
  refine v_goto (tgt := 141) dX4_takeTurn_63 (by decide) ?_
  exact v_vret dX4_takeTurn_141 rfl (Nat.le_refl _) (Nat.le_refl _) ⟨rfl, rfl, rfl, by rw [q_turn, if_pos hc]; exact hA2, hF2⟩
set_option maxRecDepth 20000 in
set_option maxHeartbeats 4000000 in
theorem c4_turn_1 (hl : l.stackTraces = false) (hS : ShS E G a) (hA : Abs I a r) (hW : WF r) (x : Nat) (hx : x < 2 ^ 31) (hc : x % 8 = 1) : z_CV E l mX4_takeTurn 6 [.ref a, .int (nI x)] G I sz (fun I' => Abs I' a (q_turn r x) ∧ Fr I I' a) := by
  have h0 := hS.1
  refine z_Ct.of hl pn_X4 [some (.ref a), some (.int (nI x)), none] rfl (Nat.le_of_ble_eq_true rfl) ?_
  refine v_iload_n (pc' := 1) dX4_takeTurn_0 rfl rfl ?_
  refine v_bipush (pc' := 3) dX4_takeTurn_1 kb_8 rfl ?_
  refine v_idiv (pc' := 4) dX4_takeTurn_3 (by decide) rfl ?_
  rw [show nI (x) / (8 : Int32) = nI ((x) / 8) from pk_div (d := 8) (by omega) (by omega) (by omega)]
  refine v_istore_n2 (pc' := 5) dX4_takeTurn_4 (by decide) rfl rfl ?_
  refine v_iload_n (pc' := 6) dX4_takeTurn_5 rfl rfl ?_
  refine v_bipush (pc' := 8) dX4_takeTurn_6 kb_8 rfl ?_
  refine v_irem (pc' := 9) dX4_takeTurn_8 (by decide) rfl ?_
  rw [show nI (x) - nI (x) / (8 : Int32) * 8 = nI ((x) % 8) from pk_rem (d := 8) (by omega) (by omega) (by omega)]
  refine v_tableIn (tgt := 66) 1 dX4_takeTurn_9 (by rw [nI_toInt (by omega)]; omega) (by decide) rfl (by decide) ?_
  refine v_aload_n (pc' := 67) dX4_takeTurn_66 rfl rfl ?_
  refine v_iload_n (pc' := 68) dX4_takeTurn_67 rfl rfl ?_
  refine v_bipush (pc' := 70) dX4_takeTurn_68 kb_6 rfl ?_
  refine v_irem (pc' := 71) dX4_takeTurn_70 (by decide) rfl ?_
  rw [show nI (x / 8) - nI (x / 8) / (6 : Int32) * 6 = nI ((x / 8) % 6) from pk_rem (d := 6) (by omega) (by omega) (by omega)]
  refine v_iload_n (pc' := 72) dX4_takeTurn_71 rfl rfl ?_
  refine v_bipush (pc' := 74) dX4_takeTurn_72 kb_8 rfl ?_
  refine v_idiv (pc' := 75) dX4_takeTurn_74 (by decide) rfl ?_
  rw [show nI (x / 8) / (8 : Int32) = nI ((x / 8) / 8) from pk_div (d := 8) (by omega) (by omega) (by omega)]
  refine v_bipush (pc' := 77) dX4_takeTurn_75 kb_12 rfl ?_
  refine v_irem (pc' := 78) dX4_takeTurn_77 (by decide) rfl ?_
  rw [show nI (x / 8 / 8) - nI (x / 8 / 8) / (12 : Int32) * 12 = nI ((x / 8 / 8) % 12) from pk_rem (d := 12) (by omega) (by omega) (by omega)]
  refine v_cVI (pc' := 81) (c1_tjob hl hS hA hW (nI (x / 8 % 6)) (nI (x / 8 / 8 % 12))) dX4_takeTurn_78 lk_X4_201 mwX1_startJob miX1_startJob h0 rfl rfl rfl rfl (by decide) (Nat.le_of_ble_eq_true rfl) rfl ?_
  rintro x9 I2 ⟨rfl, hA2, hF2⟩
  refine v_pop (pc' := 82) dX4_takeTurn_81 rfl rfl ?_
  refine v_goto (tgt := 141) dX4_takeTurn_82 (by decide) ?_
  exact v_vret dX4_takeTurn_141 rfl (Nat.le_refl _) (Nat.le_refl _) ⟨rfl, rfl, rfl, by rw [q_turn, if_neg (by omega), if_pos (by omega)]; exact hA2, hF2⟩
set_option maxRecDepth 20000 in
set_option maxHeartbeats 4000000 in
theorem c4_turn_2 (hl : l.stackTraces = false) (hS : ShS E G a) (hA : Abs I a r) (hW : WF r) (x : Nat) (hx : x < 2 ^ 31) (hc : x % 8 = 2) : z_CV E l mX4_takeTurn 6 [.ref a, .int (nI x)] G I sz (fun I' => Abs I' a (q_turn r x) ∧ Fr I I' a) := by
  have h0 := hS.1
  refine z_Ct.of hl pn_X4 [some (.ref a), some (.int (nI x)), none] rfl (Nat.le_of_ble_eq_true rfl) ?_
  refine v_iload_n (pc' := 1) dX4_takeTurn_0 rfl rfl ?_
  refine v_bipush (pc' := 3) dX4_takeTurn_1 kb_8 rfl ?_
  refine v_idiv (pc' := 4) dX4_takeTurn_3 (by decide) rfl ?_
  rw [show nI (x) / (8 : Int32) = nI ((x) / 8) from pk_div (d := 8) (by omega) (by omega) (by omega)]
  refine v_istore_n2 (pc' := 5) dX4_takeTurn_4 (by decide) rfl rfl ?_
  refine v_iload_n (pc' := 6) dX4_takeTurn_5 rfl rfl ?_
  refine v_bipush (pc' := 8) dX4_takeTurn_6 kb_8 rfl ?_
  refine v_irem (pc' := 9) dX4_takeTurn_8 (by decide) rfl ?_
  rw [show nI (x) - nI (x) / (8 : Int32) * 8 = nI ((x) % 8) from pk_rem (d := 8) (by omega) (by omega) (by omega)]
  refine v_tableIn (tgt := 66) 2 dX4_takeTurn_9 (by rw [nI_toInt (by omega)]; omega) (by decide) rfl (by decide) ?_
  refine v_aload_n (pc' := 67) dX4_takeTurn_66 rfl rfl ?_
  refine v_iload_n (pc' := 68) dX4_takeTurn_67 rfl rfl ?_
  refine v_bipush (pc' := 70) dX4_takeTurn_68 kb_6 rfl ?_
  refine v_irem (pc' := 71) dX4_takeTurn_70 (by decide) rfl ?_
  rw [show nI (x / 8) - nI (x / 8) / (6 : Int32) * 6 = nI ((x / 8) % 6) from pk_rem (d := 6) (by omega) (by omega) (by omega)]
  refine v_iload_n (pc' := 72) dX4_takeTurn_71 rfl rfl ?_
  refine v_bipush (pc' := 74) dX4_takeTurn_72 kb_8 rfl ?_
  refine v_idiv (pc' := 75) dX4_takeTurn_74 (by decide) rfl ?_
  rw [show nI (x / 8) / (8 : Int32) = nI ((x / 8) / 8) from pk_div (d := 8) (by omega) (by omega) (by omega)]
  refine v_bipush (pc' := 77) dX4_takeTurn_75 kb_12 rfl ?_
  refine v_irem (pc' := 78) dX4_takeTurn_77 (by decide) rfl ?_
  rw [show nI (x / 8 / 8) - nI (x / 8 / 8) / (12 : Int32) * 12 = nI ((x / 8 / 8) % 12) from pk_rem (d := 12) (by omega) (by omega) (by omega)]
  refine v_cVI (pc' := 81) (c1_tjob hl hS hA hW (nI (x / 8 % 6)) (nI (x / 8 / 8 % 12))) dX4_takeTurn_78 lk_X4_201 mwX1_startJob miX1_startJob h0 rfl rfl rfl rfl (by decide) (Nat.le_of_ble_eq_true rfl) rfl ?_
  rintro x9 I2 ⟨rfl, hA2, hF2⟩
  refine v_pop (pc' := 82) dX4_takeTurn_81 rfl rfl ?_
  refine v_goto (tgt := 141) dX4_takeTurn_82 (by decide) ?_
  exact v_vret dX4_takeTurn_141 rfl (Nat.le_refl _) (Nat.le_refl _) ⟨rfl, rfl, rfl, by rw [q_turn, if_neg (by omega), if_pos (by omega)]; exact hA2, hF2⟩
set_option maxRecDepth 20000 in
set_option maxHeartbeats 4000000 in
theorem c4_turn_3 (hl : l.stackTraces = false) (hS : ShS E G a) (hA : Abs I a r) (hW : WF r) (x : Nat) (hx : x < 2 ^ 31) (hc : x % 8 = 3) : z_CV E l mX4_takeTurn 6 [.ref a, .int (nI x)] G I sz (fun I' => Abs I' a (q_turn r x) ∧ Fr I I' a) := by
  have h0 := hS.1
  refine z_Ct.of hl pn_X4 [some (.ref a), some (.int (nI x)), none] rfl (Nat.le_of_ble_eq_true rfl) ?_
  refine v_iload_n (pc' := 1) dX4_takeTurn_0 rfl rfl ?_
  refine v_bipush (pc' := 3) dX4_takeTurn_1 kb_8 rfl ?_
  refine v_idiv (pc' := 4) dX4_takeTurn_3 (by decide) rfl ?_
  rw [show nI (x) / (8 : Int32) = nI ((x) / 8) from pk_div (d := 8) (by omega) (by omega) (by omega)]
  refine v_istore_n2 (pc' := 5) dX4_takeTurn_4 (by decide) rfl rfl ?_
  refine v_iload_n (pc' := 6) dX4_takeTurn_5 rfl rfl ?_
  refine v_bipush (pc' := 8) dX4_takeTurn_6 kb_8 rfl ?_
  refine v_irem (pc' := 9) dX4_takeTurn_8 (by decide) rfl ?_
  rw [show nI (x) - nI (x) / (8 : Int32) * 8 = nI ((x) % 8) from pk_rem (d := 8) (by omega) (by omega) (by omega)]
  refine v_tableIn (tgt := 85) 3 dX4_takeTurn_9 (by rw [nI_toInt (by omega)]; omega) (by decide) rfl (by decide) ?_
  refine v_iload_n (pc' := 86) dX4_takeTurn_85 rfl rfl ?_
  refine v_bipush (pc' := 88) dX4_takeTurn_86 kb_16 rfl ?_
  refine v_idiv (pc' := 89) dX4_takeTurn_88 (by decide) rfl ?_
  rw [show nI (x / 8) / (16 : Int32) = nI ((x / 8) / 16) from pk_div (d := 16) (by omega) (by omega) (by omega)]
  refine v_iconst (pc' := 90) dX4_takeTurn_89 kc_4 rfl ?_
  refine v_irem (pc' := 91) dX4_takeTurn_90 (by decide) rfl ?_
  rw [show nI (x / 8 / 16) - nI (x / 8 / 16) / (4 : Int32) * 4 = nI ((x / 8 / 16) % 4) from pk_rem (d := 4) (by omega) (by omega) (by omega)]
  refine v_if_ne (tgt := 106) (pc' := 94) dX4_takeTurn_91 (by decide) rfl (fun c_91 => ?_) (fun c_91 => ?_)
  · have c2 : ¬ x / 8 / 16 % 4 = 0 := fun q => c_91 (by rw [q]; rfl)
    refine v_aload_n (pc' := 107) dX4_takeTurn_106 rfl rfl ?_
    refine v_iload_n (pc' := 108) dX4_takeTurn_107 rfl rfl ?_
    refine v_bipush (pc' := 110) dX4_takeTurn_108 kb_12 rfl ?_
    refine v_irem (pc' := 111) dX4_takeTurn_110 (by decide) rfl ?_
    rw [show nI (x / 8) - nI (x / 8) / (12 : Int32) * 12 = nI ((x / 8) % 12) from pk_rem (d := 12) (by omega) (by omega) (by omega)]
    refine v_cVI (pc' := 114) (c1_tmend hl hS hA hW (nI (x / 8 % 12))) dX4_takeTurn_111 lk_X4_213 mwX1_makeGood miX1_makeGood h0 rfl rfl rfl rfl (by decide) (Nat.le_of_ble_eq_true rfl) rfl ?_
    rintro x9 I2 ⟨rfl, hA2, hF2⟩
    refine v_pop (pc' := 115) dX4_takeTurn_114 rfl rfl ?_
    refine v_goto (tgt := 141) dX4_takeTurn_115 (by decide) ?_
    exact v_vret dX4_takeTurn_141 rfl (Nat.le_refl _) (Nat.le_refl _) ⟨rfl, rfl, rfl, by rw [q_turn, if_neg (by omega), if_neg (by omega), if_pos hc]; (first | rw [if_pos c2] | rw [if_neg c2]); exact hA2, hF2⟩
  · have c2 : x / 8 / 16 % 4 = 0 := (nI_eq (b := 0) (by omega) (by omega)).mp c_91
    refine v_aload_n (pc' := 95) dX4_takeTurn_94 rfl rfl ?_
    refine v_iload_n (pc' := 96) dX4_takeTurn_95 rfl rfl ?_
    refine v_bipush (pc' := 98) dX4_takeTurn_96 kb_12 rfl ?_
    refine v_irem (pc' := 99) dX4_takeTurn_98 (by decide) rfl ?_
    rw [show nI (x / 8) - nI (x / 8) / (12 : Int32) * 12 = nI ((x / 8) % 12) from pk_rem (d := 12) (by omega) (by omega) (by omega)]
    refine v_cVI (pc' := 102) (c1_tbad hl hS hA hW (nI (x / 8 % 12))) dX4_takeTurn_99 lk_X4_210 mwX1_makeBad miX1_makeBad h0 rfl rfl rfl rfl (by decide) (Nat.le_of_ble_eq_true rfl) rfl ?_
    rintro x9 I2 ⟨rfl, hA2, hF2⟩
    refine v_pop (pc' := 103) dX4_takeTurn_102 rfl rfl ?_
    refine v_goto (tgt := 141) dX4_takeTurn_103 (by decide) ?_
    exact v_vret dX4_takeTurn_141 rfl (Nat.le_refl _) (Nat.le_refl _) ⟨rfl, rfl, rfl, by rw [q_turn, if_neg (by omega), if_neg (by omega), if_pos hc]; (first | rw [if_pos c2] | rw [if_neg c2]); exact hA2, hF2⟩
set_option maxRecDepth 20000 in
set_option maxHeartbeats 4000000 in
theorem c4_turn_4 (hl : l.stackTraces = false) (hS : ShS E G a) (hA : Abs I a r) (hW : WF r) (x : Nat) (hx : x < 2 ^ 31) (hc : x % 8 = 4) : z_CV E l mX4_takeTurn 6 [.ref a, .int (nI x)] G I sz (fun I' => Abs I' a (q_turn r x) ∧ Fr I I' a) := by
  have h0 := hS.1
  refine z_Ct.of hl pn_X4 [some (.ref a), some (.int (nI x)), none] rfl (Nat.le_of_ble_eq_true rfl) ?_
  refine v_iload_n (pc' := 1) dX4_takeTurn_0 rfl rfl ?_
  refine v_bipush (pc' := 3) dX4_takeTurn_1 kb_8 rfl ?_
  refine v_idiv (pc' := 4) dX4_takeTurn_3 (by decide) rfl ?_
  rw [show nI (x) / (8 : Int32) = nI ((x) / 8) from pk_div (d := 8) (by omega) (by omega) (by omega)]
  refine v_istore_n2 (pc' := 5) dX4_takeTurn_4 (by decide) rfl rfl ?_
  refine v_iload_n (pc' := 6) dX4_takeTurn_5 rfl rfl ?_
  refine v_bipush (pc' := 8) dX4_takeTurn_6 kb_8 rfl ?_
  refine v_irem (pc' := 9) dX4_takeTurn_8 (by decide) rfl ?_
  rw [show nI (x) - nI (x) / (8 : Int32) * 8 = nI ((x) % 8) from pk_rem (d := 8) (by omega) (by omega) (by omega)]
  refine v_tableIn (tgt := 118) 4 dX4_takeTurn_9 (by rw [nI_toInt (by omega)]; omega) (by decide) rfl (by decide) ?_
  refine v_aload_n (pc' := 119) dX4_takeTurn_118 rfl rfl ?_
  refine v_iload_n (pc' := 120) dX4_takeTurn_119 rfl rfl ?_
  refine v_bipush (pc' := 122) dX4_takeTurn_120 kb_6 rfl ?_
  refine v_irem (pc' := 123) dX4_takeTurn_122 (by decide) rfl ?_
  rw [show nI (x / 8) - nI (x / 8) / (6 : Int32) * 6 = nI ((x / 8) % 6) from pk_rem (d := 6) (by omega) (by omega) (by omega)]
  refine v_cVI (pc' := 126) (c1_tstop hl hS hA hW (nI (x / 8 % 6))) dX4_takeTurn_123 lk_X4_207 mwX1_stopTask miX1_stopTask h0 rfl rfl rfl rfl (by decide) (Nat.le_of_ble_eq_true rfl) rfl ?_
  rintro x9 I2 ⟨rfl, hA2, hF2⟩
  refine v_pop (pc' := 127) dX4_takeTurn_126 rfl rfl ?_
  refine v_goto (tgt := 141) dX4_takeTurn_127 (by decide) ?_
  exact v_vret dX4_takeTurn_141 rfl (Nat.le_refl _) (Nat.le_refl _) ⟨rfl, rfl, rfl, by rw [q_turn, if_neg (by omega), if_neg (by omega), if_neg (by omega), if_pos hc]; exact hA2, hF2⟩
set_option maxRecDepth 20000 in
set_option maxHeartbeats 4000000 in
theorem c4_turn_5 (hl : l.stackTraces = false) (hS : ShS E G a) (hA : Abs I a r) (hW : WF r) (x : Nat) (hx : x < 2 ^ 31) (hc : 5 ≤ x % 8) : z_CV E l mX4_takeTurn 6 [.ref a, .int (nI x)] G I sz (fun I' => Abs I' a (q_turn r x) ∧ Fr I I' a) := by
  have h0 := hS.1
  refine z_Ct.of hl pn_X4 [some (.ref a), some (.int (nI x)), none] rfl (Nat.le_of_ble_eq_true rfl) ?_
  refine v_iload_n (pc' := 1) dX4_takeTurn_0 rfl rfl ?_
  refine v_bipush (pc' := 3) dX4_takeTurn_1 kb_8 rfl ?_
  refine v_idiv (pc' := 4) dX4_takeTurn_3 (by decide) rfl ?_
  rw [show nI (x) / (8 : Int32) = nI ((x) / 8) from pk_div (d := 8) (by omega) (by omega) (by omega)]
  refine v_istore_n2 (pc' := 5) dX4_takeTurn_4 (by decide) rfl rfl ?_
  refine v_iload_n (pc' := 6) dX4_takeTurn_5 rfl rfl ?_
  refine v_bipush (pc' := 8) dX4_takeTurn_6 kb_8 rfl ?_
  refine v_irem (pc' := 9) dX4_takeTurn_8 (by decide) rfl ?_
  rw [show nI (x) - nI (x) / (8 : Int32) * 8 = nI ((x) % 8) from pk_rem (d := 8) (by omega) (by omega) (by omega)]
  refine v_tableOut (tgt := 130) dX4_takeTurn_9 (by rw [nI_toInt (by omega)]; omega) (by decide) ?_
  refine v_aload_n (pc' := 131) dX4_takeTurn_130 rfl rfl ?_
  refine v_iconst (pc' := 132) dX4_takeTurn_131 kc_1 rfl ?_
  refine v_iload_n (pc' := 133) dX4_takeTurn_132 rfl rfl ?_
  refine v_bipush (pc' := 135) dX4_takeTurn_133 kb_20 rfl ?_
  refine v_irem (pc' := 136) dX4_takeTurn_135 (by decide) rfl ?_
  rw [show nI (x / 8) - nI (x / 8) / (20 : Int32) * 20 = nI ((x / 8) % 20) from pk_rem (d := 20) (by omega) (by omega) (by omega)]
  refine v_iadd (pc' := 137) dX4_takeTurn_136 rfl ?_
  rw [show (1 + nI (x / 8 % 20) : Int32) = nI (1 + x / 8 % 20) from nI_add 1 _]
  refine v_cVI (pc' := 140) (c1_trun hl hS hA hW (nI (1 + x / 8 % 20))) dX4_takeTurn_137 lk_X4_216 mwX1_passTicks miX1_passTicks h0 rfl rfl rfl rfl (by decide) (Nat.le_of_ble_eq_true rfl) rfl ?_
  rintro x9 I2 ⟨rfl, hA2, hF2⟩
  refine v_pop (pc' := 141) dX4_takeTurn_140 rfl rfl ?_
  exact v_vret dX4_takeTurn_141 rfl (Nat.le_refl _) (Nat.le_refl _) ⟨rfl, rfl, rfl, by rw [q_turn, if_neg (by omega), if_neg (by omega), if_neg (by omega), if_neg (by omega)]; exact hA2, hF2⟩
theorem c4_takeTurn (hl : l.stackTraces = false) (hS : ShS E G a) (hA : Abs I a r) (hW : WF r) (x : Nat) (hx : x < 2 ^ 31) : z_CV E l mX4_takeTurn 6 [.ref a, .int (nI x)] G I sz (fun I' => Abs I' a (q_turn r x) ∧ Fr I I' a) := by
  rcases (by omega : x % 8 = 0 ∨ x % 8 = 1 ∨ x % 8 = 2 ∨ x % 8 = 3 ∨ x % 8 = 4 ∨ 5 ≤ x % 8) with q | q | q | q | q | q
  · exact c4_turn_0 hl hS hA hW x hx q
  · exact c4_turn_1 hl hS hA hW x hx q
  · exact c4_turn_2 hl hS hA hW x hx q
  · exact c4_turn_3 hl hS hA hW x hx q
  · exact c4_turn_4 hl hS hA hW x hx q
  · exact c4_turn_5 hl hS hA hW x hx q
theorem WF_turn {r : zR} (h : WF r) (x : Nat) : WF (q_turn r x) := by
  unfold q_turn
  split
  · exact WF_tadd h (by rw [nI_toInt (by omega)]; omega) (by rw [nI_toInt (by omega)]; omega)
  split
  · exact WF_tjob h _ _
  split
  · split
    · exact WF_tbad h _
    · exact WF_tmend h _
  split
  · exact WF_tstop h _
  · exact WF_trun h _
end OBEY
