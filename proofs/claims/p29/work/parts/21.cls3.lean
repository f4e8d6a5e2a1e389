/-! THE CLASS: what changes a state (written by wip/whole/gen_cls3.py) -/
section CLS3
variable {E : zE} {l : Launch} {G : zG} {I : zI} {sz a b : Nat} {r : zR}
set_option maxRecDepth 20000 in
set_option maxHeartbeats 4000000 in
theorem c1_endJob (hl : l.stackTraces = false) (h0 : (a, sSt a) ∈ G) : z_CV E l mX1_endJob 0 [.ref a] G I sz (fun I' => I' = z_up (z_up (z_up I a 6 (-1)) a 7 (-1)) a 8 0) := by
  refine z_Ct.of hl pn_X1 [some (.ref a)] rfl (Nat.le_of_ble_eq_true rfl) ?_
  refine v_aload_n (pc' := 1) dX1_endJob_0 rfl rfl ?_
  refine v_iconst (pc' := 2) dX1_endJob_1 kc_m1 rfl ?_
  refine p_X1_55 (pc' := 5) rfl dX1_endJob_2 (by assumption) rfl ?_
  refine v_aload_n (pc' := 6) dX1_endJob_5 rfl rfl ?_
  refine v_iconst (pc' := 7) dX1_endJob_6 kc_m1 rfl ?_
  refine p_X1_58 (pc' := 10) rfl dX1_endJob_7 (by assumption) rfl ?_
  refine v_aload_n (pc' := 11) dX1_endJob_10 rfl rfl ?_
  refine v_iconst (pc' := 12) dX1_endJob_11 kc_0 rfl ?_
  refine p_X1_61 (pc' := 15) rfl dX1_endJob_12 (by assumption) rfl ?_
  exact v_vret dX1_endJob_15 rfl (Nat.le_refl _) (Nat.le_refl _) ⟨rfl, rfl, rfl, rfl⟩
set_option maxRecDepth 20000 in
set_option maxHeartbeats 4000000 in
theorem c1_makeGood (hl : l.stackTraces = false) (hS : ShS E G a) (hA : Abs I a r) (hW : WF r) (s : Nat) (hs : s < 12) {s3 : Int32} (hs3 : s3 = nI s) : z_CI E l mX1_makeGood 2 [.ref a, .int s3] G I sz (fun x I' => x = r (11 + s) ∧ Abs I' a (p_mend r s) ∧ Fr I I' a) := by
  obtain ⟨h0, h1, h2, h3, hT⟩ := id hS
  obtain ⟨⟨⟨g3, g4, g5, g6, g9, g10⟩, g78⟩, gb, gs, gt⟩ := id hA
  obtain ⟨⟨hc6, hc0⟩, -⟩ := id hW
  subst hs3
  have fin : Abs (z_up I (a + 2) s 0) a (p_mend r s) ∧ Fr I (z_up I (a + 2) s 0) a := ⟨hA.bad s 0 hs hc6, Fr.up (by omega)⟩
  refine z_Ct.of hl pn_X1 [some (.ref a), some (.int (nI s)), none] rfl (Nat.le_of_ble_eq_true rfl) ?_
  refine v_iload_n (pc' := 1) dX1_makeGood_0 rfl rfl ?_
  refine v_cSNR (pc' := 4) (c4_isStripe hl (nI s)) dX1_makeGood_1 lk_X1_100 mwX4_isStripe msX4_isStripe rfl rfl (by decide) (Nat.le_of_ble_eq_true rfl) rfl ?_
  refine v_if_ne (tgt := 9) (pc' := 7) dX1_makeGood_4 (by decide) rfl (fun c_4 => ?_) (fun c_4 => ?_)
  · refine v_aload_n (pc' := 10) dX1_makeGood_9 rfl rfl ?_
    refine g_X1_17 (pc' := 13) rfl dX1_makeGood_10 (by assumption) rfl ?_
    refine v_iload_n (pc' := 14) dX1_makeGood_13 rfl rfl ?_
    refine v_zald (pc' := 15) dX1_makeGood_14 (s) rfl (by assumption) hs (by decide) rfl ?_
    refine v_if_eq (tgt := 22) (pc' := 18) dX1_makeGood_15 (by decide) rfl (fun c_15 => ?_) (fun c_15 => ?_)
    · rw [gb s hs] at c_15
      refine v_iconst (pc' := 23) dX1_makeGood_22 kc_0 rfl ?_
      refine v_istore_n2 (pc' := 24) dX1_makeGood_23 (by decide) rfl rfl ?_
      refine v_aload_n (pc' := 25) dX1_makeGood_24 rfl rfl ?_
      refine g_X1_17 (pc' := 28) rfl dX1_makeGood_25 (by assumption) rfl ?_
      refine v_iload_n (pc' := 29) dX1_makeGood_28 rfl rfl ?_
      refine v_iconst (pc' := 30) dX1_makeGood_29 kc_0 rfl ?_
      refine v_zast (pc' := 31) dX1_makeGood_30 (s) rfl (by assumption) hs (by decide) rfl rfl ?_
      refine v_iload_n (pc' := 32) dX1_makeGood_31 rfl rfl ?_
      exact v_iret dX1_makeGood_32 rfl (Nat.le_refl _) (Nat.le_refl _) ⟨_, rfl, rfl, rfl, by first | (rw [c_15]; done) | (rw [(hW.2.2.2.1 s hs).resolve_left c_15]; done), fin⟩
    · rw [gb s hs] at c_15
      refine v_iconst (pc' := 19) dX1_makeGood_18 kc_1 rfl ?_
      refine v_goto (tgt := 23) dX1_makeGood_19 (by decide) ?_
      refine v_istore_n2 (pc' := 24) dX1_makeGood_23 (by decide) rfl rfl ?_
      refine v_aload_n (pc' := 25) dX1_makeGood_24 rfl rfl ?_
      refine g_X1_17 (pc' := 28) rfl dX1_makeGood_25 (by assumption) rfl ?_
      refine v_iload_n (pc' := 29) dX1_makeGood_28 rfl rfl ?_
      refine v_iconst (pc' := 30) dX1_makeGood_29 kc_0 rfl ?_
      refine v_zast (pc' := 31) dX1_makeGood_30 (s) rfl (by assumption) hs (by decide) rfl rfl ?_
      refine v_iload_n (pc' := 32) dX1_makeGood_31 rfl rfl ?_
      exact v_iret dX1_makeGood_32 rfl (Nat.le_refl _) (Nat.le_refl _) ⟨_, rfl, rfl, rfl, by first | (rw [c_15]; done) | (rw [(hW.2.2.2.1 s hs).resolve_left c_15]; done), fin⟩
  · rw [p_isStripe_of hs] at c_4
    exact absurd (z_b_eq0.mp c_4) (by decide)
set_option maxRecDepth 20000 in
set_option maxHeartbeats 4000000 in
theorem c1_makeGoodOut (hl : l.stackTraces = false) (hS : ShS E G a) (hA : Abs I a r) (hW : WF r) (s : Int32) (hs : p_isStripe s = false) : z_CI E l mX1_makeGood 2 [.ref a, .int s] G I sz (fun x I' => x = -1 ∧ Abs I' a (r) ∧ Fr I I' a) := by
  obtain ⟨h0, h1, h2, h3, hT⟩ := id hS
  obtain ⟨⟨⟨g3, g4, g5, g6, g9, g10⟩, g78⟩, gb, gs, gt⟩ := id hA
  obtain ⟨⟨hc6, hc0⟩, -⟩ := id hW
  refine z_Ct.of hl pn_X1 [some (.ref a), some (.int s), none] rfl (Nat.le_of_ble_eq_true rfl) ?_
  refine v_iload_n (pc' := 1) dX1_makeGood_0 rfl rfl ?_
  refine v_cSNR (pc' := 4) (c4_isStripe hl s) dX1_makeGood_1 lk_X1_100 mwX4_isStripe msX4_isStripe rfl rfl (by decide) (Nat.le_of_ble_eq_true rfl) rfl ?_
  refine v_if_ne (tgt := 9) (pc' := 7) dX1_makeGood_4 (by decide) rfl (fun c_4 => ?_) (fun c_4 => ?_)
  · rw [hs] at c_4
    exact absurd rfl c_4
  · refine v_iconst (pc' := 8) dX1_makeGood_7 kc_m1 rfl ?_
    exact v_iret dX1_makeGood_8 rfl (Nat.le_refl _) (Nat.le_refl _) ⟨_, rfl, rfl, rfl, rfl, hA, Fr.rf⟩
set_option maxRecDepth 20000 in
set_option maxHeartbeats 4000000 in
theorem c1_addTask (hl : l.stackTraces = false) (hS : ShS E G a) (hA : Abs I a r) (hW : WF r) (w v : Int32) (hc : cnt r < 6) : z_CI E l mX1_addTask 2 [.ref a, .int w, .int v] G I sz (fun x I' => x = nI (cnt r) ∧ Abs I' a (p_add r w v) ∧ Fr I I' a) := by
  obtain ⟨h0, h1, h2, h3, hT⟩ := id hS
  obtain ⟨⟨⟨g3, g4, g5, g6, g9, g10⟩, g78⟩, gb, gs, gt⟩ := id hA
  obtain ⟨⟨hc6, hc0⟩, -⟩ := id hW
  have hroom : z_in (r 0) 0 5 = true := by
    simp only [z_in, Bool.and_eq_true, decide_eq_true_eq]
    rw [hc0]
    exact ⟨nI_pos' (by omega), nI_le (b := 5) (by omega) (by omega)⟩
  refine z_Ct.of hl pn_X1 [some (.ref a), some (.int w), some (.int v)] rfl (Nat.le_of_ble_eq_true rfl) ?_
  refine v_aload_n (pc' := 1) dX1_addTask_0 rfl rfl ?_
  refine v_cVR (pc' := 4) (c1_hasRoom hl hS hA hW) dX1_addTask_1 lk_X1_72 mwX1_hasRoomForTask miX1_hasRoomForTask h0 rfl rfl rfl rfl (by decide) (Nat.le_of_ble_eq_true rfl) rfl ?_
  refine v_if_ne (tgt := 9) (pc' := 7) dX1_addTask_4 (by decide) rfl (fun c_4 => ?_) (fun c_4 => ?_)
  · refine v_aload_n (pc' := 10) dX1_addTask_9 rfl rfl ?_
    refine g_X1_11 (pc' := 13) rfl dX1_addTask_10 (by assumption) rfl ?_
    refine v_aload_n (pc' := 14) dX1_addTask_13 rfl rfl ?_
    refine g_X1_32 (pc' := 17) rfl dX1_addTask_14 (by assumption) rfl ?_
    refine v_aald (t := 4) (pc' := 18) rfl dX1_addTask_17 (cnt r) (g3.trans hc0) (by assumption) hc (by decide) rfl ?_
    refine v_iload_n (pc' := 19) dX1_addTask_18 rfl rfl ?_
    refine v_iload_n (pc' := 20) dX1_addTask_19 rfl rfl ?_
    refine v_cVV (pc' := 23) (c2_begin hl (hT (cnt r) hc) w v) dX1_addTask_20 lk_X1_76 mwX2_begin miX2_begin (hT (cnt r) hc) rfl rfl rfl rfl (by decide) (Nat.le_of_ble_eq_true rfl) rfl ?_
    rintro _ rfl
    have e3 : z_row I (a + 4 + 1 * cnt r) (k_begin (I (a + 4 + 1 * cnt r)) w v) a 3 = r 0 := by rw [z_row_ne _ _ _ (by omega)]; exact g3
    have fin := hA.add hW w v hc
    refine v_aload_n (pc' := 24) dX1_addTask_23 rfl rfl ?_
    refine v_dup (pc' := 25) dX1_addTask_24 rfl rfl ?_
    refine g_X1_32 (pc' := 28) rfl dX1_addTask_25 (by assumption) rfl ?_
    rw [e3]
    refine v_iconst (pc' := 29) dX1_addTask_28 kc_1 rfl ?_
    refine v_iadd (pc' := 30) dX1_addTask_29 rfl ?_
    refine p_X1_32 (pc' := 33) rfl dX1_addTask_30 (by assumption) rfl ?_
    refine v_aload_n (pc' := 34) dX1_addTask_33 rfl rfl ?_
    refine g_X1_32 (pc' := 37) rfl dX1_addTask_34 (by assumption) rfl ?_
    refine v_iconst (pc' := 38) dX1_addTask_37 kc_1 rfl ?_
    skip
    refine v_isub (pc' := 39) dX1_addTask_38 rfl ?_
    exact v_iret dX1_addTask_39 rfl (Nat.le_refl _) (Nat.le_refl _) ⟨_, rfl, rfl, rfl, by rw [z_up_row, z_row_at, pk_us, hc0, nI_1, nI_pred], fin, (Fr.row (by omega)).tr (Fr.up (by omega))⟩
  · rw [hroom] at c_4
    exact absurd (z_b_eq0.mp c_4) (by decide)
set_option maxRecDepth 20000 in
set_option maxHeartbeats 4000000 in
theorem c1_addTaskOut (hl : l.stackTraces = false) (hS : ShS E G a) (hA : Abs I a r) (hW : WF r) (w v : Int32) (hc : ¬ cnt r < 6) : z_CI E l mX1_addTask 2 [.ref a, .int w, .int v] G I sz (fun x I' => x = -1 ∧ Abs I' a (r) ∧ Fr I I' a) := by
  obtain ⟨h0, h1, h2, h3, hT⟩ := id hS
  obtain ⟨⟨⟨g3, g4, g5, g6, g9, g10⟩, g78⟩, gb, gs, gt⟩ := id hA
  obtain ⟨⟨hc6, hc0⟩, -⟩ := id hW
  have hroom : z_in (r 0) 0 5 = false := by
    simp only [z_in, Bool.and_eq_false_iff, decide_eq_false_iff_not]
    rw [hc0]
    exact Or.inr (nI_ge (a := 5) (by omega) (by omega))
  refine z_Ct.of hl pn_X1 [some (.ref a), some (.int w), some (.int v)] rfl (Nat.le_of_ble_eq_true rfl) ?_
  refine v_aload_n (pc' := 1) dX1_addTask_0 rfl rfl ?_
  refine v_cVR (pc' := 4) (c1_hasRoom hl hS hA hW) dX1_addTask_1 lk_X1_72 mwX1_hasRoomForTask miX1_hasRoomForTask h0 rfl rfl rfl rfl (by decide) (Nat.le_of_ble_eq_true rfl) rfl ?_
  refine v_if_ne (tgt := 9) (pc' := 7) dX1_addTask_4 (by decide) rfl (fun c_4 => ?_) (fun c_4 => ?_)
  · rw [hroom] at c_4
    exact absurd rfl c_4
  · refine v_iconst (pc' := 8) dX1_addTask_7 kc_m1 rfl ?_
    exact v_iret dX1_addTask_8 rfl (Nat.le_refl _) (Nat.le_refl _) ⟨_, rfl, rfl, rfl, rfl, hA, Fr.rf⟩
set_option maxRecDepth 20000 in
set_option maxHeartbeats 4000000 in
theorem c1_stopTask (hl : l.stackTraces = false) (hS : ShS E G a) (hA : Abs I a r) (hW : WF r) (t : Nat) (ht : t < cnt r) (ht6 : t < 6) {t3 : Int32} (ht3 : t3 = nI t) (hc : p_cans r t3 = true) : z_CI E l mX1_stopTask 3 [.ref a, .int t3] G I sz (fun x I' => x = tf r t 1 ∧ Abs I' a (p_stop r t) ∧ Fr I I' a) := by
  obtain ⟨h0, h1, h2, h3, hT⟩ := id hS
  obtain ⟨⟨⟨g3, g4, g5, g6, g9, g10⟩, g78⟩, gb, gs, gt⟩ := id hA
  obtain ⟨⟨hc6, hc0⟩, -⟩ := id hW
  have g := gt t ht
  have fin : Abs (z_row I (a + 4 + 1 * t) (k_off (k_save (I (a + 4 + 1 * t))))) a (p_stop r t) := by
    refine hA.task t _ ht (fun k hk => by simp (disch := omega) only [p_stop, upd_hi]) (fun u hu hne w hw => by simp (disch := omega) only [p_stop, tf_upd_t]) ?_
    obtain ⟨q0, q1, q2, q3, q4, q5, q6⟩ := g
    refine ⟨?_, ?_, ?_, ?_, ?_, ?_, ?_⟩ <;> simp (disch := omega) only [k_off, k_save, p_stop, pk_us, pk_un, tf_upd_eq, tf_upd_w] <;> assumption
  refine z_Ct.of hl pn_X1 [some (.ref a), some (.int t3), none] rfl (Nat.le_of_ble_eq_true rfl) ?_
  refine v_aload_n (pc' := 1) dX1_stopTask_0 rfl rfl ?_
  refine v_iload_n (pc' := 2) dX1_stopTask_1 rfl rfl ?_
  refine v_cVR (pc' := 5) (c1_taskNumbered hl hS hA hW t ht ht3) dX1_stopTask_2 lk_X1_64 mwX1_taskNumbered miX1_taskNumbered h0 rfl rfl rfl rfl (by decide) (Nat.le_of_ble_eq_true rfl) rfl ?_
  refine v_astore_n2 (pc' := 6) dX1_stopTask_5 (by decide) rfl rfl ?_
  refine v_aload_n (pc' := 7) dX1_stopTask_6 rfl rfl ?_
  refine v_ifnull (pc' := 10) dX1_stopTask_7 rfl ?_
  refine v_aload_n (pc' := 11) dX1_stopTask_10 rfl rfl ?_
  refine v_iload_n (pc' := 12) dX1_stopTask_11 rfl rfl ?_
  refine v_cVR (pc' := 15) (c1_canStop hl hS hA hW t3) dX1_stopTask_12 lk_X1_83 mwX1_canStop miX1_canStop h0 rfl rfl rfl rfl (by decide) (Nat.le_of_ble_eq_true rfl) rfl ?_
  refine v_if_ne (tgt := 20) (pc' := 18) dX1_stopTask_15 (by decide) rfl (fun c_15 => ?_) (fun c_15 => ?_)
  · refine v_aload_n (pc' := 21) dX1_stopTask_20 rfl rfl ?_
    refine v_cVV (pc' := 24) (c2_saveValue hl (hT t ht6)) dX1_stopTask_21 lk_X1_87 mwX2_saveValue miX2_saveValue (hT t ht6) rfl rfl rfl rfl (by decide) (Nat.le_of_ble_eq_true rfl) rfl ?_
    rintro _ rfl
    refine v_aload_n (pc' := 25) dX1_stopTask_24 rfl rfl ?_
    refine v_cVV (pc' := 28) (c2_switchOff hl (hT t ht6)) dX1_stopTask_25 lk_X1_90 mwX2_switchOff miX2_switchOff (hT t ht6) rfl rfl rfl rfl (by decide) (Nat.le_of_ble_eq_true rfl) rfl ?_
    rintro _ rfl
    simp only [z_row_row, z_row_at]
    refine v_aload_n (pc' := 29) dX1_stopTask_28 rfl rfl ?_
    refine g_X1_93 (pc' := 32) rfl dX1_stopTask_29 (hT t ht6) rfl ?_
    exact v_iret dX1_stopTask_32 rfl (Nat.le_refl _) (Nat.le_refl _) ⟨_, rfl, rfl, rfl, by simp (disch := omega) only [z_row_at, k_off, k_save, pk_un]; exact g.2.1, fin, Fr.row (by omega)⟩
  · rw [hc] at c_15
    exact absurd (z_b_eq0.mp c_15) (by decide)
set_option maxRecDepth 20000 in
set_option maxHeartbeats 4000000 in
theorem c1_stopTaskNone (hl : l.stackTraces = false) (hS : ShS E G a) (hA : Abs I a r) (hW : WF r) {t3 : Int32} (hi : p_isTask r t3 = false) : z_CI E l mX1_stopTask 3 [.ref a, .int t3] G I sz (fun x I' => x = -1 ∧ Abs I' a (r) ∧ Fr I I' a) := by
  obtain ⟨h0, h1, h2, h3, hT⟩ := id hS
  obtain ⟨⟨⟨g3, g4, g5, g6, g9, g10⟩, g78⟩, gb, gs, gt⟩ := id hA
  obtain ⟨⟨hc6, hc0⟩, -⟩ := id hW
  refine z_Ct.of hl pn_X1 [some (.ref a), some (.int t3), none] rfl (Nat.le_of_ble_eq_true rfl) ?_
  refine v_aload_n (pc' := 1) dX1_stopTask_0 rfl rfl ?_
  refine v_iload_n (pc' := 2) dX1_stopTask_1 rfl rfl ?_
  refine v_cVR (pc' := 5) (c1_taskNone hl hS hA hW t3 hi) dX1_stopTask_2 lk_X1_64 mwX1_taskNumbered miX1_taskNumbered h0 rfl rfl rfl rfl (by decide) (Nat.le_of_ble_eq_true rfl) rfl ?_
  refine v_astoreN_n2 (pc' := 6) dX1_stopTask_5 (by decide) rfl rfl ?_
  refine v_aloadN_n (pc' := 7) dX1_stopTask_6 rfl rfl ?_
  refine v_ifnullN (tgt := 18) dX1_stopTask_7 (by decide) ?_
  refine v_iconst (pc' := 19) dX1_stopTask_18 kc_m1 rfl ?_
  exact v_iret dX1_stopTask_19 rfl (Nat.le_refl _) (Nat.le_refl _) ⟨_, rfl, rfl, rfl, rfl, hA, Fr.rf⟩
set_option maxRecDepth 20000 in
set_option maxHeartbeats 4000000 in
theorem c1_stopTaskNot (hl : l.stackTraces = false) (hS : ShS E G a) (hA : Abs I a r) (hW : WF r) {t3 : Int32} (t : Nat) (ht : t < cnt r) (ht3 : t3 = nI t) (hc : p_cans r t3 = false) : z_CI E l mX1_stopTask 3 [.ref a, .int t3] G I sz (fun x I' => x = -1 ∧ Abs I' a (r) ∧ Fr I I' a) := by
  obtain ⟨h0, h1, h2, h3, hT⟩ := id hS
  obtain ⟨⟨⟨g3, g4, g5, g6, g9, g10⟩, g78⟩, gb, gs, gt⟩ := id hA
  obtain ⟨⟨hc6, hc0⟩, -⟩ := id hW
  refine z_Ct.of hl pn_X1 [some (.ref a), some (.int t3), none] rfl (Nat.le_of_ble_eq_true rfl) ?_
  refine v_aload_n (pc' := 1) dX1_stopTask_0 rfl rfl ?_
  refine v_iload_n (pc' := 2) dX1_stopTask_1 rfl rfl ?_
  refine v_cVR (pc' := 5) (c1_taskNumbered hl hS hA hW t ht ht3) dX1_stopTask_2 lk_X1_64 mwX1_taskNumbered miX1_taskNumbered h0 rfl rfl rfl rfl (by decide) (Nat.le_of_ble_eq_true rfl) rfl ?_
  refine v_astore_n2 (pc' := 6) dX1_stopTask_5 (by decide) rfl rfl ?_
  refine v_aload_n (pc' := 7) dX1_stopTask_6 rfl rfl ?_
  refine v_ifnull (pc' := 10) dX1_stopTask_7 rfl ?_
  refine v_aload_n (pc' := 11) dX1_stopTask_10 rfl rfl ?_
  refine v_iload_n (pc' := 12) dX1_stopTask_11 rfl rfl ?_
  refine v_cVR (pc' := 15) (c1_canStop hl hS hA hW t3) dX1_stopTask_12 lk_X1_83 mwX1_canStop miX1_canStop h0 rfl rfl rfl rfl (by decide) (Nat.le_of_ble_eq_true rfl) rfl ?_
  refine v_if_ne (tgt := 20) (pc' := 18) dX1_stopTask_15 (by decide) rfl (fun c_15 => ?_) (fun c_15 => ?_)
  · rw [hc] at c_15
    exact absurd rfl c_15
  · refine v_iconst (pc' := 19) dX1_stopTask_18 kc_m1 rfl ?_
    exact v_iret dX1_stopTask_19 rfl (Nat.le_refl _) (Nat.le_refl _) ⟨_, rfl, rfl, rfl, rfl, hA, Fr.rf⟩
theorem p_off_lo (r : zR) (t k : Nat) (x : Int32) (hk : k < 23) : p_off (upd r k x) t = upd (p_off r t) k x := by
  have e : ∀ w, 23 + 7 * t + w ≠ k := fun w => by omega
  simp only [p_off, tf_upd_lo _ _ hk]
  rw [upd_comm (Ne.symm (e 4)), upd_comm (Ne.symm (e 5)), upd_comm (Ne.symm (e 1)), upd_comm (Ne.symm (e 6))]
theorem Abs.drop {I : zI} {a : Nat} {r : zR} (h : Abs I a r) : Abs (z_up (z_up (z_up (z_up I a 6 (-1)) a 7 (-1)) a 8 0) a 10 (r 3 + 1)) a (p_drop r) := (h.idle (-1) 0).gone (r 3 + 1)
theorem Abs.off {I : zI} {a : Nat} {r : zR} (h : Abs I a r) (t : Nat) (ht : t < cnt r) : Abs (z_row I (a + 4 + 1 * t) (k_fall (I (a + 4 + 1 * t)))) a (p_off r t) := by
  obtain ⟨q0, q1, q2, q3, q4, q5, q6⟩ := h.2.2.2 t ht
  refine h.task t _ ht (fun k hk => by simp (disch := omega) only [p_off, upd_hi]) (fun u hu hne w hw => by simp (disch := omega) only [p_off, tf_upd_t]) ?_
  refine ⟨?_, ?_, ?_, ?_, ?_, ?_, ?_⟩ <;> simp (disch := omega) only [k_fall, k_off, p_off, pk_us, pk_un, tf_upd_eq, tf_upd_w] <;> assumption
theorem cnt_bad1 (r : zR) (s : Nat) : cnt (p_bad1 r s) = cnt r := by
  unfold p_bad1
  split
  · unfold cnt; simp (disch := omega) only [p_drop, pk_un]
  · rfl
theorem WF_bad1 {r : zR} (h : WF r) (s : Nat) : WF (p_bad1 r s) := by
  unfold p_bad1
  split
  · exact WF_drop h
  · exact h
set_option maxRecDepth 20000 in
set_option maxHeartbeats 4000000 in
theorem c1_makeBad (hl : l.stackTraces = false) (hS : ShS E G a) (hA : Abs I a r) (hW : WF r) (s : Nat) (hs : s < 12) {s3 : Int32} (hs3 : s3 = nI s) : z_CI E l mX1_makeBad 5 [.ref a, .int s3] G I sz (fun x I' => x = p_hurt r (nI s) ∧ Abs I' a (p_bad r s) ∧ Fr I I' a) := by
  obtain ⟨h0, h1, h2, h3, hT⟩ := id hS
  obtain ⟨⟨⟨g3, g4, g5, g6, g9, g10⟩, g78⟩, gb, gs, gt⟩ := id hA
  obtain ⟨⟨hc6, hc0⟩, -⟩ := id hW
  subst hs3
  have hW1 := WF_bad1 hW s
  have tail : ∀ I1, Abs I1 a (p_bad1 r s) → Fr I I1 a → z_V E l mX1_makeBad (z_rm 5 0 0) 0 0 (z_q (fun v' G' I' sz' => ∃ x, v' = some (.int x) ∧ G' = G ∧ sz' = sz ∧ (x = p_hurt r (nI s) ∧ Abs I' a (p_bad r s) ∧ Fr I I' a))) 0 0 G I1 sz 56 [some (.ref a), some (.int (nI s)), some (.int (p_hurt r (nI s))), none] [] := by
    intro I1 hA1 hF
    rcases p_hurt_cases hW (nI s) with hv | ⟨u, hu, hu6, hv⟩
    · refine v_aload_n (pc' := 57) dX1_makeBad_56 rfl rfl ?_
      refine v_iload_n (pc' := 58) dX1_makeBad_57 rfl rfl ?_
      refine v_cVR (pc' := 61) (c1_taskNone hl hS hA1 hW1 _ (by rw [hv]; exact p_isTask_m1)) dX1_makeBad_58 lk_X1_64 mwX1_taskNumbered miX1_taskNumbered h0 rfl rfl rfl rfl (by decide) (Nat.le_of_ble_eq_true rfl) rfl ?_
      refine v_astoreN_n3 (pc' := 62) dX1_makeBad_61 (by decide) rfl rfl ?_
      refine v_aloadN_n (pc' := 63) dX1_makeBad_62 rfl rfl ?_
      refine v_ifnullN (tgt := 70) dX1_makeBad_63 (by decide) ?_
      refine v_aload_n (pc' := 71) dX1_makeBad_70 rfl rfl ?_
      refine g_X1_17 (pc' := 74) rfl dX1_makeBad_71 (by assumption) rfl ?_
      refine v_iload_n (pc' := 75) dX1_makeBad_74 rfl rfl ?_
      refine v_iconst (pc' := 76) dX1_makeBad_75 kc_1 rfl ?_
      refine v_zast (pc' := 77) dX1_makeBad_76 (s) rfl (by assumption) hs (by decide) rfl rfl ?_
      refine v_iload_n (pc' := 78) dX1_makeBad_77 rfl rfl ?_
      exact v_iret dX1_makeBad_78 rfl (Nat.le_refl _) (Nat.le_refl _) ⟨_, rfl, rfl, rfl, rfl, by rw [p_bad, if_pos hv]; exact hA1.bad s 1 hs hW1.1.1, hF.tr (Fr.up (by omega))⟩
    · have hu1 : u < cnt (p_bad1 r s) := by rw [cnt_bad1]; exact hu
      refine v_aload_n (pc' := 57) dX1_makeBad_56 rfl rfl ?_
      refine v_iload_n (pc' := 58) dX1_makeBad_57 rfl rfl ?_
      refine v_cVR (pc' := 61) (c1_taskNumbered hl hS hA1 hW1 u hu1 hv) dX1_makeBad_58 lk_X1_64 mwX1_taskNumbered miX1_taskNumbered h0 rfl rfl rfl rfl (by decide) (Nat.le_of_ble_eq_true rfl) rfl ?_
      refine v_astore_n3 (pc' := 62) dX1_makeBad_61 (by decide) rfl rfl ?_
      refine v_aload_n (pc' := 63) dX1_makeBad_62 rfl rfl ?_
      refine v_ifnull (pc' := 66) dX1_makeBad_63 rfl ?_
      refine v_aload_n (pc' := 67) dX1_makeBad_66 rfl rfl ?_
      refine v_cVV (pc' := 70) (c2_fallBack hl (hT u hu6)) dX1_makeBad_67 lk_X1_150 mwX2_fallBack miX2_fallBack (hT u hu6) rfl rfl rfl rfl (by decide) (Nat.le_of_ble_eq_true rfl) rfl ?_
      rintro _ rfl
      refine v_aload_n (pc' := 71) dX1_makeBad_70 rfl rfl ?_
      refine g_X1_17 (pc' := 74) rfl dX1_makeBad_71 (by assumption) rfl ?_
      refine v_iload_n (pc' := 75) dX1_makeBad_74 rfl rfl ?_
      refine v_iconst (pc' := 76) dX1_makeBad_75 kc_1 rfl ?_
      refine v_zast (pc' := 77) dX1_makeBad_76 (s) rfl (by assumption) hs (by decide) rfl rfl ?_
      refine v_iload_n (pc' := 78) dX1_makeBad_77 rfl rfl ?_
      exact v_iret dX1_makeBad_78 rfl (Nat.le_refl _) (Nat.le_refl _) ⟨_, rfl, rfl, rfl, rfl, by rw [p_bad, if_neg (by rw [hv]; exact nI_m1 (by omega)), hv, nI_clamp (by omega), p_off_lo _ _ _ _ (by omega)]; exact (hA1.off u hu1).bad s 1 hs (by rw [show cnt (p_off (p_bad1 r s) u) = cnt (p_bad1 r s) by unfold cnt; simp (disch := omega) only [p_off, upd_hi]]; exact hW1.1.1), (hF.tr (Fr.row (by omega))).tr (Fr.up (by omega))⟩
  refine z_Ct.of hl pn_X1 [some (.ref a), some (.int (nI s)), none, none] rfl (Nat.le_of_ble_eq_true rfl) ?_
  refine v_iload_n (pc' := 1) dX1_makeBad_0 rfl rfl ?_
  refine v_cSNR (pc' := 4) (c4_isStripe hl (nI s)) dX1_makeBad_1 lk_X1_100 mwX4_isStripe msX4_isStripe rfl rfl (by decide) (Nat.le_of_ble_eq_true rfl) rfl ?_
  refine v_if_ne (tgt := 9) (pc' := 7) dX1_makeBad_4 (by decide) rfl (fun c_4 => ?_) (fun c_4 => ?_)
  · refine v_aload_n (pc' := 10) dX1_makeBad_9 rfl rfl ?_
    refine v_iload_n (pc' := 11) dX1_makeBad_10 rfl rfl ?_
    refine v_cVR (pc' := 14) (c1_victimOf hl hS hA hW (nI s)) dX1_makeBad_11 lk_X1_144 mwX1_victimOf miX1_victimOf h0 rfl rfl rfl rfl (by decide) (Nat.le_of_ble_eq_true rfl) rfl ?_
    rw [p_vic_eq hW]
    refine v_istore_n2 (pc' := 15) dX1_makeBad_14 (by decide) rfl rfl ?_
    refine v_aload_n (pc' := 16) dX1_makeBad_15 rfl rfl ?_
    refine v_cVR (pc' := 19) (c1_isIdle hl hS hA hW) dX1_makeBad_16 lk_X1_147 mwX1_isIdle miX1_isIdle h0 rfl rfl rfl rfl (by decide) (Nat.le_of_ble_eq_true rfl) rfl ?_
    refine v_if_ne (tgt := 56) (pc' := 22) dX1_makeBad_19 (by decide) rfl (fun c_19 => ?_) (fun c_19 => ?_)
    · rw [z_b_ne0, decide_eq_true_eq] at c_19
      first
        | (have c2 : ¬ r 5 = -1 ∧ (p_hurt r (nI s) = r 5 ∨ p_comer r (nI s) = r 5) := by
             refine ⟨?_, ?_⟩
             · simpa [z_b] using c_19
             · first | exact Or.inl c_27 | exact Or.inr c_39
           have e : p_bad1 r s = p_drop r := if_pos ((p_bad1_iff hW (nI s)).mpr c2)
           exact tail _ (by rw [e]; exact hA.drop) ((((Fr.up (by omega)).tr (Fr.up (by omega))).tr (Fr.up (by omega))).tr (Fr.up (by omega))))
        | (have c2 : ¬ (¬ r 5 = -1 ∧ (p_hurt r (nI s) = r 5 ∨ p_comer r (nI s) = r 5)) := by
             rintro ⟨q1, q2⟩
             first
               | exact q1 c_19
               | (rcases q2 with q2 | q2
                  · exact c_27 q2
                  · exact c_39 q2)
           have e : p_bad1 r s = r := if_neg (fun q9 => c2 ((p_bad1_iff hW (nI s)).mp q9))
           exact tail _ (by rw [e]; exact hA) Fr.rf)
    · skip
      refine v_iload_n (pc' := 23) dX1_makeBad_22 rfl rfl ?_
      refine v_aload_n (pc' := 24) dX1_makeBad_23 rfl rfl ?_
      refine g_X1_55 (pc' := 27) rfl dX1_makeBad_24 (by assumption) rfl ?_
      refine v_icmp_eq (tgt := 42) (pc' := 30) dX1_makeBad_27 (by decide) rfl (fun c_27 => ?_) (fun c_27 => ?_)
      · rw [g6] at c_27
        refine v_aload_n (pc' := 43) dX1_makeBad_42 rfl rfl ?_
        refine v_cVV (pc' := 46) (c1_endJob hl h0) dX1_makeBad_43 lk_X1_48 mwX1_endJob miX1_endJob h0 rfl rfl rfl rfl (by decide) (Nat.le_of_ble_eq_true rfl) rfl ?_
        rintro _ rfl
        have e3 : z_up (z_up (z_up I a 6 (-1)) a 7 (-1)) a 8 0 a 10 = r 3 := by simp (disch := omega) only [z_up_row, z_row_at, z_row_row, pk_un]; exact g10
        refine v_aload_n (pc' := 47) dX1_makeBad_46 rfl rfl ?_
        refine v_dup (pc' := 48) dX1_makeBad_47 rfl rfl ?_
        refine g_X1_45 (pc' := 51) rfl dX1_makeBad_48 (by assumption) rfl ?_
        rw [e3]
        refine v_iconst (pc' := 52) dX1_makeBad_51 kc_1 rfl ?_
        refine v_iadd (pc' := 53) dX1_makeBad_52 rfl ?_
        refine p_X1_45 (pc' := 56) rfl dX1_makeBad_53 (by assumption) rfl ?_
        first
          | (have c2 : ¬ r 5 = -1 ∧ (p_hurt r (nI s) = r 5 ∨ p_comer r (nI s) = r 5) := by
               refine ⟨?_, ?_⟩
               · simpa [z_b] using c_19
               · first | exact Or.inl c_27 | exact Or.inr c_39
             have e : p_bad1 r s = p_drop r := if_pos ((p_bad1_iff hW (nI s)).mpr c2)
             exact tail _ (by rw [e]; exact hA.drop) ((((Fr.up (by omega)).tr (Fr.up (by omega))).tr (Fr.up (by omega))).tr (Fr.up (by omega))))
          | (have c2 : ¬ (¬ r 5 = -1 ∧ (p_hurt r (nI s) = r 5 ∨ p_comer r (nI s) = r 5)) := by
               rintro ⟨q1, q2⟩
               first
                 | exact q1 c_19
                 | (rcases q2 with q2 | q2
                    · exact c_27 q2
                    · exact c_39 q2)
             have e : p_bad1 r s = r := if_neg (fun q9 => c2 ((p_bad1_iff hW (nI s)).mp q9))
             exact tail _ (by rw [e]; exact hA) Fr.rf)
      · rw [g6] at c_27
        refine v_aload_n (pc' := 31) dX1_makeBad_30 rfl rfl ?_
        refine v_iload_n (pc' := 32) dX1_makeBad_31 rfl rfl ?_
        refine v_cVR (pc' := 35) (c1_moverTo hl hS hA hW (nI s)) dX1_makeBad_32 lk_X1_120 mwX1_moverTo miX1_moverTo h0 rfl rfl rfl rfl (by decide) (Nat.le_of_ble_eq_true rfl) rfl ?_
        refine v_aload_n (pc' := 36) dX1_makeBad_35 rfl rfl ?_
        refine g_X1_55 (pc' := 39) rfl dX1_makeBad_36 (by assumption) rfl ?_
        refine v_icmp_ne (tgt := 56) (pc' := 42) dX1_makeBad_39 (by decide) rfl (fun c_39 => ?_) (fun c_39 => ?_)
        · rw [g6] at c_39
          first
            | (have c2 : ¬ r 5 = -1 ∧ (p_hurt r (nI s) = r 5 ∨ p_comer r (nI s) = r 5) := by
                 refine ⟨?_, ?_⟩
                 · simpa [z_b] using c_19
                 · first | exact Or.inl c_27 | exact Or.inr c_39
               have e : p_bad1 r s = p_drop r := if_pos ((p_bad1_iff hW (nI s)).mpr c2)
               exact tail _ (by rw [e]; exact hA.drop) ((((Fr.up (by omega)).tr (Fr.up (by omega))).tr (Fr.up (by omega))).tr (Fr.up (by omega))))
            | (have c2 : ¬ (¬ r 5 = -1 ∧ (p_hurt r (nI s) = r 5 ∨ p_comer r (nI s) = r 5)) := by
                 rintro ⟨q1, q2⟩
                 first
                   | exact q1 c_19
                   | (rcases q2 with q2 | q2
                      · exact c_27 q2
                      · exact c_39 q2)
               have e : p_bad1 r s = r := if_neg (fun q9 => c2 ((p_bad1_iff hW (nI s)).mp q9))
               exact tail _ (by rw [e]; exact hA) Fr.rf)
        · rw [g6] at c_39
          refine v_aload_n (pc' := 43) dX1_makeBad_42 rfl rfl ?_
          refine v_cVV (pc' := 46) (c1_endJob hl h0) dX1_makeBad_43 lk_X1_48 mwX1_endJob miX1_endJob h0 rfl rfl rfl rfl (by decide) (Nat.le_of_ble_eq_true rfl) rfl ?_
          rintro _ rfl
          have e3 : z_up (z_up (z_up I a 6 (-1)) a 7 (-1)) a 8 0 a 10 = r 3 := by simp (disch := omega) only [z_up_row, z_row_at, z_row_row, pk_un]; exact g10
          refine v_aload_n (pc' := 47) dX1_makeBad_46 rfl rfl ?_
          refine v_dup (pc' := 48) dX1_makeBad_47 rfl rfl ?_
          refine g_X1_45 (pc' := 51) rfl dX1_makeBad_48 (by assumption) rfl ?_
          rw [e3]
          refine v_iconst (pc' := 52) dX1_makeBad_51 kc_1 rfl ?_
          refine v_iadd (pc' := 53) dX1_makeBad_52 rfl ?_
          refine p_X1_45 (pc' := 56) rfl dX1_makeBad_53 (by assumption) rfl ?_
          first
            | (have c2 : ¬ r 5 = -1 ∧ (p_hurt r (nI s) = r 5 ∨ p_comer r (nI s) = r 5) := by
                 refine ⟨?_, ?_⟩
                 · simpa [z_b] using c_19
                 · first | exact Or.inl c_27 | exact Or.inr c_39
               have e : p_bad1 r s = p_drop r := if_pos ((p_bad1_iff hW (nI s)).mpr c2)
               exact tail _ (by rw [e]; exact hA.drop) ((((Fr.up (by omega)).tr (Fr.up (by omega))).tr (Fr.up (by omega))).tr (Fr.up (by omega))))
            | (have c2 : ¬ (¬ r 5 = -1 ∧ (p_hurt r (nI s) = r 5 ∨ p_comer r (nI s) = r 5)) := by
                 rintro ⟨q1, q2⟩
                 first
                   | exact q1 c_19
                   | (rcases q2 with q2 | q2
                      · exact c_27 q2
                      · exact c_39 q2)
               have e : p_bad1 r s = r := if_neg (fun q9 => c2 ((p_bad1_iff hW (nI s)).mp q9))
               exact tail _ (by rw [e]; exact hA) Fr.rf)
  · rw [p_isStripe_of hs] at c_4
    exact absurd (z_b_eq0.mp c_4) (by decide)
set_option maxRecDepth 20000 in
set_option maxHeartbeats 4000000 in
theorem c1_makeBadOut (hl : l.stackTraces = false) (hS : ShS E G a) (hA : Abs I a r) (hW : WF r) (s : Int32) (hs : p_isStripe s = false) : z_CI E l mX1_makeBad 5 [.ref a, .int s] G I sz (fun x I' => x = -1 ∧ Abs I' a (r) ∧ Fr I I' a) := by
  obtain ⟨h0, h1, h2, h3, hT⟩ := id hS
  obtain ⟨⟨⟨g3, g4, g5, g6, g9, g10⟩, g78⟩, gb, gs, gt⟩ := id hA
  obtain ⟨⟨hc6, hc0⟩, -⟩ := id hW
  refine z_Ct.of hl pn_X1 [some (.ref a), some (.int s), none, none] rfl (Nat.le_of_ble_eq_true rfl) ?_
  refine v_iload_n (pc' := 1) dX1_makeBad_0 rfl rfl ?_
  refine v_cSNR (pc' := 4) (c4_isStripe hl s) dX1_makeBad_1 lk_X1_100 mwX4_isStripe msX4_isStripe rfl rfl (by decide) (Nat.le_of_ble_eq_true rfl) rfl ?_
  refine v_if_ne (tgt := 9) (pc' := 7) dX1_makeBad_4 (by decide) rfl (fun c_4 => ?_) (fun c_4 => ?_)
  · rw [hs] at c_4
    exact absurd rfl c_4
  · refine v_iconst (pc' := 8) dX1_makeBad_7 kc_m1 rfl ?_
    exact v_iret dX1_makeBad_8 rfl (Nat.le_refl _) (Nat.le_refl _) ⟨_, rfl, rfl, rfl, rfl, hA, Fr.rf⟩
set_option maxRecDepth 20000 in
set_option maxHeartbeats 4000000 in
theorem c1_startJob (hl : l.stackTraces = false) (hS : ShS E G a) (hA : Abs I a r) (hW : WF r) (t s : Nat) (ht : t < cnt r) (ht6 : t < 6) (hs : s < 12) {t3 s3 : Int32} (ht3 : t3 = nI t) (hs3 : s3 = nI s) (hc : p_canb r t3 s3 = true) : z_CI E l mX1_startJob 5 [.ref a, .int t3, .int s3] G I sz (fun x I' => x = p_bringv r t ∧ Abs I' a (p_bring r t (nI s)) ∧ Fr I I' a) := by
  obtain ⟨h0, h1, h2, h3, hT⟩ := id hS
  obtain ⟨⟨⟨g3, g4, g5, g6, g9, g10⟩, g78⟩, gb, gs, gt⟩ := id hA
  obtain ⟨⟨hc6, hc0⟩, -⟩ := id hW
  subst ht3; subst hs3
  have g := gt t ht
  have hj := hA.job (nI t) (nI s) (r 8 * tf r t 0)
  have hcj : cnt (p_br1 r t (nI s)) = cnt r := by unfold cnt; simp (disch := omega) only [p_br1, pk_un]
  have rt : ∀ k, z_up (z_up (z_up I a 6 (nI t)) a 7 (nI s)) a 8 (r 8 * tf r t 0) (a + 4 + 1 * t) k = I (a + 4 + 1 * t) k := fun k => by simp (disch := omega) only [z_up_row, z_row_ne]
  have r3 : ∀ k, z_up (z_up (z_up I a 6 (nI t)) a 7 (nI s)) a 8 (r 8 * tf r t 0) (a + 3) k = I (a + 3) k := fun k => by simp (disch := omega) only [z_up_row, z_row_ne]
  refine z_Ct.of hl pn_X1 [some (.ref a), some (.int (nI t)), some (.int (nI s)), none, none, none] rfl (Nat.le_of_ble_eq_true rfl) ?_
  refine v_aload_n (pc' := 1) dX1_startJob_0 rfl rfl ?_
  refine v_iload_n (pc' := 2) dX1_startJob_1 rfl rfl ?_
  refine v_cVR (pc' := 5) (c1_taskNumbered hl hS hA hW t ht rfl) dX1_startJob_2 lk_X1_64 mwX1_taskNumbered miX1_taskNumbered h0 rfl rfl rfl rfl (by decide) (Nat.le_of_ble_eq_true rfl) rfl ?_
  refine v_astore_n3 (pc' := 6) dX1_startJob_5 (by decide) rfl rfl ?_
  refine v_aload_n (pc' := 7) dX1_startJob_6 rfl rfl ?_
  refine v_ifnull (pc' := 10) dX1_startJob_7 rfl ?_
  refine v_aload_n (pc' := 11) dX1_startJob_10 rfl rfl ?_
  refine v_iload_n (pc' := 12) dX1_startJob_11 rfl rfl ?_
  refine v_iload_n (pc' := 13) dX1_startJob_12 rfl rfl ?_
  refine v_cVR (pc' := 16) (c1_canBring hl hS hA hW (nI t) (nI s)) dX1_startJob_13 lk_X1_153 mwX1_canBring miX1_canBring h0 rfl rfl rfl rfl (by decide) (Nat.le_of_ble_eq_true rfl) rfl ?_
  refine v_if_ne (tgt := 21) (pc' := 19) dX1_startJob_16 (by decide) rfl (fun c_16 => ?_) (fun c_16 => ?_)
  · refine v_aload_n (pc' := 22) dX1_startJob_21 rfl rfl ?_
    refine g_X1_21 (pc' := 25) rfl dX1_startJob_22 (by assumption) rfl ?_
    refine v_iconst (pc' := 26) dX1_startJob_25 kc_0 rfl ?_
    refine v_iald (pc' := 27) dX1_startJob_26 (0) rfl (by assumption) (by decide) (by decide) rfl ?_
    refine v_aload_n (pc' := 28) dX1_startJob_27 rfl rfl ?_
    refine g_X1_110 (pc' := 31) rfl dX1_startJob_28 (hT t ht6) rfl ?_
    rw [gs 0 (by omega), g.1]
    show z_V _ _ _ _ _ _ _ _ _ _ _ _ _ _ (.int (tf r t 0) :: .int (r 8) :: _)
    refine v_imul (pc' := 32) dX1_startJob_31 rfl ?_
    refine v_istore4 (pc' := 34) dX1_startJob_32 (by decide) rfl rfl ?_
    refine v_aload_n (pc' := 35) dX1_startJob_34 rfl rfl ?_
    refine v_iload_n (pc' := 36) dX1_startJob_35 rfl rfl ?_
    refine p_X1_55 (pc' := 39) rfl dX1_startJob_36 (by assumption) rfl ?_
    refine v_aload_n (pc' := 40) dX1_startJob_39 rfl rfl ?_
    refine v_iload_n (pc' := 41) dX1_startJob_40 rfl rfl ?_
    refine p_X1_58 (pc' := 44) rfl dX1_startJob_41 (by assumption) rfl ?_
    refine v_aload_n (pc' := 45) dX1_startJob_44 rfl rfl ?_
    refine v_iload (pc' := 47) dX1_startJob_45 rfl rfl ?_
    refine p_X1_61 (pc' := 50) rfl dX1_startJob_47 (by assumption) rfl ?_
    refine v_aload_n (pc' := 51) dX1_startJob_50 rfl rfl ?_
    refine g_X1_80 (pc' := 54) rfl dX1_startJob_51 (hT t ht6) rfl ?_
    rw [rt, g.2.2.2.2.2.1]
    refine v_if_ne (tgt := 70) (pc' := 57) dX1_startJob_54 (by decide) rfl (fun c_54 => ?_) (fun c_54 => ?_)
    · refine v_iload (pc' := 72) dX1_startJob_70 rfl rfl ?_
      refine v_aload_n (pc' := 73) dX1_startJob_72 rfl rfl ?_
      refine g_X1_21 (pc' := 76) rfl dX1_startJob_73 (by assumption) rfl ?_
      refine v_iconst (pc' := 77) dX1_startJob_76 kc_1 rfl ?_
      refine v_iald (pc' := 78) dX1_startJob_77 (1) rfl (by assumption) (by decide) (by decide) rfl ?_
      rw [r3, gs 1 (by omega)]
      show z_V _ _ _ _ _ _ _ _ _ _ _ _ _ _ (.int (r 9) :: _)
      refine v_iadd (pc' := 79) dX1_startJob_78 rfl ?_
      refine v_istore5 (pc' := 81) dX1_startJob_79 (by decide) rfl rfl ?_
      refine v_aload_n (pc' := 82) dX1_startJob_81 rfl rfl ?_
      refine v_iload_n (pc' := 83) dX1_startJob_82 rfl rfl ?_
      refine v_aload_n (pc' := 84) dX1_startJob_83 rfl rfl ?_
      refine g_X1_110 (pc' := 87) rfl dX1_startJob_84 (hT t ht6) rfl ?_
      rw [rt, g.1]
      refine v_cVR (pc' := 90) (c2_takesOneOf hl (hT t ht6) (nI s) (tf r t 0)) dX1_startJob_87 lk_X1_141 mwX2_takesOneOf miX2_takesOneOf (hT t ht6) rfl rfl rfl rfl (by decide) (Nat.le_of_ble_eq_true rfl) rfl ?_
      have ek : ∀ f n, k_one (z_up (z_up (z_up I a 6 (nI t)) a 7 (nI s)) a 8 (r 8 * tf r t 0) (a + 4 + 1 * t)) f n = p_one r t f n := fun f n => by rw [← g.one f n]; simp only [k_one, rt]
      rw [ek]
      refine v_if_eq (tgt := 104) (pc' := 93) dX1_startJob_90 (by decide) rfl (fun c_90 => ?_) (fun c_90 => ?_)
      · rw [z_b_eq0] at c_90
        refine v_iload (pc' := 106) dX1_startJob_104 rfl rfl ?_
        exact v_iret dX1_startJob_106 rfl (Nat.le_refl _) (Nat.le_refl _) ⟨_, rfl, rfl, rfl, by rw [p_bringv, if_neg c_54], by
          have ap := apart_iff hW ht hs c_54
          simp only [p_one, Bool.and_eq_true, Bool.and_eq_false_iff, decide_eq_true_eq, decide_eq_false_iff_not] at c_90
          first
            | (rw [p_bring, if_neg c_54, if_pos (ap.mp c_90)]
               exact (hj.tk t 5 3 (by rw [← p_br1, hcj]; exact ht) (by rw [← p_br1, hcj]; exact hc6) (by omega)).left _)
            | (rw [p_bring, if_neg c_54, if_neg (fun q9 => by
                 have u9 := ap.mpr q9
                 rcases c_90 with q | q | q
                 · exact q u9.1
                 · exact q u9.2.1
                 · exact q u9.2.2)]
               exact hj), by first | exact ((((Fr.up (by omega)).tr (Fr.up (by omega))).tr (Fr.up (by omega))).tr (Fr.up (by omega))).tr (Fr.up (by omega)) | exact ((Fr.up (by omega)).tr (Fr.up (by omega))).tr (Fr.up (by omega))⟩
      · rw [z_b_ne0] at c_90
        refine v_aload_n (pc' := 94) dX1_startJob_93 rfl rfl ?_
        refine v_iconst (pc' := 95) dX1_startJob_94 kc_3 rfl ?_
        refine p_X1_80 (pc' := 98) rfl dX1_startJob_95 (hT t ht6) rfl ?_
        refine v_aload_n (pc' := 99) dX1_startJob_98 rfl rfl ?_
        refine v_iload (pc' := 101) dX1_startJob_99 rfl rfl ?_
        refine p_X1_61 (pc' := 104) rfl dX1_startJob_101 (by assumption) rfl ?_
        refine v_iload (pc' := 106) dX1_startJob_104 rfl rfl ?_
        exact v_iret dX1_startJob_106 rfl (Nat.le_refl _) (Nat.le_refl _) ⟨_, rfl, rfl, rfl, by rw [p_bringv, if_neg c_54], by
          have ap := apart_iff hW ht hs c_54
          simp only [p_one, Bool.and_eq_true, Bool.and_eq_false_iff, decide_eq_true_eq, decide_eq_false_iff_not] at c_90
          first
            | (rw [p_bring, if_neg c_54, if_pos (ap.mp c_90)]
               exact (hj.tk t 5 3 (by rw [← p_br1, hcj]; exact ht) (by rw [← p_br1, hcj]; exact hc6) (by omega)).left _)
            | (rw [p_bring, if_neg c_54, if_neg (fun q9 => by
                 have u9 := ap.mpr q9
                 rcases c_90 with q | q | q
                 · exact q u9.1
                 · exact q u9.2.1
                 · exact q u9.2.2)]
               exact hj), by first | exact ((((Fr.up (by omega)).tr (Fr.up (by omega))).tr (Fr.up (by omega))).tr (Fr.up (by omega))).tr (Fr.up (by omega)) | exact ((Fr.up (by omega)).tr (Fr.up (by omega))).tr (Fr.up (by omega))⟩
    · refine v_aload_n (pc' := 58) dX1_startJob_57 rfl rfl ?_
      refine v_iconst (pc' := 59) dX1_startJob_58 kc_1 rfl ?_
      refine p_X1_80 (pc' := 62) rfl dX1_startJob_59 (hT t ht6) rfl ?_
      refine v_aload_n (pc' := 63) dX1_startJob_62 rfl rfl ?_
      refine v_iload_n (pc' := 64) dX1_startJob_63 rfl rfl ?_
      refine p_X1_156 (pc' := 67) rfl dX1_startJob_64 (hT t ht6) rfl ?_
      refine v_iload (pc' := 69) dX1_startJob_67 rfl rfl ?_
      exact v_iret dX1_startJob_69 rfl (Nat.le_refl _) (Nat.le_refl _) ⟨_, rfl, rfl, rfl, by rw [p_bringv, if_pos c_54], by rw [p_bring, if_pos c_54]; exact (hj.tk t 5 1 (by rw [← p_br1, hcj]; exact ht) (by rw [← p_br1, hcj]; exact hc6) (by omega)).tk t 6 (nI s) (by rw [← p_br1, cnt_upd (by omega), hcj]; exact ht) (by rw [← p_br1, cnt_upd (by omega), hcj]; exact hc6) (by omega), ((((Fr.up (by omega)).tr (Fr.up (by omega))).tr (Fr.up (by omega))).tr (Fr.up (by omega))).tr (Fr.up (by omega))⟩
  · rw [hc] at c_16
    exact absurd (z_b_eq0.mp c_16) (by decide)
set_option maxRecDepth 20000 in
set_option maxHeartbeats 4000000 in
theorem c1_startJobNone (hl : l.stackTraces = false) (hS : ShS E G a) (hA : Abs I a r) (hW : WF r) {t3 s3 : Int32} (hi : p_isTask r t3 = false) : z_CI E l mX1_startJob 5 [.ref a, .int t3, .int s3] G I sz (fun x I' => x = -1 ∧ Abs I' a (r) ∧ Fr I I' a) := by
  obtain ⟨h0, h1, h2, h3, hT⟩ := id hS
  obtain ⟨⟨⟨g3, g4, g5, g6, g9, g10⟩, g78⟩, gb, gs, gt⟩ := id hA
  obtain ⟨⟨hc6, hc0⟩, -⟩ := id hW
  refine z_Ct.of hl pn_X1 [some (.ref a), some (.int t3), some (.int s3), none, none, none] rfl (Nat.le_of_ble_eq_true rfl) ?_
  refine v_aload_n (pc' := 1) dX1_startJob_0 rfl rfl ?_
  refine v_iload_n (pc' := 2) dX1_startJob_1 rfl rfl ?_
  refine v_cVR (pc' := 5) (c1_taskNone hl hS hA hW t3 hi) dX1_startJob_2 lk_X1_64 mwX1_taskNumbered miX1_taskNumbered h0 rfl rfl rfl rfl (by decide) (Nat.le_of_ble_eq_true rfl) rfl ?_
  refine v_astoreN_n3 (pc' := 6) dX1_startJob_5 (by decide) rfl rfl ?_
  refine v_aloadN_n (pc' := 7) dX1_startJob_6 rfl rfl ?_
  refine v_ifnullN (tgt := 19) dX1_startJob_7 (by decide) ?_
  refine v_iconst (pc' := 20) dX1_startJob_19 kc_m1 rfl ?_
  exact v_iret dX1_startJob_20 rfl (Nat.le_refl _) (Nat.le_refl _) ⟨_, rfl, rfl, rfl, rfl, hA, Fr.rf⟩
set_option maxRecDepth 20000 in
set_option maxHeartbeats 4000000 in
theorem c1_startJobNot (hl : l.stackTraces = false) (hS : ShS E G a) (hA : Abs I a r) (hW : WF r) {t3 s3 : Int32} (t : Nat) (ht : t < cnt r) (ht3 : t3 = nI t) (hc : p_canb r t3 s3 = false) : z_CI E l mX1_startJob 5 [.ref a, .int t3, .int s3] G I sz (fun x I' => x = -1 ∧ Abs I' a (r) ∧ Fr I I' a) := by
  obtain ⟨h0, h1, h2, h3, hT⟩ := id hS
  obtain ⟨⟨⟨g3, g4, g5, g6, g9, g10⟩, g78⟩, gb, gs, gt⟩ := id hA
  obtain ⟨⟨hc6, hc0⟩, -⟩ := id hW
  refine z_Ct.of hl pn_X1 [some (.ref a), some (.int t3), some (.int s3), none, none, none] rfl (Nat.le_of_ble_eq_true rfl) ?_
  refine v_aload_n (pc' := 1) dX1_startJob_0 rfl rfl ?_
  refine v_iload_n (pc' := 2) dX1_startJob_1 rfl rfl ?_
  refine v_cVR (pc' := 5) (c1_taskNumbered hl hS hA hW t ht ht3) dX1_startJob_2 lk_X1_64 mwX1_taskNumbered miX1_taskNumbered h0 rfl rfl rfl rfl (by decide) (Nat.le_of_ble_eq_true rfl) rfl ?_
  refine v_astore_n3 (pc' := 6) dX1_startJob_5 (by decide) rfl rfl ?_
  refine v_aload_n (pc' := 7) dX1_startJob_6 rfl rfl ?_
  refine v_ifnull (pc' := 10) dX1_startJob_7 rfl ?_
  refine v_aload_n (pc' := 11) dX1_startJob_10 rfl rfl ?_
  refine v_iload_n (pc' := 12) dX1_startJob_11 rfl rfl ?_
  refine v_iload_n (pc' := 13) dX1_startJob_12 rfl rfl ?_
  refine v_cVR (pc' := 16) (c1_canBring hl hS hA hW t3 s3) dX1_startJob_13 lk_X1_153 mwX1_canBring miX1_canBring h0 rfl rfl rfl rfl (by decide) (Nat.le_of_ble_eq_true rfl) rfl ?_
  refine v_if_ne (tgt := 21) (pc' := 19) dX1_startJob_16 (by decide) rfl (fun c_16 => ?_) (fun c_16 => ?_)
  · rw [hc] at c_16
    exact absurd rfl c_16
  · refine v_iconst (pc' := 20) dX1_startJob_19 kc_m1 rfl ?_
    exact v_iret dX1_startJob_20 rfl (Nat.le_refl _) (Nat.le_refl _) ⟨_, rfl, rfl, rfl, rfl, hA, Fr.rf⟩
end CLS3
