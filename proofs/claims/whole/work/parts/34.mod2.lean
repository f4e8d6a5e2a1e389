/-! THE REFERENCE's own methods, on (written by wip/whole/gen_mod2.py) -/
section MOD2
variable {E : zE} {l : Launch} {G : zG} {I : zI} {sz d : Nat} {S : zS}
set_option maxRecDepth 20000 in
set_option maxHeartbeats 4000000 in
theorem m_append (hl : l.stackTraces = false) (hK : ShM E G d) (hM : AbsM I d S) (x : Int32) : z_CM E l mX5_append [.ref d, .int x] G I sz d (e_append S x) (nI (S.2.2.1.2 + 1)) S (s_append S x) := by
  obtain ⟨k0, kT, kN, kR, kD, kP, kF⟩ := id hK
  obtain ⟨⟨tn, tl, tc⟩, ⟨nN, nW⟩, ⟨aA, a14, aR⟩, aF, aS⟩ := id hM
  have tail : ∀ k9 : Nat, (e_append S x) = k9 → k9 ≠ 0 → k9 < 3 → z_V E l mX5_append (z_rm 8 0 0) 0 0 (z_q (fun v' G' I' sz' => ∃ y9, v' = some (.int y9) ∧ G' = G ∧ sz' = sz ∧ z_mP d (e_append S x) (nI (S.2.2.1.2 + 1)) S (s_append S x) I y9 I')) 0 0 G I sz 31 [some (.ref d), some (.int x)] [.int (nI k9), .ref d] := by
    intro k9 hk hne h3
    refine v_cVI (pc' := 34) (c5_refused hl k0 _) dX5_append_31 lk_X5_99 mwX5_refused miX5_refused k0 rfl rfl rfl rfl (by decide) (Nat.le_of_ble_eq_true rfl) rfl ?_
    rintro _ I1 ⟨rfl, hI1⟩
    have r1 : I1 d 0 = nI k9 := by rw [hI1, z_up_row, z_row_at, pk_us]
    have hM1 : AbsM I1 d S := by rw [hI1]; exact hM.fld 0 _ (by omega)
    have hF1 : FrM I I1 d := by rw [hI1]; exact FrM.up (by omega)
    obtain ⟨⟨bn, bl, bc⟩, ⟨bN, bW⟩, ⟨bA, b14, bR⟩, bF, bS⟩ := id hM1
    have bW2 : WF (I1 (d + 2)) := by rw [bN]; exact bW
    refine v_if_eq (tgt := 39) (pc' := 37) dX5_append_34 (by decide) rfl (fun c_34 => ?_) (fun c_34 => ?_)
    · rw [z_b_eq0, decide_eq_false_iff_not] at c_34
      exact absurd (nI_lt (a := 0) (by omega) (by omega)) c_34
    · refine v_iconst (pc' := 38) dX5_append_37 kc_0 rfl ?_
      exact v_iret dX5_append_38 rfl (Nat.le_refl _) (Nat.le_refl _) ⟨_, rfl, rfl, rfl, by rw [hk]; exact r1, fun q => absurd (hk.symm.trans q) hne, by rw [hk, if_neg hne]; exact hM1, hF1⟩
  have main : z_in x 0 255 = true → S.2.2.1.2 < 120 → z_V E l mX5_append (z_rm 8 0 0) 0 0 (z_q (fun v' G' I' sz' => ∃ y9, v' = some (.int y9) ∧ G' = G ∧ sz' = sz ∧ z_mP d (e_append S x) (nI (S.2.2.1.2 + 1)) S (s_append S x) I y9 I')) 0 0 G I sz 31 [some (.ref d), some (.int x)] [.int 0, .ref d] := by
    intro f1 f2
    refine v_cVI (pc' := 34) (c5_refused hl k0 _) dX5_append_31 lk_X5_99 mwX5_refused miX5_refused k0 rfl rfl rfl rfl (by decide) (Nat.le_of_ble_eq_true rfl) rfl ?_
    rintro _ I1 ⟨rfl, hI1⟩
    have r1 : I1 d 0 = 0 := by rw [hI1, z_up_row, z_row_at, pk_us]
    have hM1 : AbsM I1 d S := by rw [hI1]; exact hM.fld 0 _ (by omega)
    have hF1 : FrM I I1 d := by rw [hI1]; exact FrM.up (by omega)
    obtain ⟨⟨bn, bl, bc⟩, ⟨bN, bW⟩, ⟨bA, b14, bR⟩, bF, bS⟩ := id hM1
    have bW2 : WF (I1 (d + 2)) := by rw [bN]; exact bW
    have hkz : e_append S x = 0 := by simp [e_append, *]
    refine v_if_eq (tgt := 39) (pc' := 37) dX5_append_34 (by decide) rfl (fun c_34 => ?_) (fun c_34 => ?_)
    · obtain ⟨q, q1, q2, rfl⟩ := z_in_nI (lo := 0) (hi := 255) (by omega) (by omega) f1
      refine v_aload_n (pc' := 40) dX5_append_39 rfl rfl ?_
      refine g_X5_7 (pc' := 43) rfl dX5_append_40 (by assumption) rfl ?_
      refine v_aload_n (pc' := 44) dX5_append_43 rfl rfl ?_
      refine g_X5_96 (pc' := 47) rfl dX5_append_44 (by assumption) rfl ?_
      rw [bl]
      refine v_iload_n (pc' := 48) dX5_append_47 rfl rfl ?_
      refine v_iast (pc' := 49) dX5_append_48 (S.2.2.1.2) rfl kT f2 (by decide) rfl ?_
      refine v_aload_n (pc' := 50) dX5_append_49 rfl rfl ?_
      refine v_dup (pc' := 51) dX5_append_50 rfl rfl ?_
      refine g_X5_96 (pc' := 54) rfl dX5_append_51 (by assumption) rfl ?_
      rw [show z_up I1 (d + 1) S.2.2.1.2 (nI q) d 2 = nI S.2.2.1.2 by rw [z_up_ne _ _ _ _ (by omega)]; exact bl]
      refine v_iconst (pc' := 55) dX5_append_54 kc_1 rfl ?_
      refine v_iadd (pc' := 56) dX5_append_55 rfl ?_
      rw [nI_1]
      refine p_X5_96 (pc' := 59) rfl dX5_append_56 (by assumption) rfl ?_
      refine v_aload_n (pc' := 60) dX5_append_59 rfl rfl ?_
      refine g_X5_96 (pc' := 63) rfl dX5_append_60 (by assumption) rfl ?_
      exact v_iret dX5_append_63 rfl (Nat.le_refl _) (Nat.le_refl _) ⟨_, rfl, rfl, rfl, by rw [hkz, z_up_row, z_row_at, pk_un (by omega), z_up_ne _ _ _ _ (by omega)]; exact r1, fun _ => by rw [z_up_row, z_row_at, pk_us], by
        rw [hkz, s_append, nI_clamp (by omega), if_pos rfl]
        refine ⟨⟨?_, by rw [z_up_row, z_row_at, pk_us], fun k hk => ?_⟩, hM1.2.1.cg (by rw [z_up_ne _ _ _ _ (by omega), z_up_ne _ _ _ _ (by omega)]), hM1.2.2.1.cg (by rw [z_up_row, z_row_at, pk_un (by omega), z_up_ne _ _ _ _ (by omega)]) (by rw [z_up_ne _ _ _ _ (by omega), z_up_ne _ _ _ _ (by omega)]), hM1.2.2.2.1.cg (by rw [z_up_ne _ _ _ _ (by omega), z_up_ne _ _ _ _ (by omega)]), hM1.2.2.2.2.cg (by rw [z_up_ne _ _ _ _ (by omega), z_up_ne _ _ _ _ (by omega)])⟩
        · show S.2.2.1.2 + 1 ≤ 120
          omega
        · show (if k = S.2.2.1.2 then q else S.2.2.1.1 k) < 256 ∧ _ = nI (if k = S.2.2.1.2 then q else S.2.2.1.1 k)
          have hk' : k < S.2.2.1.2 + 1 := hk
          rw [z_up_ne _ _ _ _ (by omega), z_up_row, z_row_at]
          by_cases e : k = S.2.2.1.2
          · rw [if_pos e, e, pk_us]; exact ⟨by omega, rfl⟩
          · rw [if_neg e, pk_un e]; exact bc k (by omega), hF1.tr ((FrM.up (by omega)).tr (FrM.up (by omega)))⟩
    · exact absurd (by decide) c_34
  refine z_Ct.of hl pn_X5 [some (.ref d), some (.int x)] rfl (Nat.le_of_ble_eq_true rfl) ?_
  refine v_aload_n (pc' := 1) dX5_append_0 rfl rfl ?_
  refine v_iload_n (pc' := 2) dX5_append_1 rfl rfl ?_
  refine v_i2l (pc' := 3) dX5_append_2 rfl ?_
  refine v_lconst (pc' := 4) dX5_append_3 kl_0 rfl ?_
  refine v_ldc2 (pc' := 7) dX5_append_4 cn_X5_94 rfl ?_
  refine v_cSR (pc' := 10) (c5_in32 hl (x) 0 255 rfl rfl rfl) dX5_append_7 lk_X5_37 mwX5_in msX5_in rfl rfl (by decide) (Nat.le_of_ble_eq_true rfl) rfl ?_
  refine v_if_ne (tgt := 17) (pc' := 13) dX5_append_10 (by decide) rfl (fun c_10 => ?_) (fun c_10 => ?_)
  · first | rw [z_b_ne0] at c_10 | rw [z_b_eq0] at c_10
    refine v_aload_n (pc' := 18) dX5_append_17 rfl rfl ?_
    refine g_X5_96 (pc' := 21) rfl dX5_append_18 (by assumption) rfl ?_
    refine v_bipush (pc' := 23) dX5_append_21 kb_120 rfl ?_
    rw [tl]
    refine v_icmp_ne (tgt := 30) (pc' := 26) dX5_append_23 (by decide) rfl (fun c_23 => ?_) (fun c_23 => ?_)
    · have hn : S.2.2.1.2 < 120 := by
        have : ¬ S.2.2.1.2 = 120 := fun q => c_23 (by rw [q]; rfl)
        omega
      refine v_iconst (pc' := 31) dX5_append_30 kc_0 rfl ?_
      first
        | exact main c_10 hn
        | exact tail 1 (by simp [e_append, *]) (by omega) (by omega)
        | exact tail 2 (by simp [e_append, *]) (by omega) (by omega)
    · have hn : ¬ S.2.2.1.2 < 120 := by
        have : S.2.2.1.2 = 120 := (nI_eq (b := 120) (by omega) (by omega)).mp c_23
        omega
      refine v_iconst (pc' := 27) dX5_append_26 kc_2 rfl ?_
      refine v_goto (tgt := 31) dX5_append_27 (by decide) ?_
      first
        | exact main c_10 hn
        | exact tail 1 (by simp [e_append, *]) (by omega) (by omega)
        | exact tail 2 (by simp [e_append, *]) (by omega) (by omega)
  · first | rw [z_b_ne0] at c_10 | rw [z_b_eq0] at c_10
    refine v_iconst (pc' := 14) dX5_append_13 kc_1 rfl ?_
    refine v_goto (tgt := 31) dX5_append_14 (by decide) ?_
    first
      | exact main c_10 hn
      | exact tail 1 (by simp [e_append, *]) (by omega) (by omega)
      | exact tail 2 (by simp [e_append, *]) (by omega) (by omega)
set_option maxRecDepth 20000 in
set_option maxHeartbeats 4000000 in
theorem m_clearText (hl : l.stackTraces = false) (hK : ShM E G d) (hM : AbsM I d S) : z_CM E l mX5_clearText [.ref d] G I sz d 0 (nI S.2.2.1.2) S (S.1, S.2.1, (S.2.2.1.1, 0), S.2.2.2) := by
  obtain ⟨k0, kT, kN, kR, kD, kP, kF⟩ := id hK
  obtain ⟨⟨tn, tl, tc⟩, ⟨nN, nW⟩, ⟨aA, a14, aR⟩, aF, aS⟩ := id hM
  refine z_Ct.of hl pn_X5 [some (.ref d), none] rfl (Nat.le_of_ble_eq_true rfl) ?_
  refine v_aload_n (pc' := 1) dX5_clearText_0 rfl rfl ?_
  refine v_iconst (pc' := 2) dX5_clearText_1 kc_0 rfl ?_
  refine p_X5_33 (pc' := 5) rfl dX5_clearText_2 (by assumption) rfl ?_
  refine v_aload_n (pc' := 6) dX5_clearText_5 rfl rfl ?_
  refine g_X5_96 (pc' := 9) rfl dX5_clearText_6 (by assumption) rfl ?_
  rw [show z_up I d 0 0 d 2 = nI S.2.2.1.2 by rw [z_up_row, z_row_at, pk_un (by omega)]; exact tl]
  refine v_istore_n1 (pc' := 10) dX5_clearText_9 (by decide) rfl rfl ?_
  refine v_aload_n (pc' := 11) dX5_clearText_10 rfl rfl ?_
  refine v_iconst (pc' := 12) dX5_clearText_11 kc_0 rfl ?_
  refine p_X5_96 (pc' := 15) rfl dX5_clearText_12 (by assumption) rfl ?_
  refine v_iload_n (pc' := 16) dX5_clearText_15 rfl rfl ?_
  exact v_iret dX5_clearText_16 rfl (Nat.le_refl _) (Nat.le_refl _) ⟨_, rfl, rfl, rfl, by simp (disch := omega) only [z_up_row, z_row_row, z_row_at, pk_us, pk_un]; rfl, fun _ => rfl, by
    have h0 := hM.fld 0 0 (by omega)
    exact ⟨⟨Nat.zero_le _, by rw [z_up_row, z_row_at, pk_us]; rfl, fun k hk => absurd hk (Nat.not_lt_zero k)⟩, h0.2.1.cg (z_up_ne _ _ _ _ (by omega)), h0.2.2.1.cg (by rw [z_up_row, z_row_at, pk_un (by omega)]) (z_up_ne _ _ _ _ (by omega)), h0.2.2.2.1.cg (z_up_ne _ _ _ _ (by omega)), h0.2.2.2.2.cg (z_up_ne _ _ _ _ (by omega))⟩, (FrM.up (by omega)).tr (FrM.up (by omega))⟩
set_option maxRecDepth 20000 in
set_option maxHeartbeats 4000000 in
theorem m_idleIn (hl : l.stackTraces = false) (hK : ShM E G d) (hM : AbsM I d S) : z_CM E l mX5_idleIn [.ref d] G I sz d 0 (p_idle S.1) S S := by
  obtain ⟨k0, kT, kN, kR, kD, kP, kF⟩ := id hK
  obtain ⟨⟨tn, tl, tc⟩, ⟨nN, nW⟩, ⟨aA, a14, aR⟩, aF, aS⟩ := id hM
  have h0 := hM.fld 0 0 (by omega)
  have eN := h0.2.1.1
  refine z_Ct.of hl pn_X5 [some (.ref d)] rfl (Nat.le_of_ble_eq_true rfl) ?_
  refine v_aload_n (pc' := 1) dX5_idleIn_0 rfl rfl ?_
  refine v_iconst (pc' := 2) dX5_idleIn_1 kc_0 rfl ?_
  refine p_X5_33 (pc' := 5) rfl dX5_idleIn_2 (by assumption) rfl ?_
  refine v_aload_n (pc' := 6) dX5_idleIn_5 rfl rfl ?_
  refine g_X5_13 (pc' := 9) rfl dX5_idleIn_6 (by assumption) rfl ?_
  refine v_cSR (pc' := 12) (c5_idle hl kN (by rw [eN]; exact nW)) dX5_idleIn_9 lk_X5_185 mwX5_idle msX5_idle rfl rfl (by decide) (Nat.le_of_ble_eq_true rfl) rfl ?_
  rw [eN]
  exact v_iret dX5_idleIn_12 rfl (Nat.le_refl _) (Nat.le_refl _) ⟨_, rfl, rfl, rfl, by rw [z_up_row, z_row_at, pk_us]; rfl, fun _ => rfl, h0, FrM.up (by omega)⟩
set_option maxRecDepth 20000 in
set_option maxHeartbeats 4000000 in
theorem m_task (hl : l.stackTraces = false) (hK : ShM E G d) (hM : AbsM I d S) (t x : Int32) : z_CM E l mX5_task [.ref d, .int t, .int x] G I sz d (e_task S.1 t x) (v_task S.1 t x) S (S) := by
  obtain ⟨k0, kT, kN, kR, kD, kP, kF⟩ := id hK
  obtain ⟨⟨tn, tl, tc⟩, ⟨nN, nW⟩, ⟨aA, a14, aR⟩, aF, aS⟩ := id hM
  have tail : ∀ k9 : Nat, (e_task S.1 t x) = k9 → k9 ≠ 0 → k9 < 3 → z_V E l mX5_task (z_rm 8 0 0) 0 0 (z_q (fun v' G' I' sz' => ∃ y9, v' = some (.int y9) ∧ G' = G ∧ sz' = sz ∧ z_mP d (e_task S.1 t x) (v_task S.1 t x) S (S) I y9 I')) 0 0 G I sz 33 [some (.ref d), some (.int t), some (.int x)] [.int (nI k9), .ref d] := by
    intro k9 hk hne h3
    refine v_cVI (pc' := 36) (c5_refused hl k0 _) dX5_task_33 lk_X5_99 mwX5_refused miX5_refused k0 rfl rfl rfl rfl (by decide) (Nat.le_of_ble_eq_true rfl) rfl ?_
    rintro _ I1 ⟨rfl, hI1⟩
    have r1 : I1 d 0 = nI k9 := by rw [hI1, z_up_row, z_row_at, pk_us]
    have hM1 : AbsM I1 d S := by rw [hI1]; exact hM.fld 0 _ (by omega)
    have hF1 : FrM I I1 d := by rw [hI1]; exact FrM.up (by omega)
    obtain ⟨⟨bn, bl, bc⟩, ⟨bN, bW⟩, ⟨bA, b14, bR⟩, bF, bS⟩ := id hM1
    have bW2 : WF (I1 (d + 2)) := by rw [bN]; exact bW
    refine v_if_eq (tgt := 41) (pc' := 39) dX5_task_36 (by decide) rfl (fun c_36 => ?_) (fun c_36 => ?_)
    · rw [z_b_eq0, decide_eq_false_iff_not] at c_36
      exact absurd (nI_lt (a := 0) (by omega) (by omega)) c_36
    · refine v_iconst (pc' := 40) dX5_task_39 kc_0 rfl ?_
      exact v_iret dX5_task_40 rfl (Nat.le_refl _) (Nat.le_refl _) ⟨_, rfl, rfl, rfl, by rw [hk]; exact r1, fun q => absurd (hk.symm.trans q) hne, by rw [hk, if_neg hne]; exact hM1, hF1⟩
  have main : p_isTask S.1 t = true → z_in x 0 5 = true → z_V E l mX5_task (z_rm 8 0 0) 0 0 (z_q (fun v' G' I' sz' => ∃ y9, v' = some (.int y9) ∧ G' = G ∧ sz' = sz ∧ z_mP d (e_task S.1 t x) (v_task S.1 t x) S (S) I y9 I')) 0 0 G I sz 33 [some (.ref d), some (.int t), some (.int x)] [.int 0, .ref d] := by
    intro f1 f2
    refine v_cVI (pc' := 36) (c5_refused hl k0 _) dX5_task_33 lk_X5_99 mwX5_refused miX5_refused k0 rfl rfl rfl rfl (by decide) (Nat.le_of_ble_eq_true rfl) rfl ?_
    rintro _ I1 ⟨rfl, hI1⟩
    have r1 : I1 d 0 = 0 := by rw [hI1, z_up_row, z_row_at, pk_us]
    have hM1 : AbsM I1 d S := by rw [hI1]; exact hM.fld 0 _ (by omega)
    have hF1 : FrM I I1 d := by rw [hI1]; exact FrM.up (by omega)
    obtain ⟨⟨bn, bl, bc⟩, ⟨bN, bW⟩, ⟨bA, b14, bR⟩, bF, bS⟩ := id hM1
    have bW2 : WF (I1 (d + 2)) := by rw [bN]; exact bW
    have hkz : e_task S.1 t x = 0 := by simp [e_task, *]
    refine v_if_eq (tgt := 41) (pc' := 39) dX5_task_36 (by decide) rfl (fun c_36 => ?_) (fun c_36 => ?_)
    · obtain ⟨u, hu, rfl⟩ := p_isTask_nI nW f1
      obtain ⟨q, q1, q2, rfl⟩ := z_in_nI (lo := 0) (hi := 5) (by omega) (by omega) f2
      have h6 := nW.1.1
      refine v_aload_n (pc' := 42) dX5_task_41 rfl rfl ?_
      refine g_X5_13 (pc' := 45) rfl dX5_task_42 (by assumption) rfl ?_
      refine v_iload_n (pc' := 46) dX5_task_45 rfl rfl ?_
      refine v_iload_n (pc' := 47) dX5_task_46 rfl rfl ?_
      refine v_cSR (pc' := 50) (c5_of hl kN u q rfl rfl (by omega)) dX5_task_47 lk_X5_43 mwX5_of msX5_of rfl rfl (by decide) (Nat.le_of_ble_eq_true rfl) rfl ?_
      rw [bN]
      exact v_iret dX5_task_50 rfl (Nat.le_refl _) (Nat.le_refl _) ⟨_, rfl, rfl, rfl, by rw [hkz]; exact r1, fun _ => by rw [v_task, nI_clamp (by omega), nI_clamp (by omega)], by rw [hkz]; exact hM1, hF1⟩
    · exact absurd (by decide) c_36
  refine z_Ct.of hl pn_X5 [some (.ref d), some (.int t), some (.int x)] rfl (Nat.le_of_ble_eq_true rfl) ?_
  refine v_aload_n (pc' := 1) dX5_task_0 rfl rfl ?_
  refine v_aload_n (pc' := 2) dX5_task_1 rfl rfl ?_
  refine g_X5_13 (pc' := 5) rfl dX5_task_2 (by assumption) rfl ?_
  refine v_iload_n (pc' := 6) dX5_task_5 rfl rfl ?_
  refine v_cSR (pc' := 9) (c5_isTask hl kN t) dX5_task_6 lk_X5_62 mwX5_isTask msX5_isTask rfl rfl (by decide) (Nat.le_of_ble_eq_true rfl) rfl ?_
  rw [nN]
  refine v_if_ne (tgt := 16) (pc' := 12) dX5_task_9 (by decide) rfl (fun c_9 => ?_) (fun c_9 => ?_)
  · first | rw [z_b_ne0] at c_9 | rw [z_b_eq0] at c_9
    refine v_iload_n (pc' := 17) dX5_task_16 rfl rfl ?_
    refine v_i2l (pc' := 18) dX5_task_17 rfl ?_
    refine v_lconst (pc' := 19) dX5_task_18 kl_0 rfl ?_
    refine v_ldc2 (pc' := 22) dX5_task_19 cn_X5_163 rfl ?_
    refine v_cSR (pc' := 25) (c5_in32 hl (x) 0 5 rfl rfl rfl) dX5_task_22 lk_X5_37 mwX5_in msX5_in rfl rfl (by decide) (Nat.le_of_ble_eq_true rfl) rfl ?_
    refine v_if_eq (tgt := 32) (pc' := 28) dX5_task_25 (by decide) rfl (fun c_25 => ?_) (fun c_25 => ?_)
    · first | rw [z_b_ne0] at c_25 | rw [z_b_eq0] at c_25
      refine v_iconst (pc' := 33) dX5_task_32 kc_2 rfl ?_
      first
        | exact main c_9 c_25
        | exact tail 1 (by simp [e_task, *]) (by omega) (by omega)
        | exact tail 2 (by simp [e_task, *]) (by omega) (by omega)
    · first | rw [z_b_ne0] at c_25 | rw [z_b_eq0] at c_25
      refine v_iconst (pc' := 29) dX5_task_28 kc_0 rfl ?_
      refine v_goto (tgt := 33) dX5_task_29 (by decide) ?_
      first
        | exact main c_9 c_25
        | exact tail 1 (by simp [e_task, *]) (by omega) (by omega)
        | exact tail 2 (by simp [e_task, *]) (by omega) (by omega)
  · first | rw [z_b_ne0] at c_9 | rw [z_b_eq0] at c_9
    refine v_iconst (pc' := 13) dX5_task_12 kc_1 rfl ?_
    refine v_goto (tgt := 33) dX5_task_13 (by decide) ?_
    first
      | exact main c_9 c_25
      | exact tail 1 (by simp [e_task, *]) (by omega) (by omega)
      | exact tail 2 (by simp [e_task, *]) (by omega) (by omega)
set_option maxRecDepth 20000 in
set_option maxHeartbeats 4000000 in
theorem m_stripe (hl : l.stackTraces = false) (hK : ShM E G d) (hM : AbsM I d S) (s x : Int32) : z_CM E l mX5_stripe [.ref d, .int s, .int x] G I sz d (e_stripe s x) (v_stripe S.1 s x) S (S) := by
  obtain ⟨k0, kT, kN, kR, kD, kP, kF⟩ := id hK
  obtain ⟨⟨tn, tl, tc⟩, ⟨nN, nW⟩, ⟨aA, a14, aR⟩, aF, aS⟩ := id hM
  have tail : ∀ k9 : Nat, (e_stripe s x) = k9 → k9 ≠ 0 → k9 < 3 → z_V E l mX5_stripe (z_rm 8 0 0) 0 0 (z_q (fun v' G' I' sz' => ∃ y9, v' = some (.int y9) ∧ G' = G ∧ sz' = sz ∧ z_mP d (e_stripe s x) (v_stripe S.1 s x) S (S) I y9 I')) 0 0 G I sz 29 [some (.ref d), some (.int s), some (.int x)] [.int (nI k9), .ref d] := by
    intro k9 hk hne h3
    refine v_cVI (pc' := 32) (c5_refused hl k0 _) dX5_stripe_29 lk_X5_99 mwX5_refused miX5_refused k0 rfl rfl rfl rfl (by decide) (Nat.le_of_ble_eq_true rfl) rfl ?_
    rintro _ I1 ⟨rfl, hI1⟩
    have r1 : I1 d 0 = nI k9 := by rw [hI1, z_up_row, z_row_at, pk_us]
    have hM1 : AbsM I1 d S := by rw [hI1]; exact hM.fld 0 _ (by omega)
    have hF1 : FrM I I1 d := by rw [hI1]; exact FrM.up (by omega)
    obtain ⟨⟨bn, bl, bc⟩, ⟨bN, bW⟩, ⟨bA, b14, bR⟩, bF, bS⟩ := id hM1
    have bW2 : WF (I1 (d + 2)) := by rw [bN]; exact bW
    refine v_if_eq (tgt := 37) (pc' := 35) dX5_stripe_32 (by decide) rfl (fun c_32 => ?_) (fun c_32 => ?_)
    · rw [z_b_eq0, decide_eq_false_iff_not] at c_32
      exact absurd (nI_lt (a := 0) (by omega) (by omega)) c_32
    · refine v_iconst (pc' := 36) dX5_stripe_35 kc_0 rfl ?_
      exact v_iret dX5_stripe_36 rfl (Nat.le_refl _) (Nat.le_refl _) ⟨_, rfl, rfl, rfl, by rw [hk]; exact r1, fun q => absurd (hk.symm.trans q) hne, by rw [hk, if_neg hne]; exact hM1, hF1⟩
  have main : p_isStripe s = true → z_in x 0 2 = true → z_V E l mX5_stripe (z_rm 8 0 0) 0 0 (z_q (fun v' G' I' sz' => ∃ y9, v' = some (.int y9) ∧ G' = G ∧ sz' = sz ∧ z_mP d (e_stripe s x) (v_stripe S.1 s x) S (S) I y9 I')) 0 0 G I sz 29 [some (.ref d), some (.int s), some (.int x)] [.int 0, .ref d] := by
    intro f1 f2
    refine v_cVI (pc' := 32) (c5_refused hl k0 _) dX5_stripe_29 lk_X5_99 mwX5_refused miX5_refused k0 rfl rfl rfl rfl (by decide) (Nat.le_of_ble_eq_true rfl) rfl ?_
    rintro _ I1 ⟨rfl, hI1⟩
    have r1 : I1 d 0 = 0 := by rw [hI1, z_up_row, z_row_at, pk_us]
    have hM1 : AbsM I1 d S := by rw [hI1]; exact hM.fld 0 _ (by omega)
    have hF1 : FrM I I1 d := by rw [hI1]; exact FrM.up (by omega)
    obtain ⟨⟨bn, bl, bc⟩, ⟨bN, bW⟩, ⟨bA, b14, bR⟩, bF, bS⟩ := id hM1
    have bW2 : WF (I1 (d + 2)) := by rw [bN]; exact bW
    have hkz : e_stripe s x = 0 := by simp [e_stripe, *]
    refine v_if_eq (tgt := 37) (pc' := 35) dX5_stripe_32 (by decide) rfl (fun c_32 => ?_) (fun c_32 => ?_)
    · obtain ⟨u, hu, rfl⟩ := p_isStripe_nI f1
      refine v_iload_n (pc' := 38) dX5_stripe_37 rfl rfl ?_
      refine v_if_ne (tgt := 52) (pc' := 41) dX5_stripe_38 (by decide) rfl (fun c_38 => ?_) (fun c_38 => ?_)
      · refine v_iload_n (pc' := 53) dX5_stripe_52 rfl rfl ?_
        refine v_iconst (pc' := 54) dX5_stripe_53 kc_1 rfl ?_
        refine v_icmp_ne (tgt := 68) (pc' := 57) dX5_stripe_54 (by decide) rfl (fun c_54 => ?_) (fun c_54 => ?_)
        · refine v_aload_n (pc' := 69) dX5_stripe_68 rfl rfl ?_
          refine g_X5_13 (pc' := 72) rfl dX5_stripe_69 (by assumption) rfl ?_
          refine v_bipush (pc' := 74) dX5_stripe_72 kb_11 rfl ?_
          refine v_iload_n (pc' := 75) dX5_stripe_74 rfl rfl ?_
          refine v_iadd (pc' := 76) dX5_stripe_75 rfl ?_
          refine v_iald (pc' := 77) dX5_stripe_76 (11 + u) (z_ix11 u) kN (by omega) (by decide) rfl ?_
          first | rw [bN] | skip
          exact v_iret dX5_stripe_77 rfl (Nat.le_refl _) (Nat.le_refl _) ⟨_, rfl, rfl, rfl, by rw [hkz]; exact r1, fun _ => by unfold v_stripe; first | rw [if_pos c_38] | (rw [if_neg c_38, if_pos c_54]; done) | (rw [if_neg c_38, if_neg c_54, nI_clamp (by omega)]; done), by rw [hkz]; exact hM1, hF1⟩
        · refine v_aload_n (pc' := 58) dX5_stripe_57 rfl rfl ?_
          refine g_X5_13 (pc' := 61) rfl dX5_stripe_58 (by assumption) rfl ?_
          refine v_iload_n (pc' := 62) dX5_stripe_61 rfl rfl ?_
          refine v_cSR (pc' := 65) (c5_comer hl kN bW2 (nI u)) dX5_stripe_62 lk_X5_55 mwX5_comer msX5_comer rfl rfl (by decide) (Nat.le_of_ble_eq_true rfl) rfl ?_
          rw [bN]
          refine v_goto (tgt := 77) dX5_stripe_65 (by decide) ?_
          first | rw [bN] | skip
          exact v_iret dX5_stripe_77 rfl (Nat.le_refl _) (Nat.le_refl _) ⟨_, rfl, rfl, rfl, by rw [hkz]; exact r1, fun _ => by unfold v_stripe; first | rw [if_pos c_38] | (rw [if_neg c_38, if_pos c_54]; done) | (rw [if_neg c_38, if_neg c_54, nI_clamp (by omega)]; done), by rw [hkz]; exact hM1, hF1⟩
      · refine v_aload_n (pc' := 42) dX5_stripe_41 rfl rfl ?_
        refine g_X5_13 (pc' := 45) rfl dX5_stripe_42 (by assumption) rfl ?_
        refine v_iload_n (pc' := 46) dX5_stripe_45 rfl rfl ?_
        refine v_cSR (pc' := 49) (c5_taker hl kN bW2 (nI u)) dX5_stripe_46 lk_X5_51 mwX5_taker msX5_taker rfl rfl (by decide) (Nat.le_of_ble_eq_true rfl) rfl ?_
        rw [bN]
        refine v_goto (tgt := 77) dX5_stripe_49 (by decide) ?_
        first | rw [bN] | skip
        exact v_iret dX5_stripe_77 rfl (Nat.le_refl _) (Nat.le_refl _) ⟨_, rfl, rfl, rfl, by rw [hkz]; exact r1, fun _ => by unfold v_stripe; first | rw [if_pos c_38] | (rw [if_neg c_38, if_pos c_54]; done) | (rw [if_neg c_38, if_neg c_54, nI_clamp (by omega)]; done), by rw [hkz]; exact hM1, hF1⟩
    · exact absurd (by decide) c_32
  refine z_Ct.of hl pn_X5 [some (.ref d), some (.int s), some (.int x)] rfl (Nat.le_of_ble_eq_true rfl) ?_
  refine v_aload_n (pc' := 1) dX5_stripe_0 rfl rfl ?_
  refine v_iload_n (pc' := 2) dX5_stripe_1 rfl rfl ?_
  refine v_cSR (pc' := 5) (c5_isStripe hl s) dX5_stripe_2 lk_X5_65 mwX5_isStripe msX5_isStripe rfl rfl (by decide) (Nat.le_of_ble_eq_true rfl) rfl ?_
  refine v_if_ne (tgt := 12) (pc' := 8) dX5_stripe_5 (by decide) rfl (fun c_5 => ?_) (fun c_5 => ?_)
  · first | rw [z_b_ne0] at c_5 | rw [z_b_eq0] at c_5
    refine v_iload_n (pc' := 13) dX5_stripe_12 rfl rfl ?_
    refine v_i2l (pc' := 14) dX5_stripe_13 rfl ?_
    refine v_lconst (pc' := 15) dX5_stripe_14 kl_0 rfl ?_
    refine v_ldc2 (pc' := 18) dX5_stripe_15 cn_X5_165 rfl ?_
    refine v_cSR (pc' := 21) (c5_in32 hl (x) 0 2 rfl rfl rfl) dX5_stripe_18 lk_X5_37 mwX5_in msX5_in rfl rfl (by decide) (Nat.le_of_ble_eq_true rfl) rfl ?_
    refine v_if_eq (tgt := 28) (pc' := 24) dX5_stripe_21 (by decide) rfl (fun c_21 => ?_) (fun c_21 => ?_)
    · first | rw [z_b_ne0] at c_21 | rw [z_b_eq0] at c_21
      refine v_iconst (pc' := 29) dX5_stripe_28 kc_2 rfl ?_
      first
        | exact main c_5 c_21
        | exact tail 1 (by simp [e_stripe, *]) (by omega) (by omega)
        | exact tail 2 (by simp [e_stripe, *]) (by omega) (by omega)
    · first | rw [z_b_ne0] at c_21 | rw [z_b_eq0] at c_21
      refine v_iconst (pc' := 25) dX5_stripe_24 kc_0 rfl ?_
      refine v_goto (tgt := 29) dX5_stripe_25 (by decide) ?_
      first
        | exact main c_5 c_21
        | exact tail 1 (by simp [e_stripe, *]) (by omega) (by omega)
        | exact tail 2 (by simp [e_stripe, *]) (by omega) (by omega)
  · first | rw [z_b_ne0] at c_5 | rw [z_b_eq0] at c_5
    refine v_iconst (pc' := 9) dX5_stripe_8 kc_1 rfl ?_
    refine v_goto (tgt := 29) dX5_stripe_9 (by decide) ?_
    first
      | exact main c_5 c_21
      | exact tail 1 (by simp [e_stripe, *]) (by omega) (by omega)
      | exact tail 2 (by simp [e_stripe, *]) (by omega) (by omega)
set_option maxRecDepth 20000 in
set_option maxHeartbeats 4000000 in
theorem m_job (hl : l.stackTraces = false) (hK : ShM E G d) (hM : AbsM I d S) (x : Int32) : z_CM E l mX5_job [.ref d, .int x] G I sz d (e_job x) (v_job S.1 x) S (S) := by
  obtain ⟨k0, kT, kN, kR, kD, kP, kF⟩ := id hK
  obtain ⟨⟨tn, tl, tc⟩, ⟨nN, nW⟩, ⟨aA, a14, aR⟩, aF, aS⟩ := id hM
  have tail : ∀ k9 : Nat, (e_job x) = k9 → k9 ≠ 0 → k9 < 3 → z_V E l mX5_job (z_rm 8 0 0) 0 0 (z_q (fun v' G' I' sz' => ∃ y9, v' = some (.int y9) ∧ G' = G ∧ sz' = sz ∧ z_mP d (e_job x) (v_job S.1 x) S (S) I y9 I')) 0 0 G I sz 18 [some (.ref d), some (.int x)] [.int (nI k9), .ref d] := by
    intro k9 hk hne h3
    refine v_cVI (pc' := 21) (c5_refused hl k0 _) dX5_job_18 lk_X5_99 mwX5_refused miX5_refused k0 rfl rfl rfl rfl (by decide) (Nat.le_of_ble_eq_true rfl) rfl ?_
    rintro _ I1 ⟨rfl, hI1⟩
    have r1 : I1 d 0 = nI k9 := by rw [hI1, z_up_row, z_row_at, pk_us]
    have hM1 : AbsM I1 d S := by rw [hI1]; exact hM.fld 0 _ (by omega)
    have hF1 : FrM I I1 d := by rw [hI1]; exact FrM.up (by omega)
    obtain ⟨⟨bn, bl, bc⟩, ⟨bN, bW⟩, ⟨bA, b14, bR⟩, bF, bS⟩ := id hM1
    have bW2 : WF (I1 (d + 2)) := by rw [bN]; exact bW
    refine v_if_eq (tgt := 26) (pc' := 24) dX5_job_21 (by decide) rfl (fun c_21 => ?_) (fun c_21 => ?_)
    · rw [z_b_eq0, decide_eq_false_iff_not] at c_21
      exact absurd (nI_lt (a := 0) (by omega) (by omega)) c_21
    · refine v_iconst (pc' := 25) dX5_job_24 kc_0 rfl ?_
      exact v_iret dX5_job_25 rfl (Nat.le_refl _) (Nat.le_refl _) ⟨_, rfl, rfl, rfl, by rw [hk]; exact r1, fun q => absurd (hk.symm.trans q) hne, by rw [hk, if_neg hne]; exact hM1, hF1⟩
  have main : z_in x 0 2 = true → z_V E l mX5_job (z_rm 8 0 0) 0 0 (z_q (fun v' G' I' sz' => ∃ y9, v' = some (.int y9) ∧ G' = G ∧ sz' = sz ∧ z_mP d (e_job x) (v_job S.1 x) S (S) I y9 I')) 0 0 G I sz 18 [some (.ref d), some (.int x)] [.int 0, .ref d] := by
    intro f1
    refine v_cVI (pc' := 21) (c5_refused hl k0 _) dX5_job_18 lk_X5_99 mwX5_refused miX5_refused k0 rfl rfl rfl rfl (by decide) (Nat.le_of_ble_eq_true rfl) rfl ?_
    rintro _ I1 ⟨rfl, hI1⟩
    have r1 : I1 d 0 = 0 := by rw [hI1, z_up_row, z_row_at, pk_us]
    have hM1 : AbsM I1 d S := by rw [hI1]; exact hM.fld 0 _ (by omega)
    have hF1 : FrM I I1 d := by rw [hI1]; exact FrM.up (by omega)
    obtain ⟨⟨bn, bl, bc⟩, ⟨bN, bW⟩, ⟨bA, b14, bR⟩, bF, bS⟩ := id hM1
    have bW2 : WF (I1 (d + 2)) := by rw [bN]; exact bW
    have hkz : e_job x = 0 := by simp [e_job, *]
    refine v_if_eq (tgt := 26) (pc' := 24) dX5_job_21 (by decide) rfl (fun c_21 => ?_) (fun c_21 => ?_)
    · obtain ⟨q, q1, q2, rfl⟩ := z_in_nI (lo := 0) (hi := 2) (by omega) (by omega) f1
      refine v_aload_n (pc' := 27) dX5_job_26 rfl rfl ?_
      refine g_X5_13 (pc' := 30) rfl dX5_job_27 (by assumption) rfl ?_
      refine v_iconst (pc' := 31) dX5_job_30 kc_5 rfl ?_
      refine v_iald (pc' := 32) dX5_job_31 (5) rfl kN (by decide) (by decide) rfl ?_
      rw [bN]
      refine v_iconst (pc' := 33) dX5_job_32 kc_m1 rfl ?_
      refine v_icmp_ne (tgt := 40) (pc' := 36) dX5_job_33 (by decide) rfl (fun c_33 => ?_) (fun c_33 => ?_)
      · refine v_aload_n (pc' := 41) dX5_job_40 rfl rfl ?_
        refine g_X5_13 (pc' := 44) rfl dX5_job_41 (by assumption) rfl ?_
        refine v_iconst (pc' := 45) dX5_job_44 kc_5 rfl ?_
        refine v_iload_n (pc' := 46) dX5_job_45 rfl rfl ?_
        refine v_iadd (pc' := 47) dX5_job_46 rfl ?_
        refine v_iald (pc' := 48) dX5_job_47 (5 + q) (nI_add 5 q) kN (by omega) (by decide) rfl ?_
        first | rw [bN] | skip
        exact v_iret dX5_job_48 rfl (Nat.le_refl _) (Nat.le_refl _) ⟨_, rfl, rfl, rfl, by rw [hkz]; exact r1, fun _ => by unfold v_job; first | (rw [if_pos c_33]; done) | (rw [if_neg c_33, nI_clamp (by omega)]; done), by rw [hkz]; exact hM1, hF1⟩
      · refine v_iconst (pc' := 37) dX5_job_36 kc_m1 rfl ?_
        refine v_goto (tgt := 48) dX5_job_37 (by decide) ?_
        first | rw [bN] | skip
        exact v_iret dX5_job_48 rfl (Nat.le_refl _) (Nat.le_refl _) ⟨_, rfl, rfl, rfl, by rw [hkz]; exact r1, fun _ => by unfold v_job; first | (rw [if_pos c_33]; done) | (rw [if_neg c_33, nI_clamp (by omega)]; done), by rw [hkz]; exact hM1, hF1⟩
    · exact absurd (by decide) c_21
  refine z_Ct.of hl pn_X5 [some (.ref d), some (.int x)] rfl (Nat.le_of_ble_eq_true rfl) ?_
  refine v_aload_n (pc' := 1) dX5_job_0 rfl rfl ?_
  refine v_iload_n (pc' := 2) dX5_job_1 rfl rfl ?_
  refine v_i2l (pc' := 3) dX5_job_2 rfl ?_
  refine v_lconst (pc' := 4) dX5_job_3 kl_0 rfl ?_
  refine v_ldc2 (pc' := 7) dX5_job_4 cn_X5_165 rfl ?_
  refine v_cSR (pc' := 10) (c5_in32 hl (x) 0 2 rfl rfl rfl) dX5_job_7 lk_X5_37 mwX5_in msX5_in rfl rfl (by decide) (Nat.le_of_ble_eq_true rfl) rfl ?_
  refine v_if_eq (tgt := 17) (pc' := 13) dX5_job_10 (by decide) rfl (fun c_10 => ?_) (fun c_10 => ?_)
  · first | rw [z_b_ne0] at c_10 | rw [z_b_eq0] at c_10
    refine v_iconst (pc' := 18) dX5_job_17 kc_1 rfl ?_
    first
      | exact main c_10
      | exact tail 1 (by simp [e_job, *]) (by omega) (by omega)
      | exact tail 2 (by simp [e_job, *]) (by omega) (by omega)
  · first | rw [z_b_ne0] at c_10 | rw [z_b_eq0] at c_10
    refine v_iconst (pc' := 14) dX5_job_13 kc_0 rfl ?_
    refine v_goto (tgt := 18) dX5_job_14 (by decide) ?_
    first
      | exact main c_10
      | exact tail 1 (by simp [e_job, *]) (by omega) (by omega)
      | exact tail 2 (by simp [e_job, *]) (by omega) (by omega)
set_option maxRecDepth 20000 in
set_option maxHeartbeats 4000000 in
theorem m_setting (hl : l.stackTraces = false) (hK : ShM E G d) (hM : AbsM I d S) (x : Int32) : z_CM E l mX5_setting [.ref d, .int x] G I sz d (e_job x) (v_setting S.1 x) S (S) := by
  obtain ⟨k0, kT, kN, kR, kD, kP, kF⟩ := id hK
  obtain ⟨⟨tn, tl, tc⟩, ⟨nN, nW⟩, ⟨aA, a14, aR⟩, aF, aS⟩ := id hM
  have tail : ∀ k9 : Nat, (e_job x) = k9 → k9 ≠ 0 → k9 < 3 → z_V E l mX5_setting (z_rm 8 0 0) 0 0 (z_q (fun v' G' I' sz' => ∃ y9, v' = some (.int y9) ∧ G' = G ∧ sz' = sz ∧ z_mP d (e_job x) (v_setting S.1 x) S (S) I y9 I')) 0 0 G I sz 18 [some (.ref d), some (.int x)] [.int (nI k9), .ref d] := by
    intro k9 hk hne h3
    refine v_cVI (pc' := 21) (c5_refused hl k0 _) dX5_setting_18 lk_X5_99 mwX5_refused miX5_refused k0 rfl rfl rfl rfl (by decide) (Nat.le_of_ble_eq_true rfl) rfl ?_
    rintro _ I1 ⟨rfl, hI1⟩
    have r1 : I1 d 0 = nI k9 := by rw [hI1, z_up_row, z_row_at, pk_us]
    have hM1 : AbsM I1 d S := by rw [hI1]; exact hM.fld 0 _ (by omega)
    have hF1 : FrM I I1 d := by rw [hI1]; exact FrM.up (by omega)
    obtain ⟨⟨bn, bl, bc⟩, ⟨bN, bW⟩, ⟨bA, b14, bR⟩, bF, bS⟩ := id hM1
    have bW2 : WF (I1 (d + 2)) := by rw [bN]; exact bW
    refine v_if_eq (tgt := 26) (pc' := 24) dX5_setting_21 (by decide) rfl (fun c_21 => ?_) (fun c_21 => ?_)
    · rw [z_b_eq0, decide_eq_false_iff_not] at c_21
      exact absurd (nI_lt (a := 0) (by omega) (by omega)) c_21
    · refine v_iconst (pc' := 25) dX5_setting_24 kc_0 rfl ?_
      exact v_iret dX5_setting_25 rfl (Nat.le_refl _) (Nat.le_refl _) ⟨_, rfl, rfl, rfl, by rw [hk]; exact r1, fun q => absurd (hk.symm.trans q) hne, by rw [hk, if_neg hne]; exact hM1, hF1⟩
  have main : z_in x 0 2 = true → z_V E l mX5_setting (z_rm 8 0 0) 0 0 (z_q (fun v' G' I' sz' => ∃ y9, v' = some (.int y9) ∧ G' = G ∧ sz' = sz ∧ z_mP d (e_job x) (v_setting S.1 x) S (S) I y9 I')) 0 0 G I sz 18 [some (.ref d), some (.int x)] [.int 0, .ref d] := by
    intro f1
    refine v_cVI (pc' := 21) (c5_refused hl k0 _) dX5_setting_18 lk_X5_99 mwX5_refused miX5_refused k0 rfl rfl rfl rfl (by decide) (Nat.le_of_ble_eq_true rfl) rfl ?_
    rintro _ I1 ⟨rfl, hI1⟩
    have r1 : I1 d 0 = 0 := by rw [hI1, z_up_row, z_row_at, pk_us]
    have hM1 : AbsM I1 d S := by rw [hI1]; exact hM.fld 0 _ (by omega)
    have hF1 : FrM I I1 d := by rw [hI1]; exact FrM.up (by omega)
    obtain ⟨⟨bn, bl, bc⟩, ⟨bN, bW⟩, ⟨bA, b14, bR⟩, bF, bS⟩ := id hM1
    have bW2 : WF (I1 (d + 2)) := by rw [bN]; exact bW
    have hkz : e_job x = 0 := by simp [e_job, *]
    refine v_if_eq (tgt := 26) (pc' := 24) dX5_setting_21 (by decide) rfl (fun c_21 => ?_) (fun c_21 => ?_)
    · obtain ⟨q, q1, q2, rfl⟩ := z_in_nI (lo := 0) (hi := 2) (by omega) (by omega) f1
      refine v_aload_n (pc' := 27) dX5_setting_26 rfl rfl ?_
      refine g_X5_13 (pc' := 30) rfl dX5_setting_27 (by assumption) rfl ?_
      refine v_bipush (pc' := 32) dX5_setting_30 kb_8 rfl ?_
      refine v_iload_n (pc' := 33) dX5_setting_32 rfl rfl ?_
      refine v_iadd (pc' := 34) dX5_setting_33 rfl ?_
      refine v_iald (pc' := 35) dX5_setting_34 (8 + q) (nI_add 8 q) kN (by omega) (by decide) rfl ?_
      rw [bN]
      exact v_iret dX5_setting_35 rfl (Nat.le_refl _) (Nat.le_refl _) ⟨_, rfl, rfl, rfl, by rw [hkz]; exact r1, fun _ => by rw [v_setting, nI_clamp (by omega)], by rw [hkz]; exact hM1, hF1⟩
    · exact absurd (by decide) c_21
  refine z_Ct.of hl pn_X5 [some (.ref d), some (.int x)] rfl (Nat.le_of_ble_eq_true rfl) ?_
  refine v_aload_n (pc' := 1) dX5_setting_0 rfl rfl ?_
  refine v_iload_n (pc' := 2) dX5_setting_1 rfl rfl ?_
  refine v_i2l (pc' := 3) dX5_setting_2 rfl ?_
  refine v_lconst (pc' := 4) dX5_setting_3 kl_0 rfl ?_
  refine v_ldc2 (pc' := 7) dX5_setting_4 cn_X5_165 rfl ?_
  refine v_cSR (pc' := 10) (c5_in32 hl (x) 0 2 rfl rfl rfl) dX5_setting_7 lk_X5_37 mwX5_in msX5_in rfl rfl (by decide) (Nat.le_of_ble_eq_true rfl) rfl ?_
  refine v_if_eq (tgt := 17) (pc' := 13) dX5_setting_10 (by decide) rfl (fun c_10 => ?_) (fun c_10 => ?_)
  · first | rw [z_b_ne0] at c_10 | rw [z_b_eq0] at c_10
    refine v_iconst (pc' := 18) dX5_setting_17 kc_1 rfl ?_
    first
      | exact main c_10
      | exact tail 1 (by simp [e_job, *]) (by omega) (by omega)
      | exact tail 2 (by simp [e_job, *]) (by omega) (by omega)
  · first | rw [z_b_ne0] at c_10 | rw [z_b_eq0] at c_10
    refine v_iconst (pc' := 14) dX5_setting_13 kc_0 rfl ?_
    refine v_goto (tgt := 18) dX5_setting_14 (by decide) ?_
    first
      | exact main c_10
      | exact tail 1 (by simp [e_job, *]) (by omega) (by omega)
      | exact tail 2 (by simp [e_job, *]) (by omega) (by omega)
set_option maxRecDepth 20000 in
set_option maxHeartbeats 4000000 in
theorem m_add (hl : l.stackTraces = false) (hK : ShM E G d) (hM : AbsM I d S) (w v : Int32) : z_CM E l mX5_add [.ref d, .int w, .int v] G I sz d (e_add S.1 w v) (nI (cnt S.1)) S (s_now S (t_add S.1 w v)) := by
  obtain ⟨k0, kT, kN, kR, kD, kP, kF⟩ := id hK
  obtain ⟨⟨tn, tl, tc⟩, ⟨nN, nW⟩, ⟨aA, a14, aR⟩, aF, aS⟩ := id hM
  have tail : ∀ k9 : Nat, (e_add S.1 w v) = k9 → k9 ≠ 0 → k9 < 3 → z_V E l mX5_add (z_rm 8 0 0) 0 0 (z_q (fun v' G' I' sz' => ∃ y9, v' = some (.int y9) ∧ G' = G ∧ sz' = sz ∧ z_mP d (e_add S.1 w v) (nI (cnt S.1)) S (s_now S (t_add S.1 w v)) I y9 I')) 0 0 G I sz 45 [some (.ref d), some (.int w), some (.int v)] [.int (nI k9), .ref d] := by
    intro k9 hk hne h3
    refine v_cVI (pc' := 48) (c5_refused hl k0 _) dX5_add_45 lk_X5_99 mwX5_refused miX5_refused k0 rfl rfl rfl rfl (by decide) (Nat.le_of_ble_eq_true rfl) rfl ?_
    rintro _ I1 ⟨rfl, hI1⟩
    have r1 : I1 d 0 = nI k9 := by rw [hI1, z_up_row, z_row_at, pk_us]
    have hM1 : AbsM I1 d S := by rw [hI1]; exact hM.fld 0 _ (by omega)
    have hF1 : FrM I I1 d := by rw [hI1]; exact FrM.up (by omega)
    obtain ⟨⟨bn, bl, bc⟩, ⟨bN, bW⟩, ⟨bA, b14, bR⟩, bF, bS⟩ := id hM1
    have bW2 : WF (I1 (d + 2)) := by rw [bN]; exact bW
    refine v_if_eq (tgt := 53) (pc' := 51) dX5_add_48 (by decide) rfl (fun c_48 => ?_) (fun c_48 => ?_)
    · rw [z_b_eq0, decide_eq_false_iff_not] at c_48
      exact absurd (nI_lt (a := 0) (by omega) (by omega)) c_48
    · refine v_iconst (pc' := 52) dX5_add_51 kc_0 rfl ?_
      exact v_iret dX5_add_52 rfl (Nat.le_refl _) (Nat.le_refl _) ⟨_, rfl, rfl, rfl, by rw [hk]; exact r1, fun q => absurd (hk.symm.trans q) hne, by rw [hk, if_neg hne]; exact hM1, hF1⟩
  have main : z_in w 1 6 = true → z_in v 0 996 = true → cnt S.1 < 6 → z_V E l mX5_add (z_rm 8 0 0) 0 0 (z_q (fun v' G' I' sz' => ∃ y9, v' = some (.int y9) ∧ G' = G ∧ sz' = sz ∧ z_mP d (e_add S.1 w v) (nI (cnt S.1)) S (s_now S (t_add S.1 w v)) I y9 I')) 0 0 G I sz 45 [some (.ref d), some (.int w), some (.int v)] [.int 0, .ref d] := by
    intro f1 f2 f3
    refine v_cVI (pc' := 48) (c5_refused hl k0 _) dX5_add_45 lk_X5_99 mwX5_refused miX5_refused k0 rfl rfl rfl rfl (by decide) (Nat.le_of_ble_eq_true rfl) rfl ?_
    rintro _ I1 ⟨rfl, hI1⟩
    have r1 : I1 d 0 = 0 := by rw [hI1, z_up_row, z_row_at, pk_us]
    have hM1 : AbsM I1 d S := by rw [hI1]; exact hM.fld 0 _ (by omega)
    have hF1 : FrM I I1 d := by rw [hI1]; exact FrM.up (by omega)
    obtain ⟨⟨bn, bl, bc⟩, ⟨bN, bW⟩, ⟨bA, b14, bR⟩, bF, bS⟩ := id hM1
    have bW2 : WF (I1 (d + 2)) := by rw [bN]; exact bW
    have hkz : e_add S.1 w v = 0 := by simp [e_add, *]
    refine v_if_eq (tgt := 53) (pc' := 51) dX5_add_48 (by decide) rfl (fun c_48 => ?_) (fun c_48 => ?_)
    · refine v_aload_n (pc' := 54) dX5_add_53 rfl rfl ?_
      refine v_cVV (pc' := 57) (c5_remember hl hK hM1) dX5_add_54 lk_X5_171 mwX5_remember miX5_remember k0 rfl rfl rfl rfl (by decide) (Nat.le_of_ble_eq_true rfl) rfl ?_
      rintro I2 ⟨hA2, hq2, hw2⟩
      have hM2 := hM1.rem hA2 hq2 hw2
      have r2 : I2 d 0 = 0 := by rw [hw2 0 (by omega)]; exact r1
      have hF2 : FrM I I2 d := hF1.tr (fun q hq => hq2 q (by omega) (by omega))
      obtain ⟨-, ⟨eN, eW⟩, -, -, -⟩ := id hM2
      have eW2 : WF (I2 (d + 2)) := by rw [eN]; exact eW
      refine v_aload_n (pc' := 58) dX5_add_57 rfl rfl ?_
      refine g_X5_13 (pc' := 61) rfl dX5_add_58 (by assumption) rfl ?_
      refine v_iload_n (pc' := 62) dX5_add_61 rfl rfl ?_
      refine v_iload_n (pc' := 63) dX5_add_62 rfl rfl ?_
      refine v_cSI (pc' := 66) (c5_addOn hl kN w v (by rw [eN]; exact nW.1.2) (by rw [eN]; exact f3)) dX5_add_63 lk_X5_112 mwX5_addOn msX5_addOn rfl rfl (by decide) (Nat.le_of_ble_eq_true rfl) rfl ?_
      rintro _ _ ⟨rfl, rfl⟩
      exact v_iret dX5_add_66 rfl (Nat.le_refl _) (Nat.le_refl _) ⟨_, rfl, rfl, rfl, by rw [hkz, z_row_ne _ _ _ (by omega)]; exact r2, fun _ => by rw [eN]; exact nW.1.2, by rw [hkz, eN]; show AbsM _ d (s_now S (t_add S.1 w v)); rw [t_add, if_pos f3]; exact hM2.nowr (by
        obtain ⟨a, a1, a2, rfl⟩ := z_in_nI (lo := 1) (hi := 6) (by omega) (by omega) f1
        obtain ⟨b, b1, b2, rfl⟩ := z_in_nI (lo := 0) (hi := 996) (by omega) (by omega) f2
        exact WF_add nW f3 (by rw [nI_toInt (by omega)]; omega) (by rw [nI_toInt (by omega)]; omega)), hF2.tr (FrM.row (by omega))⟩
    · exact absurd (by decide) c_48
  refine z_Ct.of hl pn_X5 [some (.ref d), some (.int w), some (.int v)] rfl (Nat.le_of_ble_eq_true rfl) ?_
  refine v_aload_n (pc' := 1) dX5_add_0 rfl rfl ?_
  refine v_iload_n (pc' := 2) dX5_add_1 rfl rfl ?_
  refine v_i2l (pc' := 3) dX5_add_2 rfl ?_
  refine v_lconst (pc' := 4) dX5_add_3 kl_1 rfl ?_
  refine v_ldc2 (pc' := 7) dX5_add_4 cn_X5_167 rfl ?_
  refine v_cSR (pc' := 10) (c5_in32 hl (w) 1 6 rfl rfl rfl) dX5_add_7 lk_X5_37 mwX5_in msX5_in rfl rfl (by decide) (Nat.le_of_ble_eq_true rfl) rfl ?_
  refine v_if_eq (tgt := 25) (pc' := 13) dX5_add_10 (by decide) rfl (fun c_10 => ?_) (fun c_10 => ?_)
  · first | rw [z_b_ne0] at c_10 | rw [z_b_eq0] at c_10
    refine v_iconst (pc' := 26) dX5_add_25 kc_1 rfl ?_
    refine v_goto (tgt := 45) dX5_add_26 (by decide) ?_
    first
      | exact main c_10 c_22 hc
      | exact tail 1 (by simp [e_add, *]) (by omega) (by omega)
      | exact tail 2 (by simp [e_add, *]) (by omega) (by omega)
  · first | rw [z_b_ne0] at c_10 | rw [z_b_eq0] at c_10
    refine v_iload_n (pc' := 14) dX5_add_13 rfl rfl ?_
    refine v_i2l (pc' := 15) dX5_add_14 rfl ?_
    refine v_lconst (pc' := 16) dX5_add_15 kl_0 rfl ?_
    refine v_ldc2 (pc' := 19) dX5_add_16 cn_X5_169 rfl ?_
    refine v_cSR (pc' := 22) (c5_in32 hl (v) 0 996 rfl rfl rfl) dX5_add_19 lk_X5_37 mwX5_in msX5_in rfl rfl (by decide) (Nat.le_of_ble_eq_true rfl) rfl ?_
    refine v_if_ne (tgt := 29) (pc' := 25) dX5_add_22 (by decide) rfl (fun c_22 => ?_) (fun c_22 => ?_)
    · first | rw [z_b_ne0] at c_22 | rw [z_b_eq0] at c_22
      refine v_aload_n (pc' := 30) dX5_add_29 rfl rfl ?_
      refine g_X5_13 (pc' := 33) rfl dX5_add_30 (by assumption) rfl ?_
      refine v_iconst (pc' := 34) dX5_add_33 kc_0 rfl ?_
      refine v_iald (pc' := 35) dX5_add_34 (0) rfl kN (by decide) (by decide) rfl ?_
      rw [nN, nW.1.2]
      refine v_bipush (pc' := 37) dX5_add_35 kb_6 rfl ?_
      refine v_icmp_ge (tgt := 44) (pc' := 40) dX5_add_37 (by decide) rfl (fun c_37 => ?_) (fun c_37 => ?_)
      · have hc : ¬ cnt S.1 < 6 := fun q => nI_ge (b := 6) q (by omega) c_37
        refine v_iconst (pc' := 45) dX5_add_44 kc_2 rfl ?_
        first
          | exact main c_10 c_22 hc
          | exact tail 1 (by simp [e_add, *]) (by omega) (by omega)
          | exact tail 2 (by simp [e_add, *]) (by omega) (by omega)
      · have hc : cnt S.1 < 6 := by
          rcases Nat.lt_or_ge (cnt S.1) 6 with q | q
          · exact q
          · exact absurd (nI_le (a := 6) q (by have := nW.1.1; omega)) c_37
        refine v_iconst (pc' := 41) dX5_add_40 kc_0 rfl ?_
        refine v_goto (tgt := 45) dX5_add_41 (by decide) ?_
        first
          | exact main c_10 c_22 hc
          | exact tail 1 (by simp [e_add, *]) (by omega) (by omega)
          | exact tail 2 (by simp [e_add, *]) (by omega) (by omega)
    · first | rw [z_b_ne0] at c_22 | rw [z_b_eq0] at c_22
      refine v_iconst (pc' := 26) dX5_add_25 kc_1 rfl ?_
      refine v_goto (tgt := 45) dX5_add_26 (by decide) ?_
      first
        | exact main c_10 c_22 hc
        | exact tail 1 (by simp [e_add, *]) (by omega) (by omega)
        | exact tail 2 (by simp [e_add, *]) (by omega) (by omega)
set_option maxRecDepth 20000 in
set_option maxHeartbeats 4000000 in
theorem m_bring (hl : l.stackTraces = false) (hK : ShM E G d) (hM : AbsM I d S) (t s : Int32) : z_CM E l mX5_bring [.ref d, .int t, .int s] G I sz d (e_bring S.1 t s) (t_jobv S.1 t s) S (s_now S (t_job S.1 t s)) := by
  obtain ⟨k0, kT, kN, kR, kD, kP, kF⟩ := id hK
  obtain ⟨⟨tn, tl, tc⟩, ⟨nN, nW⟩, ⟨aA, a14, aR⟩, aF, aS⟩ := id hM
  have tail : ∀ k9 : Nat, (e_bring S.1 t s) = k9 → k9 ≠ 0 → k9 < 3 → z_V E l mX5_bring (z_rm 8 0 0) 0 0 (z_q (fun v' G' I' sz' => ∃ y9, v' = some (.int y9) ∧ G' = G ∧ sz' = sz ∧ z_mP d (e_bring S.1 t s) (t_jobv S.1 t s) S (s_now S (t_job S.1 t s)) I y9 I')) 0 0 G I sz 40 [some (.ref d), some (.int t), some (.int s)] [.int (nI k9), .ref d] := by
    intro k9 hk hne h3
    refine v_cVI (pc' := 43) (c5_refused hl k0 _) dX5_bring_40 lk_X5_99 mwX5_refused miX5_refused k0 rfl rfl rfl rfl (by decide) (Nat.le_of_ble_eq_true rfl) rfl ?_
    rintro _ I1 ⟨rfl, hI1⟩
    have r1 : I1 d 0 = nI k9 := by rw [hI1, z_up_row, z_row_at, pk_us]
    have hM1 : AbsM I1 d S := by rw [hI1]; exact hM.fld 0 _ (by omega)
    have hF1 : FrM I I1 d := by rw [hI1]; exact FrM.up (by omega)
    obtain ⟨⟨bn, bl, bc⟩, ⟨bN, bW⟩, ⟨bA, b14, bR⟩, bF, bS⟩ := id hM1
    have bW2 : WF (I1 (d + 2)) := by rw [bN]; exact bW
    refine v_if_eq (tgt := 48) (pc' := 46) dX5_bring_43 (by decide) rfl (fun c_43 => ?_) (fun c_43 => ?_)
    · rw [z_b_eq0, decide_eq_false_iff_not] at c_43
      exact absurd (nI_lt (a := 0) (by omega) (by omega)) c_43
    · refine v_iconst (pc' := 47) dX5_bring_46 kc_0 rfl ?_
      exact v_iret dX5_bring_47 rfl (Nat.le_refl _) (Nat.le_refl _) ⟨_, rfl, rfl, rfl, by rw [hk]; exact r1, fun q => absurd (hk.symm.trans q) hne, by rw [hk, if_neg hne]; exact hM1, hF1⟩
  have main : p_isTask S.1 t = true → p_isStripe s = true → p_canb S.1 t s = true → z_V E l mX5_bring (z_rm 8 0 0) 0 0 (z_q (fun v' G' I' sz' => ∃ y9, v' = some (.int y9) ∧ G' = G ∧ sz' = sz ∧ z_mP d (e_bring S.1 t s) (t_jobv S.1 t s) S (s_now S (t_job S.1 t s)) I y9 I')) 0 0 G I sz 40 [some (.ref d), some (.int t), some (.int s)] [.int 0, .ref d] := by
    intro f1 f2 f3
    refine v_cVI (pc' := 43) (c5_refused hl k0 _) dX5_bring_40 lk_X5_99 mwX5_refused miX5_refused k0 rfl rfl rfl rfl (by decide) (Nat.le_of_ble_eq_true rfl) rfl ?_
    rintro _ I1 ⟨rfl, hI1⟩
    have r1 : I1 d 0 = 0 := by rw [hI1, z_up_row, z_row_at, pk_us]
    have hM1 : AbsM I1 d S := by rw [hI1]; exact hM.fld 0 _ (by omega)
    have hF1 : FrM I I1 d := by rw [hI1]; exact FrM.up (by omega)
    obtain ⟨⟨bn, bl, bc⟩, ⟨bN, bW⟩, ⟨bA, b14, bR⟩, bF, bS⟩ := id hM1
    have bW2 : WF (I1 (d + 2)) := by rw [bN]; exact bW
    have hkz : e_bring S.1 t s = 0 := by simp [e_bring, *]
    refine v_if_eq (tgt := 48) (pc' := 46) dX5_bring_43 (by decide) rfl (fun c_43 => ?_) (fun c_43 => ?_)
    · obtain ⟨u, s0, rfl, rfl, hu, hs0, h5, hsw, hdis⟩ := canb_of nW f3
      have h6 := nW.1.1
      refine v_aload_n (pc' := 49) dX5_bring_48 rfl rfl ?_
      refine v_cVV (pc' := 52) (c5_remember hl hK hM1) dX5_bring_49 lk_X5_171 mwX5_remember miX5_remember k0 rfl rfl rfl rfl (by decide) (Nat.le_of_ble_eq_true rfl) rfl ?_
      rintro I2 ⟨hA2, hq2, hw2⟩
      have hM2 := hM1.rem hA2 hq2 hw2
      have r2 : I2 d 0 = 0 := by rw [hw2 0 (by omega)]; exact r1
      have hF2 : FrM I I2 d := hF1.tr (fun q hq => hq2 q (by omega) (by omega))
      obtain ⟨-, ⟨eN, eW⟩, -, -, -⟩ := id hM2
      have eW2 : WF (I2 (d + 2)) := by rw [eN]; exact eW
      refine v_aload_n (pc' := 53) dX5_bring_52 rfl rfl ?_
      refine g_X5_13 (pc' := 56) rfl dX5_bring_53 (by assumption) rfl ?_
      refine v_iload_n (pc' := 57) dX5_bring_56 rfl rfl ?_
      refine v_iload_n (pc' := 58) dX5_bring_57 rfl rfl ?_
      refine v_cSI (pc' := 61) (c5_bringOn hl kN u (nI s0) (by omega) rfl) dX5_bring_58 lk_X5_123 mwX5_bringOn msX5_bringOn rfl rfl (by decide) (Nat.le_of_ble_eq_true rfl) rfl ?_
      rintro _ _ ⟨rfl, rfl⟩
      exact v_iret dX5_bring_61 rfl (Nat.le_refl _) (Nat.le_refl _) ⟨_, rfl, rfl, rfl, by rw [hkz, z_row_ne _ _ _ (by omega)]; exact r2, fun _ => by rw [eN]; rw [t_jobv, if_pos f3, nI_clamp (by omega)], by rw [hkz, eN]; show AbsM _ d (s_now S (t_job S.1 (nI u) (nI s0))); rw [t_job, if_pos f3, nI_clamp (by omega)]; exact hM2.nowr (WF_bring nW hu hs0 h5 hsw hdis), hF2.tr (FrM.row (by omega))⟩
    · exact absurd (by decide) c_43
  refine z_Ct.of hl pn_X5 [some (.ref d), some (.int t), some (.int s)] rfl (Nat.le_of_ble_eq_true rfl) ?_
  refine v_aload_n (pc' := 1) dX5_bring_0 rfl rfl ?_
  refine v_aload_n (pc' := 2) dX5_bring_1 rfl rfl ?_
  refine g_X5_13 (pc' := 5) rfl dX5_bring_2 (by assumption) rfl ?_
  refine v_iload_n (pc' := 6) dX5_bring_5 rfl rfl ?_
  refine v_cSR (pc' := 9) (c5_isTask hl kN t) dX5_bring_6 lk_X5_62 mwX5_isTask msX5_isTask rfl rfl (by decide) (Nat.le_of_ble_eq_true rfl) rfl ?_
  rw [nN]
  refine v_if_eq (tgt := 19) (pc' := 12) dX5_bring_9 (by decide) rfl (fun c_9 => ?_) (fun c_9 => ?_)
  · first | rw [z_b_ne0] at c_9 | rw [z_b_eq0] at c_9
    refine v_iconst (pc' := 20) dX5_bring_19 kc_1 rfl ?_
    refine v_goto (tgt := 40) dX5_bring_20 (by decide) ?_
    first
      | exact main c_9 c_16 c_32
      | exact tail 1 (by simp [e_bring, *]) (by omega) (by omega)
      | exact tail 2 (by simp [e_bring, *]) (by omega) (by omega)
  · first | rw [z_b_ne0] at c_9 | rw [z_b_eq0] at c_9
    refine v_iload_n (pc' := 13) dX5_bring_12 rfl rfl ?_
    refine v_cSR (pc' := 16) (c5_isStripe hl s) dX5_bring_13 lk_X5_65 mwX5_isStripe msX5_isStripe rfl rfl (by decide) (Nat.le_of_ble_eq_true rfl) rfl ?_
    refine v_if_ne (tgt := 23) (pc' := 19) dX5_bring_16 (by decide) rfl (fun c_16 => ?_) (fun c_16 => ?_)
    · first | rw [z_b_ne0] at c_16 | rw [z_b_eq0] at c_16
      refine v_aload_n (pc' := 24) dX5_bring_23 rfl rfl ?_
      refine g_X5_13 (pc' := 27) rfl dX5_bring_24 (by assumption) rfl ?_
      refine v_iload_n (pc' := 28) dX5_bring_27 rfl rfl ?_
      refine v_iload_n (pc' := 29) dX5_bring_28 rfl rfl ?_
      refine v_cSR (pc' := 32) (c5_canBring hl kN (by rw [nN]; exact nW) t s) dX5_bring_29 lk_X5_119 mwX5_canBring msX5_canBring rfl rfl (by decide) (Nat.le_of_ble_eq_true rfl) rfl ?_
      rw [nN]
      refine v_if_eq (tgt := 39) (pc' := 35) dX5_bring_32 (by decide) rfl (fun c_32 => ?_) (fun c_32 => ?_)
      · first | rw [z_b_ne0] at c_32 | rw [z_b_eq0] at c_32
        refine v_iconst (pc' := 40) dX5_bring_39 kc_2 rfl ?_
        first
          | exact main c_9 c_16 c_32
          | exact tail 1 (by simp [e_bring, *]) (by omega) (by omega)
          | exact tail 2 (by simp [e_bring, *]) (by omega) (by omega)
      · first | rw [z_b_ne0] at c_32 | rw [z_b_eq0] at c_32
        refine v_iconst (pc' := 36) dX5_bring_35 kc_0 rfl ?_
        refine v_goto (tgt := 40) dX5_bring_36 (by decide) ?_
        first
          | exact main c_9 c_16 c_32
          | exact tail 1 (by simp [e_bring, *]) (by omega) (by omega)
          | exact tail 2 (by simp [e_bring, *]) (by omega) (by omega)
    · first | rw [z_b_ne0] at c_16 | rw [z_b_eq0] at c_16
      refine v_iconst (pc' := 20) dX5_bring_19 kc_1 rfl ?_
      refine v_goto (tgt := 40) dX5_bring_20 (by decide) ?_
      first
        | exact main c_9 c_16 c_32
        | exact tail 1 (by simp [e_bring, *]) (by omega) (by omega)
        | exact tail 2 (by simp [e_bring, *]) (by omega) (by omega)
set_option maxRecDepth 20000 in
set_option maxHeartbeats 4000000 in
theorem m_stop (hl : l.stackTraces = false) (hK : ShM E G d) (hM : AbsM I d S) (t : Int32) : z_CM E l mX5_stop [.ref d, .int t] G I sz d (e_stop S.1 t) (t_stopv S.1 t) S (s_now S (t_stop S.1 t)) := by
  obtain ⟨k0, kT, kN, kR, kD, kP, kF⟩ := id hK
  obtain ⟨⟨tn, tl, tc⟩, ⟨nN, nW⟩, ⟨aA, a14, aR⟩, aF, aS⟩ := id hM
  have tail : ∀ k9 : Nat, (e_stop S.1 t) = k9 → k9 ≠ 0 → k9 < 3 → z_V E l mX5_stop (z_rm 8 0 0) 0 0 (z_q (fun v' G' I' sz' => ∃ y9, v' = some (.int y9) ∧ G' = G ∧ sz' = sz ∧ z_mP d (e_stop S.1 t) (t_stopv S.1 t) S (s_now S (t_stop S.1 t)) I y9 I')) 0 0 G I sz 32 [some (.ref d), some (.int t)] [.int (nI k9), .ref d] := by
    intro k9 hk hne h3
    refine v_cVI (pc' := 35) (c5_refused hl k0 _) dX5_stop_32 lk_X5_99 mwX5_refused miX5_refused k0 rfl rfl rfl rfl (by decide) (Nat.le_of_ble_eq_true rfl) rfl ?_
    rintro _ I1 ⟨rfl, hI1⟩
    have r1 : I1 d 0 = nI k9 := by rw [hI1, z_up_row, z_row_at, pk_us]
    have hM1 : AbsM I1 d S := by rw [hI1]; exact hM.fld 0 _ (by omega)
    have hF1 : FrM I I1 d := by rw [hI1]; exact FrM.up (by omega)
    obtain ⟨⟨bn, bl, bc⟩, ⟨bN, bW⟩, ⟨bA, b14, bR⟩, bF, bS⟩ := id hM1
    have bW2 : WF (I1 (d + 2)) := by rw [bN]; exact bW
    refine v_if_eq (tgt := 40) (pc' := 38) dX5_stop_35 (by decide) rfl (fun c_35 => ?_) (fun c_35 => ?_)
    · rw [z_b_eq0, decide_eq_false_iff_not] at c_35
      exact absurd (nI_lt (a := 0) (by omega) (by omega)) c_35
    · refine v_iconst (pc' := 39) dX5_stop_38 kc_0 rfl ?_
      exact v_iret dX5_stop_39 rfl (Nat.le_refl _) (Nat.le_refl _) ⟨_, rfl, rfl, rfl, by rw [hk]; exact r1, fun q => absurd (hk.symm.trans q) hne, by rw [hk, if_neg hne]; exact hM1, hF1⟩
  have main : p_isTask S.1 t = true → p_cans S.1 t = true → z_V E l mX5_stop (z_rm 8 0 0) 0 0 (z_q (fun v' G' I' sz' => ∃ y9, v' = some (.int y9) ∧ G' = G ∧ sz' = sz ∧ z_mP d (e_stop S.1 t) (t_stopv S.1 t) S (s_now S (t_stop S.1 t)) I y9 I')) 0 0 G I sz 32 [some (.ref d), some (.int t)] [.int 0, .ref d] := by
    intro f1 f3
    refine v_cVI (pc' := 35) (c5_refused hl k0 _) dX5_stop_32 lk_X5_99 mwX5_refused miX5_refused k0 rfl rfl rfl rfl (by decide) (Nat.le_of_ble_eq_true rfl) rfl ?_
    rintro _ I1 ⟨rfl, hI1⟩
    have r1 : I1 d 0 = 0 := by rw [hI1, z_up_row, z_row_at, pk_us]
    have hM1 : AbsM I1 d S := by rw [hI1]; exact hM.fld 0 _ (by omega)
    have hF1 : FrM I I1 d := by rw [hI1]; exact FrM.up (by omega)
    obtain ⟨⟨bn, bl, bc⟩, ⟨bN, bW⟩, ⟨bA, b14, bR⟩, bF, bS⟩ := id hM1
    have bW2 : WF (I1 (d + 2)) := by rw [bN]; exact bW
    have hkz : e_stop S.1 t = 0 := by simp [e_stop, *]
    refine v_if_eq (tgt := 40) (pc' := 38) dX5_stop_35 (by decide) rfl (fun c_35 => ?_) (fun c_35 => ?_)
    · obtain ⟨u, hu, hu6, rfl, h4, h5⟩ := p_cans_nI nW f3
      refine v_aload_n (pc' := 41) dX5_stop_40 rfl rfl ?_
      refine v_cVV (pc' := 44) (c5_remember hl hK hM1) dX5_stop_41 lk_X5_171 mwX5_remember miX5_remember k0 rfl rfl rfl rfl (by decide) (Nat.le_of_ble_eq_true rfl) rfl ?_
      rintro I2 ⟨hA2, hq2, hw2⟩
      have hM2 := hM1.rem hA2 hq2 hw2
      have r2 : I2 d 0 = 0 := by rw [hw2 0 (by omega)]; exact r1
      have hF2 : FrM I I2 d := hF1.tr (fun q hq => hq2 q (by omega) (by omega))
      obtain ⟨-, ⟨eN, eW⟩, -, -, -⟩ := id hM2
      have eW2 : WF (I2 (d + 2)) := by rw [eN]; exact eW
      refine v_aload_n (pc' := 45) dX5_stop_44 rfl rfl ?_
      refine g_X5_13 (pc' := 48) rfl dX5_stop_45 (by assumption) rfl ?_
      refine v_iload_n (pc' := 49) dX5_stop_48 rfl rfl ?_
      refine v_cSI (pc' := 52) (c5_stopOn hl kN u hu6 rfl) dX5_stop_49 lk_X5_135 mwX5_stopOn msX5_stopOn rfl rfl (by decide) (Nat.le_of_ble_eq_true rfl) rfl ?_
      rintro _ _ ⟨rfl, rfl⟩
      exact v_iret dX5_stop_52 rfl (Nat.le_refl _) (Nat.le_refl _) ⟨_, rfl, rfl, rfl, by rw [hkz, z_row_ne _ _ _ (by omega)]; exact r2, fun _ => by rw [eN]; rw [t_stopv, if_pos f3, nI_clamp (by omega)], by rw [hkz, eN]; show AbsM _ d (s_now S (t_stop S.1 (nI u))); rw [t_stop, if_pos f3, nI_clamp (by omega)]; exact hM2.nowr (WF_stop nW u h5 hu), hF2.tr (FrM.row (by omega))⟩
    · exact absurd (by decide) c_35
  refine z_Ct.of hl pn_X5 [some (.ref d), some (.int t)] rfl (Nat.le_of_ble_eq_true rfl) ?_
  refine v_aload_n (pc' := 1) dX5_stop_0 rfl rfl ?_
  refine v_aload_n (pc' := 2) dX5_stop_1 rfl rfl ?_
  refine g_X5_13 (pc' := 5) rfl dX5_stop_2 (by assumption) rfl ?_
  refine v_iload_n (pc' := 6) dX5_stop_5 rfl rfl ?_
  refine v_cSR (pc' := 9) (c5_isTask hl kN t) dX5_stop_6 lk_X5_62 mwX5_isTask msX5_isTask rfl rfl (by decide) (Nat.le_of_ble_eq_true rfl) rfl ?_
  rw [nN]
  refine v_if_ne (tgt := 16) (pc' := 12) dX5_stop_9 (by decide) rfl (fun c_9 => ?_) (fun c_9 => ?_)
  · first | rw [z_b_ne0] at c_9 | rw [z_b_eq0] at c_9
    refine v_aload_n (pc' := 17) dX5_stop_16 rfl rfl ?_
    refine g_X5_13 (pc' := 20) rfl dX5_stop_17 (by assumption) rfl ?_
    refine v_iload_n (pc' := 21) dX5_stop_20 rfl rfl ?_
    refine v_cSR (pc' := 24) (c5_canStop hl kN (by rw [nN]; exact nW) t) dX5_stop_21 lk_X5_132 mwX5_canStop msX5_canStop rfl rfl (by decide) (Nat.le_of_ble_eq_true rfl) rfl ?_
    rw [nN]
    refine v_if_eq (tgt := 31) (pc' := 27) dX5_stop_24 (by decide) rfl (fun c_24 => ?_) (fun c_24 => ?_)
    · first | rw [z_b_ne0] at c_24 | rw [z_b_eq0] at c_24
      refine v_iconst (pc' := 32) dX5_stop_31 kc_2 rfl ?_
      first
        | exact main c_9 c_24
        | exact tail 1 (by simp [e_stop, *]) (by omega) (by omega)
        | exact tail 2 (by simp [e_stop, *]) (by omega) (by omega)
    · first | rw [z_b_ne0] at c_24 | rw [z_b_eq0] at c_24
      refine v_iconst (pc' := 28) dX5_stop_27 kc_0 rfl ?_
      refine v_goto (tgt := 32) dX5_stop_28 (by decide) ?_
      first
        | exact main c_9 c_24
        | exact tail 1 (by simp [e_stop, *]) (by omega) (by omega)
        | exact tail 2 (by simp [e_stop, *]) (by omega) (by omega)
  · first | rw [z_b_ne0] at c_9 | rw [z_b_eq0] at c_9
    refine v_iconst (pc' := 13) dX5_stop_12 kc_1 rfl ?_
    refine v_goto (tgt := 32) dX5_stop_13 (by decide) ?_
    first
      | exact main c_9 c_24
      | exact tail 1 (by simp [e_stop, *]) (by omega) (by omega)
      | exact tail 2 (by simp [e_stop, *]) (by omega) (by omega)
set_option maxRecDepth 20000 in
set_option maxHeartbeats 4000000 in
theorem m_turnBad (hl : l.stackTraces = false) (hK : ShM E G d) (hM : AbsM I d S) (s : Int32) : z_CM E l mX5_turnBad [.ref d, .int s] G I sz d (e_strp s) (t_badv S.1 s) S (s_now S (t_bad S.1 s)) := by
  obtain ⟨k0, kT, kN, kR, kD, kP, kF⟩ := id hK
  obtain ⟨⟨tn, tl, tc⟩, ⟨nN, nW⟩, ⟨aA, a14, aR⟩, aF, aS⟩ := id hM
  have tail : ∀ k9 : Nat, (e_strp s) = k9 → k9 ≠ 0 → k9 < 3 → z_V E l mX5_turnBad (z_rm 8 0 0) 0 0 (z_q (fun v' G' I' sz' => ∃ y9, v' = some (.int y9) ∧ G' = G ∧ sz' = sz ∧ z_mP d (e_strp s) (t_badv S.1 s) S (s_now S (t_bad S.1 s)) I y9 I')) 0 0 G I sz 13 [some (.ref d), some (.int s)] [.int (nI k9), .ref d] := by
    intro k9 hk hne h3
    refine v_cVI (pc' := 16) (c5_refused hl k0 _) dX5_turnBad_13 lk_X5_99 mwX5_refused miX5_refused k0 rfl rfl rfl rfl (by decide) (Nat.le_of_ble_eq_true rfl) rfl ?_
    rintro _ I1 ⟨rfl, hI1⟩
    have r1 : I1 d 0 = nI k9 := by rw [hI1, z_up_row, z_row_at, pk_us]
    have hM1 : AbsM I1 d S := by rw [hI1]; exact hM.fld 0 _ (by omega)
    have hF1 : FrM I I1 d := by rw [hI1]; exact FrM.up (by omega)
    obtain ⟨⟨bn, bl, bc⟩, ⟨bN, bW⟩, ⟨bA, b14, bR⟩, bF, bS⟩ := id hM1
    have bW2 : WF (I1 (d + 2)) := by rw [bN]; exact bW
    refine v_if_eq (tgt := 21) (pc' := 19) dX5_turnBad_16 (by decide) rfl (fun c_16 => ?_) (fun c_16 => ?_)
    · rw [z_b_eq0, decide_eq_false_iff_not] at c_16
      exact absurd (nI_lt (a := 0) (by omega) (by omega)) c_16
    · refine v_iconst (pc' := 20) dX5_turnBad_19 kc_0 rfl ?_
      exact v_iret dX5_turnBad_20 rfl (Nat.le_refl _) (Nat.le_refl _) ⟨_, rfl, rfl, rfl, by rw [hk]; exact r1, fun q => absurd (hk.symm.trans q) hne, by rw [hk, if_neg hne]; exact hM1, hF1⟩
  have main : p_isStripe s = true → z_V E l mX5_turnBad (z_rm 8 0 0) 0 0 (z_q (fun v' G' I' sz' => ∃ y9, v' = some (.int y9) ∧ G' = G ∧ sz' = sz ∧ z_mP d (e_strp s) (t_badv S.1 s) S (s_now S (t_bad S.1 s)) I y9 I')) 0 0 G I sz 13 [some (.ref d), some (.int s)] [.int 0, .ref d] := by
    intro f1
    refine v_cVI (pc' := 16) (c5_refused hl k0 _) dX5_turnBad_13 lk_X5_99 mwX5_refused miX5_refused k0 rfl rfl rfl rfl (by decide) (Nat.le_of_ble_eq_true rfl) rfl ?_
    rintro _ I1 ⟨rfl, hI1⟩
    have r1 : I1 d 0 = 0 := by rw [hI1, z_up_row, z_row_at, pk_us]
    have hM1 : AbsM I1 d S := by rw [hI1]; exact hM.fld 0 _ (by omega)
    have hF1 : FrM I I1 d := by rw [hI1]; exact FrM.up (by omega)
    obtain ⟨⟨bn, bl, bc⟩, ⟨bN, bW⟩, ⟨bA, b14, bR⟩, bF, bS⟩ := id hM1
    have bW2 : WF (I1 (d + 2)) := by rw [bN]; exact bW
    have hkz : e_strp s = 0 := by simp [e_strp, *]
    refine v_if_eq (tgt := 21) (pc' := 19) dX5_turnBad_16 (by decide) rfl (fun c_16 => ?_) (fun c_16 => ?_)
    · obtain ⟨u, hu, rfl⟩ := p_isStripe_nI f1
      refine v_aload_n (pc' := 22) dX5_turnBad_21 rfl rfl ?_
      refine v_cVV (pc' := 25) (c5_remember hl hK hM1) dX5_turnBad_22 lk_X5_171 mwX5_remember miX5_remember k0 rfl rfl rfl rfl (by decide) (Nat.le_of_ble_eq_true rfl) rfl ?_
      rintro I2 ⟨hA2, hq2, hw2⟩
      have hM2 := hM1.rem hA2 hq2 hw2
      have r2 : I2 d 0 = 0 := by rw [hw2 0 (by omega)]; exact r1
      have hF2 : FrM I I2 d := hF1.tr (fun q hq => hq2 q (by omega) (by omega))
      obtain ⟨-, ⟨eN, eW⟩, -, -, -⟩ := id hM2
      have eW2 : WF (I2 (d + 2)) := by rw [eN]; exact eW
      refine v_aload_n (pc' := 26) dX5_turnBad_25 rfl rfl ?_
      refine g_X5_13 (pc' := 29) rfl dX5_turnBad_26 (by assumption) rfl ?_
      refine v_iload_n (pc' := 30) dX5_turnBad_29 rfl rfl ?_
      refine v_cSI (pc' := 33) (c5_turnOn hl kN eW2 u hu rfl) dX5_turnBad_30 lk_X5_126 mwX5_turnOn msX5_turnOn rfl rfl (by decide) (Nat.le_of_ble_eq_true rfl) rfl ?_
      rintro _ _ ⟨rfl, rfl⟩
      exact v_iret dX5_turnBad_33 rfl (Nat.le_refl _) (Nat.le_refl _) ⟨_, rfl, rfl, rfl, by rw [hkz, z_row_ne _ _ _ (by omega)]; exact r2, fun _ => by rw [eN]; rw [t_badv, if_pos f1], by rw [hkz, eN]; show AbsM _ d (s_now S (t_bad S.1 (nI u))); rw [t_bad, if_pos f1, nI_clamp (by omega)]; exact hM2.nowr (WF_bad nW u hu), hF2.tr (FrM.row (by omega))⟩
    · exact absurd (by decide) c_16
  refine z_Ct.of hl pn_X5 [some (.ref d), some (.int s)] rfl (Nat.le_of_ble_eq_true rfl) ?_
  refine v_aload_n (pc' := 1) dX5_turnBad_0 rfl rfl ?_
  refine v_iload_n (pc' := 2) dX5_turnBad_1 rfl rfl ?_
  refine v_cSR (pc' := 5) (c5_isStripe hl s) dX5_turnBad_2 lk_X5_65 mwX5_isStripe msX5_isStripe rfl rfl (by decide) (Nat.le_of_ble_eq_true rfl) rfl ?_
  refine v_if_eq (tgt := 12) (pc' := 8) dX5_turnBad_5 (by decide) rfl (fun c_5 => ?_) (fun c_5 => ?_)
  · first | rw [z_b_ne0] at c_5 | rw [z_b_eq0] at c_5
    refine v_iconst (pc' := 13) dX5_turnBad_12 kc_1 rfl ?_
    first
      | exact main c_5
      | exact tail 1 (by simp [e_strp, *]) (by omega) (by omega)
      | exact tail 2 (by simp [e_strp, *]) (by omega) (by omega)
  · first | rw [z_b_ne0] at c_5 | rw [z_b_eq0] at c_5
    refine v_iconst (pc' := 9) dX5_turnBad_8 kc_0 rfl ?_
    refine v_goto (tgt := 13) dX5_turnBad_9 (by decide) ?_
    first
      | exact main c_5
      | exact tail 1 (by simp [e_strp, *]) (by omega) (by omega)
      | exact tail 2 (by simp [e_strp, *]) (by omega) (by omega)
set_option maxRecDepth 20000 in
set_option maxHeartbeats 4000000 in
theorem m_mend (hl : l.stackTraces = false) (hK : ShM E G d) (hM : AbsM I d S) (s : Int32) : z_CM E l mX5_mend [.ref d, .int s] G I sz d (e_strp s) (t_mendv S.1 s) S (s_now S (t_mend S.1 s)) := by
  obtain ⟨k0, kT, kN, kR, kD, kP, kF⟩ := id hK
  obtain ⟨⟨tn, tl, tc⟩, ⟨nN, nW⟩, ⟨aA, a14, aR⟩, aF, aS⟩ := id hM
  have tail : ∀ k9 : Nat, (e_strp s) = k9 → k9 ≠ 0 → k9 < 3 → z_V E l mX5_mend (z_rm 8 0 0) 0 0 (z_q (fun v' G' I' sz' => ∃ y9, v' = some (.int y9) ∧ G' = G ∧ sz' = sz ∧ z_mP d (e_strp s) (t_mendv S.1 s) S (s_now S (t_mend S.1 s)) I y9 I')) 0 0 G I sz 13 [some (.ref d), some (.int s)] [.int (nI k9), .ref d] := by
    intro k9 hk hne h3
    refine v_cVI (pc' := 16) (c5_refused hl k0 _) dX5_mend_13 lk_X5_99 mwX5_refused miX5_refused k0 rfl rfl rfl rfl (by decide) (Nat.le_of_ble_eq_true rfl) rfl ?_
    rintro _ I1 ⟨rfl, hI1⟩
    have r1 : I1 d 0 = nI k9 := by rw [hI1, z_up_row, z_row_at, pk_us]
    have hM1 : AbsM I1 d S := by rw [hI1]; exact hM.fld 0 _ (by omega)
    have hF1 : FrM I I1 d := by rw [hI1]; exact FrM.up (by omega)
    obtain ⟨⟨bn, bl, bc⟩, ⟨bN, bW⟩, ⟨bA, b14, bR⟩, bF, bS⟩ := id hM1
    have bW2 : WF (I1 (d + 2)) := by rw [bN]; exact bW
    refine v_if_eq (tgt := 21) (pc' := 19) dX5_mend_16 (by decide) rfl (fun c_16 => ?_) (fun c_16 => ?_)
    · rw [z_b_eq0, decide_eq_false_iff_not] at c_16
      exact absurd (nI_lt (a := 0) (by omega) (by omega)) c_16
    · refine v_iconst (pc' := 20) dX5_mend_19 kc_0 rfl ?_
      exact v_iret dX5_mend_20 rfl (Nat.le_refl _) (Nat.le_refl _) ⟨_, rfl, rfl, rfl, by rw [hk]; exact r1, fun q => absurd (hk.symm.trans q) hne, by rw [hk, if_neg hne]; exact hM1, hF1⟩
  have main : p_isStripe s = true → z_V E l mX5_mend (z_rm 8 0 0) 0 0 (z_q (fun v' G' I' sz' => ∃ y9, v' = some (.int y9) ∧ G' = G ∧ sz' = sz ∧ z_mP d (e_strp s) (t_mendv S.1 s) S (s_now S (t_mend S.1 s)) I y9 I')) 0 0 G I sz 13 [some (.ref d), some (.int s)] [.int 0, .ref d] := by
    intro f1
    refine v_cVI (pc' := 16) (c5_refused hl k0 _) dX5_mend_13 lk_X5_99 mwX5_refused miX5_refused k0 rfl rfl rfl rfl (by decide) (Nat.le_of_ble_eq_true rfl) rfl ?_
    rintro _ I1 ⟨rfl, hI1⟩
    have r1 : I1 d 0 = 0 := by rw [hI1, z_up_row, z_row_at, pk_us]
    have hM1 : AbsM I1 d S := by rw [hI1]; exact hM.fld 0 _ (by omega)
    have hF1 : FrM I I1 d := by rw [hI1]; exact FrM.up (by omega)
    obtain ⟨⟨bn, bl, bc⟩, ⟨bN, bW⟩, ⟨bA, b14, bR⟩, bF, bS⟩ := id hM1
    have bW2 : WF (I1 (d + 2)) := by rw [bN]; exact bW
    have hkz : e_strp s = 0 := by simp [e_strp, *]
    refine v_if_eq (tgt := 21) (pc' := 19) dX5_mend_16 (by decide) rfl (fun c_16 => ?_) (fun c_16 => ?_)
    · obtain ⟨u, hu, rfl⟩ := p_isStripe_nI f1
      refine v_aload_n (pc' := 22) dX5_mend_21 rfl rfl ?_
      refine v_cVV (pc' := 25) (c5_remember hl hK hM1) dX5_mend_22 lk_X5_171 mwX5_remember miX5_remember k0 rfl rfl rfl rfl (by decide) (Nat.le_of_ble_eq_true rfl) rfl ?_
      rintro I2 ⟨hA2, hq2, hw2⟩
      have hM2 := hM1.rem hA2 hq2 hw2
      have r2 : I2 d 0 = 0 := by rw [hw2 0 (by omega)]; exact r1
      have hF2 : FrM I I2 d := hF1.tr (fun q hq => hq2 q (by omega) (by omega))
      obtain ⟨-, ⟨eN, eW⟩, -, -, -⟩ := id hM2
      have eW2 : WF (I2 (d + 2)) := by rw [eN]; exact eW
      refine v_aload_n (pc' := 26) dX5_mend_25 rfl rfl ?_
      refine g_X5_13 (pc' := 29) rfl dX5_mend_26 (by assumption) rfl ?_
      refine v_iload_n (pc' := 30) dX5_mend_29 rfl rfl ?_
      refine v_cSI (pc' := 33) (c5_mendOn hl kN u hu rfl) dX5_mend_30 lk_X5_129 mwX5_mendOn msX5_mendOn rfl rfl (by decide) (Nat.le_of_ble_eq_true rfl) rfl ?_
      rintro _ _ ⟨rfl, rfl⟩
      exact v_iret dX5_mend_33 rfl (Nat.le_refl _) (Nat.le_refl _) ⟨_, rfl, rfl, rfl, by rw [hkz, z_row_ne _ _ _ (by omega)]; exact r2, fun _ => by rw [eN]; rw [t_mendv, if_pos f1, nI_clamp (by omega)], by rw [hkz, eN]; show AbsM _ d (s_now S (t_mend S.1 (nI u))); rw [t_mend, if_pos f1, nI_clamp (by omega)]; exact hM2.nowr (WF_mend nW u hu 0 (Or.inl rfl)), hF2.tr (FrM.row (by omega))⟩
    · exact absurd (by decide) c_16
  refine z_Ct.of hl pn_X5 [some (.ref d), some (.int s)] rfl (Nat.le_of_ble_eq_true rfl) ?_
  refine v_aload_n (pc' := 1) dX5_mend_0 rfl rfl ?_
  refine v_iload_n (pc' := 2) dX5_mend_1 rfl rfl ?_
  refine v_cSR (pc' := 5) (c5_isStripe hl s) dX5_mend_2 lk_X5_65 mwX5_isStripe msX5_isStripe rfl rfl (by decide) (Nat.le_of_ble_eq_true rfl) rfl ?_
  refine v_if_eq (tgt := 12) (pc' := 8) dX5_mend_5 (by decide) rfl (fun c_5 => ?_) (fun c_5 => ?_)
  · first | rw [z_b_ne0] at c_5 | rw [z_b_eq0] at c_5
    refine v_iconst (pc' := 13) dX5_mend_12 kc_1 rfl ?_
    first
      | exact main c_5
      | exact tail 1 (by simp [e_strp, *]) (by omega) (by omega)
      | exact tail 2 (by simp [e_strp, *]) (by omega) (by omega)
  · first | rw [z_b_ne0] at c_5 | rw [z_b_eq0] at c_5
    refine v_iconst (pc' := 9) dX5_mend_8 kc_0 rfl ?_
    refine v_goto (tgt := 13) dX5_mend_9 (by decide) ?_
    first
      | exact main c_5
      | exact tail 1 (by simp [e_strp, *]) (by omega) (by omega)
      | exact tail 2 (by simp [e_strp, *]) (by omega) (by omega)
set_option maxRecDepth 20000 in
set_option maxHeartbeats 4000000 in
theorem m_run (hl : l.stackTraces = false) (hK : ShM E G d) (hM : AbsM I d S) (x : Int32) : z_CM E l mX5_run [.ref d, .int x] G I sz d (e_run x) (t_runv S.1 x) S (s_now S (t_run S.1 x)) := by
  obtain ⟨k0, kT, kN, kR, kD, kP, kF⟩ := id hK
  obtain ⟨⟨tn, tl, tc⟩, ⟨nN, nW⟩, ⟨aA, a14, aR⟩, aF, aS⟩ := id hM
  have tail : ∀ k9 : Nat, (e_run x) = k9 → k9 ≠ 0 → k9 < 3 → z_V E l mX5_run (z_rm 8 0 0) 0 0 (z_q (fun v' G' I' sz' => ∃ y9, v' = some (.int y9) ∧ G' = G ∧ sz' = sz ∧ z_mP d (e_run x) (t_runv S.1 x) S (s_now S (t_run S.1 x)) I y9 I')) 0 0 G I sz 18 [some (.ref d), some (.int x)] [.int (nI k9), .ref d] := by
    intro k9 hk hne h3
    refine v_cVI (pc' := 21) (c5_refused hl k0 _) dX5_run_18 lk_X5_99 mwX5_refused miX5_refused k0 rfl rfl rfl rfl (by decide) (Nat.le_of_ble_eq_true rfl) rfl ?_
    rintro _ I1 ⟨rfl, hI1⟩
    have r1 : I1 d 0 = nI k9 := by rw [hI1, z_up_row, z_row_at, pk_us]
    have hM1 : AbsM I1 d S := by rw [hI1]; exact hM.fld 0 _ (by omega)
    have hF1 : FrM I I1 d := by rw [hI1]; exact FrM.up (by omega)
    obtain ⟨⟨bn, bl, bc⟩, ⟨bN, bW⟩, ⟨bA, b14, bR⟩, bF, bS⟩ := id hM1
    have bW2 : WF (I1 (d + 2)) := by rw [bN]; exact bW
    refine v_if_eq (tgt := 26) (pc' := 24) dX5_run_21 (by decide) rfl (fun c_21 => ?_) (fun c_21 => ?_)
    · rw [z_b_eq0, decide_eq_false_iff_not] at c_21
      exact absurd (nI_lt (a := 0) (by omega) (by omega)) c_21
    · refine v_iconst (pc' := 25) dX5_run_24 kc_0 rfl ?_
      exact v_iret dX5_run_25 rfl (Nat.le_refl _) (Nat.le_refl _) ⟨_, rfl, rfl, rfl, by rw [hk]; exact r1, fun q => absurd (hk.symm.trans q) hne, by rw [hk, if_neg hne]; exact hM1, hF1⟩
  have main : z_in x 1 60 = true → z_V E l mX5_run (z_rm 8 0 0) 0 0 (z_q (fun v' G' I' sz' => ∃ y9, v' = some (.int y9) ∧ G' = G ∧ sz' = sz ∧ z_mP d (e_run x) (t_runv S.1 x) S (s_now S (t_run S.1 x)) I y9 I')) 0 0 G I sz 18 [some (.ref d), some (.int x)] [.int 0, .ref d] := by
    intro f1
    refine v_cVI (pc' := 21) (c5_refused hl k0 _) dX5_run_18 lk_X5_99 mwX5_refused miX5_refused k0 rfl rfl rfl rfl (by decide) (Nat.le_of_ble_eq_true rfl) rfl ?_
    rintro _ I1 ⟨rfl, hI1⟩
    have r1 : I1 d 0 = 0 := by rw [hI1, z_up_row, z_row_at, pk_us]
    have hM1 : AbsM I1 d S := by rw [hI1]; exact hM.fld 0 _ (by omega)
    have hF1 : FrM I I1 d := by rw [hI1]; exact FrM.up (by omega)
    obtain ⟨⟨bn, bl, bc⟩, ⟨bN, bW⟩, ⟨bA, b14, bR⟩, bF, bS⟩ := id hM1
    have bW2 : WF (I1 (d + 2)) := by rw [bN]; exact bW
    have hkz : e_run x = 0 := by simp [e_run, *]
    refine v_if_eq (tgt := 26) (pc' := 24) dX5_run_21 (by decide) rfl (fun c_21 => ?_) (fun c_21 => ?_)
    · obtain ⟨q, q1, q2, rfl⟩ := z_in_nI (lo := 1) (hi := 60) (by omega) (by omega) f1
      refine v_aload_n (pc' := 27) dX5_run_26 rfl rfl ?_
      refine v_cVV (pc' := 30) (c5_remember hl hK hM1) dX5_run_27 lk_X5_171 mwX5_remember miX5_remember k0 rfl rfl rfl rfl (by decide) (Nat.le_of_ble_eq_true rfl) rfl ?_
      rintro I2 ⟨hA2, hq2, hw2⟩
      have hM2 := hM1.rem hA2 hq2 hw2
      have r2 : I2 d 0 = 0 := by rw [hw2 0 (by omega)]; exact r1
      have hF2 : FrM I I2 d := hF1.tr (fun q hq => hq2 q (by omega) (by omega))
      obtain ⟨-, ⟨eN, eW⟩, -, -, -⟩ := id hM2
      have eW2 : WF (I2 (d + 2)) := by rw [eN]; exact eW
      refine v_aload_n (pc' := 31) dX5_run_30 rfl rfl ?_
      refine g_X5_13 (pc' := 34) rfl dX5_run_31 (by assumption) rfl ?_
      refine v_iload_n (pc' := 35) dX5_run_34 rfl rfl ?_
      refine v_cSI (pc' := 38) (c5_runOn hl kN eW2 q (by omega) rfl) dX5_run_35 lk_X5_138 mwX5_runOn msX5_runOn rfl rfl (by decide) (Nat.le_of_ble_eq_true rfl) rfl ?_
      rintro _ _ ⟨rfl, rfl⟩
      exact v_iret dX5_run_38 rfl (Nat.le_refl _) (Nat.le_refl _) ⟨_, rfl, rfl, rfl, by rw [hkz, z_row_ne _ _ _ (by omega)]; exact r2, fun _ => by rw [eN]; rw [t_runv, if_pos f1, nI_clamp (by omega)], by rw [hkz, eN]; show AbsM _ d (s_now S (t_run S.1 (nI q))); rw [t_run, if_pos f1, nI_clamp (by omega)]; exact hM2.nowr (WF_run _ _ nW), hF2.tr (FrM.row (by omega))⟩
    · exact absurd (by decide) c_21
  refine z_Ct.of hl pn_X5 [some (.ref d), some (.int x)] rfl (Nat.le_of_ble_eq_true rfl) ?_
  refine v_aload_n (pc' := 1) dX5_run_0 rfl rfl ?_
  refine v_iload_n (pc' := 2) dX5_run_1 rfl rfl ?_
  refine v_i2l (pc' := 3) dX5_run_2 rfl ?_
  refine v_lconst (pc' := 4) dX5_run_3 kl_1 rfl ?_
  refine v_ldc2 (pc' := 7) dX5_run_4 cn_X5_174 rfl ?_
  refine v_cSR (pc' := 10) (c5_in32 hl (x) 1 60 rfl rfl rfl) dX5_run_7 lk_X5_37 mwX5_in msX5_in rfl rfl (by decide) (Nat.le_of_ble_eq_true rfl) rfl ?_
  refine v_if_eq (tgt := 17) (pc' := 13) dX5_run_10 (by decide) rfl (fun c_10 => ?_) (fun c_10 => ?_)
  · first | rw [z_b_ne0] at c_10 | rw [z_b_eq0] at c_10
    refine v_iconst (pc' := 18) dX5_run_17 kc_1 rfl ?_
    first
      | exact main c_10
      | exact tail 1 (by simp [e_run, *]) (by omega) (by omega)
      | exact tail 2 (by simp [e_run, *]) (by omega) (by omega)
  · first | rw [z_b_ne0] at c_10 | rw [z_b_eq0] at c_10
    refine v_iconst (pc' := 14) dX5_run_13 kc_0 rfl ?_
    refine v_goto (tgt := 18) dX5_run_14 (by decide) ?_
    first
      | exact main c_10
      | exact tail 1 (by simp [e_run, *]) (by omega) (by omega)
      | exact tail 2 (by simp [e_run, *]) (by omega) (by omega)
theorem isSet_in {w v : Int32} (h : p_isSet w v = true) : ∃ q : Nat, q < 3 ∧ w = nI q ∧ ((q = 0 ∧ 1 ≤ v.toInt ∧ v.toInt ≤ 9) ∨ (q = 1 ∧ 0 ≤ v.toInt ∧ v.toInt ≤ 20) ∨ (q = 2 ∧ 1 ≤ v.toInt ∧ v.toInt ≤ 99)) := by
  simp only [p_isSet, Bool.or_eq_true, Bool.and_eq_true, decide_eq_true_eq] at h
  rcases h with ⟨rfl, h⟩ | ⟨rfl, h⟩ | ⟨rfl, h⟩
  · obtain ⟨a, a1, a2, rfl⟩ := z_in_nI (lo := 1) (hi := 9) (by omega) (by omega) h
    exact ⟨0, by omega, rfl, Or.inl ⟨rfl, by rw [nI_toInt (by omega)]; omega⟩⟩
  · obtain ⟨a, a1, a2, rfl⟩ := z_in_nI (lo := 0) (hi := 20) (by omega) (by omega) h
    exact ⟨1, by omega, rfl, Or.inr (Or.inl ⟨rfl, by rw [nI_toInt (by omega)]; omega⟩)⟩
  · obtain ⟨a, a1, a2, rfl⟩ := z_in_nI (lo := 1) (hi := 99) (by omega) (by omega) h
    exact ⟨2, by omega, rfl, Or.inr (Or.inr ⟨rfl, by rw [nI_toInt (by omega)]; omega⟩)⟩
set_option maxRecDepth 20000 in
set_option maxHeartbeats 4000000 in
theorem m_set (hl : l.stackTraces = false) (hK : ShM E G d) (hM : AbsM I d S) (w v : Int32) : z_CM E l mX5_set [.ref d, .int w, .int v] G I sz d (e_set w v) (S.1 (8 + w.toNatClampNeg)) S (s_now S (upd S.1 (8 + w.toNatClampNeg) v)) := by
  obtain ⟨k0, kT, kN, kR, kD, kP, kF⟩ := id hK
  obtain ⟨⟨tn, tl, tc⟩, ⟨nN, nW⟩, ⟨aA, a14, aR⟩, aF, aS⟩ := id hM
  have tail : ∀ k9 : Nat, (e_set w v) = k9 → k9 ≠ 0 → k9 < 3 → z_V E l mX5_set (z_rm 8 0 0) 0 0 (z_q (fun v' G' I' sz' => ∃ y9, v' = some (.int y9) ∧ G' = G ∧ sz' = sz ∧ z_mP d (e_set w v) (S.1 (8 + w.toNatClampNeg)) S (s_now S (upd S.1 (8 + w.toNatClampNeg) v)) I y9 I')) 0 0 G I sz 14 [some (.ref d), some (.int w), some (.int v), none] [.int (nI k9), .ref d] := by
    intro k9 hk hne h3
    refine v_cVI (pc' := 17) (c5_refused hl k0 _) dX5_set_14 lk_X5_99 mwX5_refused miX5_refused k0 rfl rfl rfl rfl (by decide) (Nat.le_of_ble_eq_true rfl) rfl ?_
    rintro _ I1 ⟨rfl, hI1⟩
    have r1 : I1 d 0 = nI k9 := by rw [hI1, z_up_row, z_row_at, pk_us]
    have hM1 : AbsM I1 d S := by rw [hI1]; exact hM.fld 0 _ (by omega)
    have hF1 : FrM I I1 d := by rw [hI1]; exact FrM.up (by omega)
    obtain ⟨⟨bn, bl, bc⟩, ⟨bN, bW⟩, ⟨bA, b14, bR⟩, bF, bS⟩ := id hM1
    have bW2 : WF (I1 (d + 2)) := by rw [bN]; exact bW
    refine v_if_eq (tgt := 22) (pc' := 20) dX5_set_17 (by decide) rfl (fun c_17 => ?_) (fun c_17 => ?_)
    · rw [z_b_eq0, decide_eq_false_iff_not] at c_17
      exact absurd (nI_lt (a := 0) (by omega) (by omega)) c_17
    · refine v_iconst (pc' := 21) dX5_set_20 kc_0 rfl ?_
      exact v_iret dX5_set_21 rfl (Nat.le_refl _) (Nat.le_refl _) ⟨_, rfl, rfl, rfl, by rw [hk]; exact r1, fun q => absurd (hk.symm.trans q) hne, by rw [hk, if_neg hne]; exact hM1, hF1⟩
  have main : p_isSet w v = true → z_V E l mX5_set (z_rm 8 0 0) 0 0 (z_q (fun v' G' I' sz' => ∃ y9, v' = some (.int y9) ∧ G' = G ∧ sz' = sz ∧ z_mP d (e_set w v) (S.1 (8 + w.toNatClampNeg)) S (s_now S (upd S.1 (8 + w.toNatClampNeg) v)) I y9 I')) 0 0 G I sz 14 [some (.ref d), some (.int w), some (.int v), none] [.int 0, .ref d] := by
    intro f1
    refine v_cVI (pc' := 17) (c5_refused hl k0 _) dX5_set_14 lk_X5_99 mwX5_refused miX5_refused k0 rfl rfl rfl rfl (by decide) (Nat.le_of_ble_eq_true rfl) rfl ?_
    rintro _ I1 ⟨rfl, hI1⟩
    have r1 : I1 d 0 = 0 := by rw [hI1, z_up_row, z_row_at, pk_us]
    have hM1 : AbsM I1 d S := by rw [hI1]; exact hM.fld 0 _ (by omega)
    have hF1 : FrM I I1 d := by rw [hI1]; exact FrM.up (by omega)
    obtain ⟨⟨bn, bl, bc⟩, ⟨bN, bW⟩, ⟨bA, b14, bR⟩, bF, bS⟩ := id hM1
    have bW2 : WF (I1 (d + 2)) := by rw [bN]; exact bW
    have hkz : e_set w v = 0 := by simp [e_set, *]
    refine v_if_eq (tgt := 22) (pc' := 20) dX5_set_17 (by decide) rfl (fun c_17 => ?_) (fun c_17 => ?_)
    · obtain ⟨q, q1, rfl, q3⟩ := isSet_in f1
      have hqc : (nI q).toNatClampNeg = q := nI_clamp (by omega)
      refine v_aload_n (pc' := 23) dX5_set_22 rfl rfl ?_
      refine v_cVV (pc' := 26) (c5_remember hl hK hM1) dX5_set_23 lk_X5_171 mwX5_remember miX5_remember k0 rfl rfl rfl rfl (by decide) (Nat.le_of_ble_eq_true rfl) rfl ?_
      rintro I2 ⟨hA2, hq2, hw2⟩
      have hM2 := hM1.rem hA2 hq2 hw2
      have r2 : I2 d 0 = 0 := by rw [hw2 0 (by omega)]; exact r1
      have hF2 : FrM I I2 d := hF1.tr (fun q hq => hq2 q (by omega) (by omega))
      obtain ⟨-, ⟨eN, eW⟩, -, -, -⟩ := id hM2
      have eW2 : WF (I2 (d + 2)) := by rw [eN]; exact eW
      refine v_aload_n (pc' := 27) dX5_set_26 rfl rfl ?_
      refine g_X5_13 (pc' := 30) rfl dX5_set_27 (by assumption) rfl ?_
      refine v_bipush (pc' := 32) dX5_set_30 kb_8 rfl ?_
      refine v_iload_n (pc' := 33) dX5_set_32 rfl rfl ?_
      refine v_iadd (pc' := 34) dX5_set_33 rfl ?_
      refine v_iald (pc' := 35) dX5_set_34 (8 + q) (nI_add 8 q) kN (by omega) (by decide) rfl ?_
      rw [eN]
      refine v_istore_n3 (pc' := 36) dX5_set_35 (by decide) rfl rfl ?_
      refine v_aload_n (pc' := 37) dX5_set_36 rfl rfl ?_
      refine g_X5_13 (pc' := 40) rfl dX5_set_37 (by assumption) rfl ?_
      refine v_bipush (pc' := 42) dX5_set_40 kb_8 rfl ?_
      refine v_iload_n (pc' := 43) dX5_set_42 rfl rfl ?_
      refine v_iadd (pc' := 44) dX5_set_43 rfl ?_
      refine v_iload_n (pc' := 45) dX5_set_44 rfl rfl ?_
      refine v_iast (pc' := 46) dX5_set_45 (8 + q) (nI_add 8 q) kN (by omega) (by decide) rfl ?_
      refine v_iload_n (pc' := 47) dX5_set_46 rfl rfl ?_
      exact v_iret dX5_set_47 rfl (Nat.le_refl _) (Nat.le_refl _) ⟨_, rfl, rfl, rfl, by rw [hkz, z_up_ne _ _ _ _ (by omega)]; exact r2, fun _ => by rw [hqc], by rw [hkz, hqc, z_up_row, eN]; exact hM2.nowr (WF_set nW q v q3), hF2.tr (FrM.up (by omega))⟩
    · exact absurd (by decide) c_17
  refine z_Ct.of hl pn_X5 [some (.ref d), some (.int w), some (.int v), none] rfl (Nat.le_of_ble_eq_true rfl) ?_
  refine v_aload_n (pc' := 1) dX5_set_0 rfl rfl ?_
  refine v_iload_n (pc' := 2) dX5_set_1 rfl rfl ?_
  refine v_iload_n (pc' := 3) dX5_set_2 rfl rfl ?_
  refine v_cSR (pc' := 6) (c5_isSetting hl w v) dX5_set_3 lk_X5_176 mwX5_isSetting msX5_isSetting rfl rfl (by decide) (Nat.le_of_ble_eq_true rfl) rfl ?_
  refine v_if_eq (tgt := 13) (pc' := 9) dX5_set_6 (by decide) rfl (fun c_6 => ?_) (fun c_6 => ?_)
  · first | rw [z_b_ne0] at c_6 | rw [z_b_eq0] at c_6
    refine v_iconst (pc' := 14) dX5_set_13 kc_1 rfl ?_
    first
      | exact main c_6
      | exact tail 1 (by simp [e_set, *]) (by omega) (by omega)
      | exact tail 2 (by simp [e_set, *]) (by omega) (by omega)
  · first | rw [z_b_ne0] at c_6 | rw [z_b_eq0] at c_6
    refine v_iconst (pc' := 10) dX5_set_9 kc_0 rfl ?_
    refine v_goto (tgt := 14) dX5_set_10 (by decide) ?_
    first
      | exact main c_6
      | exact tail 1 (by simp [e_set, *]) (by omega) (by omega)
      | exact tail 2 (by simp [e_set, *]) (by omega) (by omega)
set_option maxRecDepth 20000 in
set_option maxHeartbeats 4000000 in
theorem m_lost (hl : l.stackTraces = false) (hK : ShM E G d) (hM : AbsM I d S) (s : Int32) : z_CM E l mX5_lost [.ref d, .int s] G I sz d (e_strp s) (v_lost S.1 s) S (S) := by
  obtain ⟨k0, kT, kN, kR, kD, kP, kF⟩ := id hK
  obtain ⟨⟨tn, tl, tc⟩, ⟨nN, nW⟩, ⟨aA, a14, aR⟩, aF, aS⟩ := id hM
  have tail : ∀ k9 : Nat, (e_strp s) = k9 → k9 ≠ 0 → k9 < 3 → z_V E l mX5_lost (z_rm 8 0 0) 0 0 (z_q (fun v' G' I' sz' => ∃ y9, v' = some (.int y9) ∧ G' = G ∧ sz' = sz ∧ z_mP d (e_strp s) (v_lost S.1 s) S (S) I y9 I')) 0 0 G I sz 13 [some (.ref d), some (.int s), none] [.int (nI k9), .ref d] := by
    intro k9 hk hne h3
    refine v_cVI (pc' := 16) (c5_refused hl k0 _) dX5_lost_13 lk_X5_99 mwX5_refused miX5_refused k0 rfl rfl rfl rfl (by decide) (Nat.le_of_ble_eq_true rfl) rfl ?_
    rintro _ I1 ⟨rfl, hI1⟩
    have r1 : I1 d 0 = nI k9 := by rw [hI1, z_up_row, z_row_at, pk_us]
    have hM1 : AbsM I1 d S := by rw [hI1]; exact hM.fld 0 _ (by omega)
    have hF1 : FrM I I1 d := by rw [hI1]; exact FrM.up (by omega)
    obtain ⟨⟨bn, bl, bc⟩, ⟨bN, bW⟩, ⟨bA, b14, bR⟩, bF, bS⟩ := id hM1
    have bW2 : WF (I1 (d + 2)) := by rw [bN]; exact bW
    refine v_if_eq (tgt := 21) (pc' := 19) dX5_lost_16 (by decide) rfl (fun c_16 => ?_) (fun c_16 => ?_)
    · rw [z_b_eq0, decide_eq_false_iff_not] at c_16
      exact absurd (nI_lt (a := 0) (by omega) (by omega)) c_16
    · refine v_iconst (pc' := 20) dX5_lost_19 kc_0 rfl ?_
      exact v_iret dX5_lost_20 rfl (Nat.le_refl _) (Nat.le_refl _) ⟨_, rfl, rfl, rfl, by rw [hk]; exact r1, fun q => absurd (hk.symm.trans q) hne, by rw [hk, if_neg hne]; exact hM1, hF1⟩
  have main : p_isStripe s = true → z_V E l mX5_lost (z_rm 8 0 0) 0 0 (z_q (fun v' G' I' sz' => ∃ y9, v' = some (.int y9) ∧ G' = G ∧ sz' = sz ∧ z_mP d (e_strp s) (v_lost S.1 s) S (S) I y9 I')) 0 0 G I sz 13 [some (.ref d), some (.int s), none] [.int 0, .ref d] := by
    intro f1
    refine v_cVI (pc' := 16) (c5_refused hl k0 _) dX5_lost_13 lk_X5_99 mwX5_refused miX5_refused k0 rfl rfl rfl rfl (by decide) (Nat.le_of_ble_eq_true rfl) rfl ?_
    rintro _ I1 ⟨rfl, hI1⟩
    have r1 : I1 d 0 = 0 := by rw [hI1, z_up_row, z_row_at, pk_us]
    have hM1 : AbsM I1 d S := by rw [hI1]; exact hM.fld 0 _ (by omega)
    have hF1 : FrM I I1 d := by rw [hI1]; exact FrM.up (by omega)
    obtain ⟨⟨bn, bl, bc⟩, ⟨bN, bW⟩, ⟨bA, b14, bR⟩, bF, bS⟩ := id hM1
    have bW2 : WF (I1 (d + 2)) := by rw [bN]; exact bW
    have hkz : e_strp s = 0 := by simp [e_strp, *]
    refine v_if_eq (tgt := 21) (pc' := 19) dX5_lost_16 (by decide) rfl (fun c_16 => ?_) (fun c_16 => ?_)
    · refine v_aload_n (pc' := 22) dX5_lost_21 rfl rfl ?_
      refine g_X5_13 (pc' := 25) rfl dX5_lost_22 (by assumption) rfl ?_
      refine v_iload_n (pc' := 26) dX5_lost_25 rfl rfl ?_
      refine v_cSR (pc' := 29) (c5_hurt hl kN bW2 s) dX5_lost_26 lk_X5_82 mwX5_hurt msX5_hurt rfl rfl (by decide) (Nat.le_of_ble_eq_true rfl) rfl ?_
      rw [bN]
      refine v_istore_n2 (pc' := 30) dX5_lost_29 (by decide) rfl rfl ?_
      refine v_iload_n (pc' := 31) dX5_lost_30 rfl rfl ?_
      refine v_iconst (pc' := 32) dX5_lost_31 kc_m1 rfl ?_
      refine v_icmp_ne (tgt := 39) (pc' := 35) dX5_lost_32 (by decide) rfl (fun c_32 => ?_) (fun c_32 => ?_)
      · obtain ⟨u, hu, hu6, hv⟩ := (p_hurt_cases nW s).resolve_left c_32
        refine v_aload_n (pc' := 40) dX5_lost_39 rfl rfl ?_
        refine g_X5_13 (pc' := 43) rfl dX5_lost_40 (by assumption) rfl ?_
        refine v_iload_n (pc' := 44) dX5_lost_43 rfl rfl ?_
        refine v_bipush (pc' := 46) dX5_lost_44 kb_6 rfl ?_
        refine v_cSR (pc' := 49) (c5_of hl kN u 6 hv rfl (by omega)) dX5_lost_46 lk_X5_43 mwX5_of msX5_of rfl rfl (by decide) (Nat.le_of_ble_eq_true rfl) rfl ?_
        rw [bN]
        exact v_iret dX5_lost_49 rfl (Nat.le_refl _) (Nat.le_refl _) ⟨_, rfl, rfl, rfl, by rw [hkz]; exact r1, fun _ => by unfold v_lost; first | (rw [if_pos c_32]; done) | (rw [if_neg c_32, hv, nI_clamp (by omega)]; done), by rw [hkz]; exact hM1, hF1⟩
      · refine v_iconst (pc' := 36) dX5_lost_35 kc_0 rfl ?_
        refine v_goto (tgt := 49) dX5_lost_36 (by decide) ?_
        exact v_iret dX5_lost_49 rfl (Nat.le_refl _) (Nat.le_refl _) ⟨_, rfl, rfl, rfl, by rw [hkz]; exact r1, fun _ => by unfold v_lost; first | (rw [if_pos c_32]; done) | (rw [if_neg c_32, hv, nI_clamp (by omega)]; done), by rw [hkz]; exact hM1, hF1⟩
    · exact absurd (by decide) c_16
  refine z_Ct.of hl pn_X5 [some (.ref d), some (.int s), none] rfl (Nat.le_of_ble_eq_true rfl) ?_
  refine v_aload_n (pc' := 1) dX5_lost_0 rfl rfl ?_
  refine v_iload_n (pc' := 2) dX5_lost_1 rfl rfl ?_
  refine v_cSR (pc' := 5) (c5_isStripe hl s) dX5_lost_2 lk_X5_65 mwX5_isStripe msX5_isStripe rfl rfl (by decide) (Nat.le_of_ble_eq_true rfl) rfl ?_
  refine v_if_eq (tgt := 12) (pc' := 8) dX5_lost_5 (by decide) rfl (fun c_5 => ?_) (fun c_5 => ?_)
  · first | rw [z_b_ne0] at c_5 | rw [z_b_eq0] at c_5
    refine v_iconst (pc' := 13) dX5_lost_12 kc_1 rfl ?_
    first
      | exact main c_5
      | exact tail 1 (by simp [e_strp, *]) (by omega) (by omega)
      | exact tail 2 (by simp [e_strp, *]) (by omega) (by omega)
  · first | rw [z_b_ne0] at c_5 | rw [z_b_eq0] at c_5
    refine v_iconst (pc' := 9) dX5_lost_8 kc_0 rfl ?_
    refine v_goto (tgt := 13) dX5_lost_9 (by decide) ?_
    first
      | exact main c_5
      | exact tail 1 (by simp [e_strp, *]) (by omega) (by omega)
      | exact tail 2 (by simp [e_strp, *]) (by omega) (by omega)
end MOD2
