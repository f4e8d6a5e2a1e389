/-! THE REFERENCE's own methods, on (written by wip/whole/gen_mod3.py) -/
section MOD3
variable {E : zE} {l : Launch} {G : zG} {I : zI} {sz d : Nat} {S : zS}
set_option maxRecDepth 20000 in
set_option maxHeartbeats 4000000 in
theorem m_undo (hl : l.stackTraces = false) (hK : ShM E G d) (hM : AbsM I d S) : z_CM E l mX5_undo [.ref d] G I sz d (e_undo S) (nI (S.2.1.1 - 1)) S (s_undo S) := by
  obtain ⟨k0, kT, kN, kR, kD, kP, kF⟩ := id hK
  obtain ⟨⟨tn, tl, tc⟩, ⟨nN, nW⟩, ⟨aA, a14, aR⟩, aF, aS⟩ := id hM
  have tail : ∀ k9 : Nat, (e_undo S) = k9 → k9 ≠ 0 → k9 < 3 → z_V E l mX5_undo (z_rm 8 0 0) 0 0 (z_q (fun v' G' I' sz' => ∃ y9, v' = some (.int y9) ∧ G' = G ∧ sz' = sz ∧ z_mP d (e_undo S) (nI (S.2.1.1 - 1)) S (s_undo S) I y9 I')) 0 0 G I sz 13 [some (.ref d)] [.int (nI k9), .ref d] := by
    intro k9 hk hne h3
    refine v_cVI (pc' := 16) (c5_refused hl k0 _) dX5_undo_13 lk_X5_99 mwX5_refused miX5_refused k0 rfl rfl rfl rfl (by decide) (Nat.le_of_ble_eq_true rfl) rfl ?_
    rintro _ I1 ⟨rfl, hI1⟩
    have r1 : I1 d 0 = nI k9 := by rw [hI1, z_up_row, z_row_at, pk_us]
    have hM1 : AbsM I1 d S := by rw [hI1]; exact hM.fld 0 _ (by omega)
    have hF1 : FrM I I1 d := by rw [hI1]; exact FrM.up (by omega)
    obtain ⟨⟨bn, bl, bc⟩, ⟨bN, bW⟩, ⟨bA, b14, bR⟩, bF, bS⟩ := id hM1
    have bW2 : WF (I1 (d + 2)) := by rw [bN]; exact bW
    refine v_if_eq (tgt := 21) (pc' := 19) dX5_undo_16 (by decide) rfl (fun c_16 => ?_) (fun c_16 => ?_)
    · rw [z_b_eq0, decide_eq_false_iff_not] at c_16
      exact absurd (nI_lt (a := 0) (by omega) (by omega)) c_16
    · refine v_iconst (pc' := 20) dX5_undo_19 kc_0 rfl ?_
      exact v_iret dX5_undo_20 rfl (Nat.le_refl _) (Nat.le_refl _) ⟨_, rfl, rfl, rfl, by rw [hk]; exact r1, fun q => absurd (hk.symm.trans q) hne, by rw [hk, if_neg hne]; exact hM1, hF1⟩
  have main : ¬ S.2.1.1 = 0 → z_V E l mX5_undo (z_rm 8 0 0) 0 0 (z_q (fun v' G' I' sz' => ∃ y9, v' = some (.int y9) ∧ G' = G ∧ sz' = sz ∧ z_mP d (e_undo S) (nI (S.2.1.1 - 1)) S (s_undo S) I y9 I')) 0 0 G I sz 13 [some (.ref d)] [.int 0, .ref d] := by
    intro f1
    refine v_cVI (pc' := 16) (c5_refused hl k0 _) dX5_undo_13 lk_X5_99 mwX5_refused miX5_refused k0 rfl rfl rfl rfl (by decide) (Nat.le_of_ble_eq_true rfl) rfl ?_
    rintro _ I1 ⟨rfl, hI1⟩
    have r1 : I1 d 0 = 0 := by rw [hI1, z_up_row, z_row_at, pk_us]
    have hM1 : AbsM I1 d S := by rw [hI1]; exact hM.fld 0 _ (by omega)
    have hF1 : FrM I I1 d := by rw [hI1]; exact FrM.up (by omega)
    obtain ⟨⟨bn, bl, bc⟩, ⟨bN, bW⟩, ⟨bA, b14, bR⟩, bF, bS⟩ := id hM1
    have bW2 : WF (I1 (d + 2)) := by rw [bN]; exact bW
    have hkz : e_undo S = 0 := by simp [e_undo, *]
    refine v_if_eq (tgt := 21) (pc' := 19) dX5_undo_16 (by decide) rfl (fun c_16 => ?_) (fun c_16 => ?_)
    · obtain ⟨a, ha⟩ : ∃ a, S.2.1.1 = a + 1 := ⟨S.2.1.1 - 1, by omega⟩
      have ha1 : S.2.1.1 - 1 = a := by omega
      refine v_aload_n (pc' := 22) dX5_undo_21 rfl rfl ?_
      refine v_dup (pc' := 23) dX5_undo_22 rfl rfl ?_
      refine g_X5_152 (pc' := 26) rfl dX5_undo_23 (by assumption) rfl ?_
      rw [bA, ha]
      refine v_iconst (pc' := 27) dX5_undo_26 kc_1 rfl ?_
      refine v_isub (pc' := 28) dX5_undo_27 rfl ?_
      rw [show (nI (a + 1) - 1 : Int32) = nI a from nI_pred a]
      refine p_X5_152 (pc' := 31) rfl dX5_undo_28 (by assumption) rfl ?_
      refine v_aload_n (pc' := 32) dX5_undo_31 rfl rfl ?_
      refine g_X5_19 (pc' := 35) rfl dX5_undo_32 (by assumption) rfl ?_
      refine v_bipush (pc' := 37) dX5_undo_35 kb_65 rfl ?_
      refine v_aload_n (pc' := 38) dX5_undo_37 rfl rfl ?_
      refine g_X5_152 (pc' := 41) rfl dX5_undo_38 (by assumption) rfl ?_
      rw [show z_up I1 d 6 (nI a) d 6 = nI a by rw [z_up_row, z_row_at, pk_us]]
      refine v_imul (pc' := 42) dX5_undo_41 rfl ?_
      rw [show (65 * nI a : Int32) = nI (65 * a) from pk_mul 65 a]
      refine v_aload_n (pc' := 43) dX5_undo_42 rfl rfl ?_
      refine g_X5_13 (pc' := 46) rfl dX5_undo_43 (by assumption) rfl ?_
      refine v_iconst (pc' := 47) dX5_undo_46 kc_0 rfl ?_
      refine v_cSV (pc' := 50) (c5_copyTo hl kD kN (by omega) (65 * a) 0 (by omega) (by omega) (by omega) (by omega) rfl rfl) dX5_undo_47 lk_X5_148 mwX5_copyState msX5_copyState rfl rfl (by decide) (Nat.le_of_ble_eq_true rfl) rfl ?_
      rintro _ rfl
      refine v_ext (I' := z_row (z_up I1 d 6 (nI a)) (d + 2) (S.2.1.2 a)) kN (fun q9 h9 => by rw [z_row_ne _ _ _ h9, z_row_ne _ _ _ h9]) (fun j9 h9 => by rw [z_row_at, z_row_at, cpy_in (by omega) (by omega), z_up_ne _ _ _ _ (by omega), show 65 * a + (j9 - 0) = 65 * a + j9 by omega]; exact ((bR a (by omega)).2 j9 h9).symm) ?_
      refine v_aload_n (pc' := 51) dX5_undo_50 rfl rfl ?_
      refine g_X5_152 (pc' := 54) rfl dX5_undo_51 (by assumption) rfl ?_
      exact v_iret dX5_undo_54 rfl (Nat.le_refl _) (Nat.le_refl _) ⟨_, rfl, rfl, rfl, by rw [hkz, z_row_ne _ _ _ (by omega), z_up_row, z_row_at, pk_un (by omega)]; exact r1, fun _ => by rw [z_row_ne _ _ _ (by omega), z_up_row, z_row_at, pk_us]; exact congrArg nI (by omega), by
        rw [hkz, if_pos rfl, s_undo, ha1]
        exact ⟨hM1.1.cg (by rw [z_row_ne _ _ _ (by omega), z_up_row, z_row_at, pk_un (by omega)]) (by rw [z_row_ne _ _ _ (by omega), z_up_ne _ _ _ _ (by omega)]), ⟨z_row_at _ _ _, (bR a (by omega)).1⟩, ⟨by rw [z_row_ne _ _ _ (by omega), z_up_row, z_row_at, pk_us], by show a ≤ 14; omega, fun i hi => ⟨(bR i (by have : i < a := hi; omega)).1, fun k hk => by rw [z_row_ne _ _ _ (by omega), z_up_ne _ _ _ _ (by omega)]; exact (bR i (by have : i < a := hi; omega)).2 k hk⟩⟩, hM1.2.2.2.1.cg (by rw [z_row_ne _ _ _ (by omega), z_up_ne _ _ _ _ (by omega)]), hM1.2.2.2.2.cg (by rw [z_row_ne _ _ _ (by omega), z_up_ne _ _ _ _ (by omega)])⟩, hF1.tr ((FrM.up (by omega)).tr (FrM.row (by omega)))⟩
    · exact absurd (by decide) c_16
  refine z_Ct.of hl pn_X5 [some (.ref d)] rfl (Nat.le_of_ble_eq_true rfl) ?_
  refine v_aload_n (pc' := 1) dX5_undo_0 rfl rfl ?_
  refine v_aload_n (pc' := 2) dX5_undo_1 rfl rfl ?_
  refine g_X5_152 (pc' := 5) rfl dX5_undo_2 (by assumption) rfl ?_
  rw [aA]
  refine v_if_ne (tgt := 12) (pc' := 8) dX5_undo_5 (by decide) rfl (fun c_5 => ?_) (fun c_5 => ?_)
  · rw [nI_is0 (by omega)] at c_5
    refine v_iconst (pc' := 13) dX5_undo_12 kc_0 rfl ?_
    first
      | exact main c_5
      | exact tail 1 (by simp [e_undo, *]) (by omega) (by omega)
      | exact tail 2 (by simp [e_undo, *]) (by omega) (by omega)
  · rw [nI_is0 (by omega)] at c_5
    refine v_iconst (pc' := 9) dX5_undo_8 kc_1 rfl ?_
    refine v_goto (tgt := 13) dX5_undo_9 (by decide) ?_
    first
      | exact main c_5
      | exact tail 1 (by simp [e_undo, *]) (by omega) (by omega)
      | exact tail 2 (by simp [e_undo, *]) (by omega) (by omega)
set_option maxRecDepth 20000 in
set_option maxHeartbeats 4000000 in
theorem m_save (hl : l.stackTraces = false) (hK : ShM E G d) (hM : AbsM I d S) (x : Int32) : z_CM E l mX5_save [.ref d, .int x] G I sz d (e_slot x) (S.1 1) S (s_save S x) := by
  obtain ⟨k0, kT, kN, kR, kD, kP, kF⟩ := id hK
  obtain ⟨⟨tn, tl, tc⟩, ⟨nN, nW⟩, ⟨aA, a14, aR⟩, aF, aS⟩ := id hM
  have tail : ∀ k9 : Nat, (e_slot x) = k9 → k9 ≠ 0 → k9 < 3 → z_V E l mX5_save (z_rm 8 0 0) 0 0 (z_q (fun v' G' I' sz' => ∃ y9, v' = some (.int y9) ∧ G' = G ∧ sz' = sz ∧ z_mP d (e_slot x) (S.1 1) S (s_save S x) I y9 I')) 0 0 G I sz 16 [some (.ref d), some (.int x)] [.int (nI k9), .ref d] := by
    intro k9 hk hne h3
    refine v_cVI (pc' := 19) (c5_refused hl k0 _) dX5_save_16 lk_X5_99 mwX5_refused miX5_refused k0 rfl rfl rfl rfl (by decide) (Nat.le_of_ble_eq_true rfl) rfl ?_
    rintro _ I1 ⟨rfl, hI1⟩
    have r1 : I1 d 0 = nI k9 := by rw [hI1, z_up_row, z_row_at, pk_us]
    have hM1 : AbsM I1 d S := by rw [hI1]; exact hM.fld 0 _ (by omega)
    have hF1 : FrM I I1 d := by rw [hI1]; exact FrM.up (by omega)
    obtain ⟨⟨bn, bl, bc⟩, ⟨bN, bW⟩, ⟨bA, b14, bR⟩, bF, bS⟩ := id hM1
    have bW2 : WF (I1 (d + 2)) := by rw [bN]; exact bW
    refine v_if_eq (tgt := 24) (pc' := 22) dX5_save_19 (by decide) rfl (fun c_19 => ?_) (fun c_19 => ?_)
    · rw [z_b_eq0, decide_eq_false_iff_not] at c_19
      exact absurd (nI_lt (a := 0) (by omega) (by omega)) c_19
    · refine v_iconst (pc' := 23) dX5_save_22 kc_0 rfl ?_
      exact v_iret dX5_save_23 rfl (Nat.le_refl _) (Nat.le_refl _) ⟨_, rfl, rfl, rfl, by rw [hk]; exact r1, fun q => absurd (hk.symm.trans q) hne, by rw [hk, if_neg hne]; exact hM1, hF1⟩
  have main : z_in x 0 1 = true → z_V E l mX5_save (z_rm 8 0 0) 0 0 (z_q (fun v' G' I' sz' => ∃ y9, v' = some (.int y9) ∧ G' = G ∧ sz' = sz ∧ z_mP d (e_slot x) (S.1 1) S (s_save S x) I y9 I')) 0 0 G I sz 16 [some (.ref d), some (.int x)] [.int 0, .ref d] := by
    intro f1
    refine v_cVI (pc' := 19) (c5_refused hl k0 _) dX5_save_16 lk_X5_99 mwX5_refused miX5_refused k0 rfl rfl rfl rfl (by decide) (Nat.le_of_ble_eq_true rfl) rfl ?_
    rintro _ I1 ⟨rfl, hI1⟩
    have r1 : I1 d 0 = 0 := by rw [hI1, z_up_row, z_row_at, pk_us]
    have hM1 : AbsM I1 d S := by rw [hI1]; exact hM.fld 0 _ (by omega)
    have hF1 : FrM I I1 d := by rw [hI1]; exact FrM.up (by omega)
    obtain ⟨⟨bn, bl, bc⟩, ⟨bN, bW⟩, ⟨bA, b14, bR⟩, bF, bS⟩ := id hM1
    have bW2 : WF (I1 (d + 2)) := by rw [bN]; exact bW
    have hkz : e_slot x = 0 := by simp [e_slot, *]
    refine v_if_eq (tgt := 24) (pc' := 22) dX5_save_19 (by decide) rfl (fun c_19 => ?_) (fun c_19 => ?_)
    · obtain ⟨q, q1, q2, rfl⟩ := z_in_nI (lo := 0) (hi := 1) (by omega) (by omega) f1
      have hqc : (nI q).toNatClampNeg = q := nI_clamp (by omega)
      refine v_aload_n (pc' := 25) dX5_save_24 rfl rfl ?_
      refine g_X5_13 (pc' := 28) rfl dX5_save_25 (by assumption) rfl ?_
      refine v_iconst (pc' := 29) dX5_save_28 kc_0 rfl ?_
      refine v_aload_n (pc' := 30) dX5_save_29 rfl rfl ?_
      refine g_X5_22 (pc' := 33) rfl dX5_save_30 (by assumption) rfl ?_
      refine v_bipush (pc' := 35) dX5_save_33 kb_65 rfl ?_
      refine v_iload_n (pc' := 36) dX5_save_35 rfl rfl ?_
      refine v_imul (pc' := 37) dX5_save_36 rfl ?_
      rw [show (65 * nI q : Int32) = nI (65 * q) from pk_mul 65 q]
      refine v_cSV (pc' := 40) (c5_copyTo hl kN kP (by omega) 0 (65 * q) (by omega) (by omega) (by omega) (by omega) rfl rfl) dX5_save_37 lk_X5_148 mwX5_copyState msX5_copyState rfl rfl (by decide) (Nat.le_of_ble_eq_true rfl) rfl ?_
      rintro _ rfl
      refine v_aload_n (pc' := 41) dX5_save_40 rfl rfl ?_
      refine g_X5_25 (pc' := 44) rfl dX5_save_41 (by assumption) rfl ?_
      refine v_iload_n (pc' := 45) dX5_save_44 rfl rfl ?_
      refine v_iconst (pc' := 46) dX5_save_45 kc_1 rfl ?_
      refine v_zast (pc' := 47) dX5_save_46 (q) rfl kF (by omega) (by decide) rfl rfl ?_
      refine v_aload_n (pc' := 48) dX5_save_47 rfl rfl ?_
      refine g_X5_13 (pc' := 51) rfl dX5_save_48 (by assumption) rfl ?_
      refine v_iconst (pc' := 52) dX5_save_51 kc_1 rfl ?_
      refine v_iald (pc' := 53) dX5_save_52 (1) rfl kN (by decide) (by decide) rfl ?_
      rw [z_up_ne _ _ _ _ (by omega), z_row_ne _ _ _ (by omega), bN]
      exact v_iret dX5_save_53 rfl (Nat.le_refl _) (Nat.le_refl _) ⟨_, rfl, rfl, rfl, by rw [hkz, z_up_ne _ _ _ _ (by omega), z_row_ne _ _ _ (by omega)]; exact r1, fun _ => rfl, by
        rw [hkz, if_pos rfl, s_save, hqc]
        refine ⟨hM1.1.cg (by rw [z_up_ne _ _ _ _ (by omega), z_row_ne _ _ _ (by omega)]) (by rw [z_up_ne _ _ _ _ (by omega), z_row_ne _ _ _ (by omega)]), hM1.2.1.cg (by rw [z_up_ne _ _ _ _ (by omega), z_row_ne _ _ _ (by omega)]), hM1.2.2.1.cg (by rw [z_up_ne _ _ _ _ (by omega), z_row_ne _ _ _ (by omega)]) (by rw [z_up_ne _ _ _ _ (by omega), z_row_ne _ _ _ (by omega)]), fun j hj => ?_, fun j hj hf => ?_⟩
        · rw [z_up_row, z_row_at]
          by_cases e : j = q
          · subst e; simp only [if_true, pk_us]; rfl
          · simp only [e, if_false]; rw [pk_un e, z_row_ne _ _ _ (by omega)]; exact bF j hj
        · rw [z_up_ne _ _ _ _ (by omega), z_row_at]
          by_cases e : j = q
          · subst e
            simp only [if_true]
            refine ⟨bW, fun k hk => ?_⟩
            rw [cpy_in (by omega) (by omega)]
            try rw [bN]
            exact congrArg S.1 (by omega)
          · simp only [e, if_false] at hf ⊢
            refine ⟨(bS j hj hf).1, fun k hk => ?_⟩
            rw [cpy_out (by omega)]
            exact (bS j hj hf).2 k hk, hF1.tr ((FrM.row (by omega)).tr (FrM.up (by omega)))⟩
    · exact absurd (by decide) c_19
  refine z_Ct.of hl pn_X5 [some (.ref d), some (.int x)] rfl (Nat.le_of_ble_eq_true rfl) ?_
  refine v_aload_n (pc' := 1) dX5_save_0 rfl rfl ?_
  refine v_iload_n (pc' := 2) dX5_save_1 rfl rfl ?_
  refine v_i2l (pc' := 3) dX5_save_2 rfl ?_
  refine v_lconst (pc' := 4) dX5_save_3 kl_0 rfl ?_
  refine v_lconst (pc' := 5) dX5_save_4 kl_1 rfl ?_
  refine v_cSR (pc' := 8) (c5_in32 hl (x) 0 1 rfl rfl rfl) dX5_save_5 lk_X5_37 mwX5_in msX5_in rfl rfl (by decide) (Nat.le_of_ble_eq_true rfl) rfl ?_
  refine v_if_eq (tgt := 15) (pc' := 11) dX5_save_8 (by decide) rfl (fun c_8 => ?_) (fun c_8 => ?_)
  · first | rw [z_b_ne0] at c_8 | rw [z_b_eq0] at c_8
    refine v_iconst (pc' := 16) dX5_save_15 kc_1 rfl ?_
    first
      | exact main c_8
      | exact tail 1 (by simp [e_slot, *]) (by omega) (by omega)
      | exact tail 2 (by simp [e_slot, *]) (by omega) (by omega)
  · first | rw [z_b_ne0] at c_8 | rw [z_b_eq0] at c_8
    refine v_iconst (pc' := 12) dX5_save_11 kc_0 rfl ?_
    refine v_goto (tgt := 16) dX5_save_12 (by decide) ?_
    first
      | exact main c_8
      | exact tail 1 (by simp [e_slot, *]) (by omega) (by omega)
      | exact tail 2 (by simp [e_slot, *]) (by omega) (by omega)
set_option maxRecDepth 20000 in
set_option maxHeartbeats 4000000 in
theorem m_restore (hl : l.stackTraces = false) (hK : ShM E G d) (hM : AbsM I d S) (x : Int32) : z_CM E l mX5_restore [.ref d, .int x] G I sz d (e_rest S x) (S.2.2.2.1 x.toNatClampNeg 1) S (s_rest S x) := by
  obtain ⟨k0, kT, kN, kR, kD, kP, kF⟩ := id hK
  obtain ⟨⟨tn, tl, tc⟩, ⟨nN, nW⟩, ⟨aA, a14, aR⟩, aF, aS⟩ := id hM
  have tail : ∀ k9 : Nat, (e_rest S x) = k9 → k9 ≠ 0 → k9 < 3 → z_V E l mX5_restore (z_rm 8 0 0) 0 0 (z_q (fun v' G' I' sz' => ∃ y9, v' = some (.int y9) ∧ G' = G ∧ sz' = sz ∧ z_mP d (e_rest S x) (S.2.2.2.1 x.toNatClampNeg 1) S (s_rest S x) I y9 I')) 0 0 G I sz 29 [some (.ref d), some (.int x)] [.int (nI k9), .ref d] := by
    intro k9 hk hne h3
    refine v_cVI (pc' := 32) (c5_refused hl k0 _) dX5_restore_29 lk_X5_99 mwX5_refused miX5_refused k0 rfl rfl rfl rfl (by decide) (Nat.le_of_ble_eq_true rfl) rfl ?_
    rintro _ I1 ⟨rfl, hI1⟩
    have r1 : I1 d 0 = nI k9 := by rw [hI1, z_up_row, z_row_at, pk_us]
    have hM1 : AbsM I1 d S := by rw [hI1]; exact hM.fld 0 _ (by omega)
    have hF1 : FrM I I1 d := by rw [hI1]; exact FrM.up (by omega)
    obtain ⟨⟨bn, bl, bc⟩, ⟨bN, bW⟩, ⟨bA, b14, bR⟩, bF, bS⟩ := id hM1
    have bW2 : WF (I1 (d + 2)) := by rw [bN]; exact bW
    refine v_if_eq (tgt := 37) (pc' := 35) dX5_restore_32 (by decide) rfl (fun c_32 => ?_) (fun c_32 => ?_)
    · rw [z_b_eq0, decide_eq_false_iff_not] at c_32
      exact absurd (nI_lt (a := 0) (by omega) (by omega)) c_32
    · refine v_iconst (pc' := 36) dX5_restore_35 kc_0 rfl ?_
      exact v_iret dX5_restore_36 rfl (Nat.le_refl _) (Nat.le_refl _) ⟨_, rfl, rfl, rfl, by rw [hk]; exact r1, fun q => absurd (hk.symm.trans q) hne, by rw [hk, if_neg hne]; exact hM1, hF1⟩
  have main : z_in x 0 1 = true → S.2.2.2.2 x.toNatClampNeg = true → z_V E l mX5_restore (z_rm 8 0 0) 0 0 (z_q (fun v' G' I' sz' => ∃ y9, v' = some (.int y9) ∧ G' = G ∧ sz' = sz ∧ z_mP d (e_rest S x) (S.2.2.2.1 x.toNatClampNeg 1) S (s_rest S x) I y9 I')) 0 0 G I sz 29 [some (.ref d), some (.int x)] [.int 0, .ref d] := by
    intro f1 f2
    refine v_cVI (pc' := 32) (c5_refused hl k0 _) dX5_restore_29 lk_X5_99 mwX5_refused miX5_refused k0 rfl rfl rfl rfl (by decide) (Nat.le_of_ble_eq_true rfl) rfl ?_
    rintro _ I1 ⟨rfl, hI1⟩
    have r1 : I1 d 0 = 0 := by rw [hI1, z_up_row, z_row_at, pk_us]
    have hM1 : AbsM I1 d S := by rw [hI1]; exact hM.fld 0 _ (by omega)
    have hF1 : FrM I I1 d := by rw [hI1]; exact FrM.up (by omega)
    obtain ⟨⟨bn, bl, bc⟩, ⟨bN, bW⟩, ⟨bA, b14, bR⟩, bF, bS⟩ := id hM1
    have bW2 : WF (I1 (d + 2)) := by rw [bN]; exact bW
    have hkz : e_rest S x = 0 := by simp [e_rest, *]
    refine v_if_eq (tgt := 37) (pc' := 35) dX5_restore_32 (by decide) rfl (fun c_32 => ?_) (fun c_32 => ?_)
    · obtain ⟨q, q1, q2, rfl⟩ := z_in_nI (lo := 0) (hi := 1) (by omega) (by omega) f1
      have hqc : (nI q).toNatClampNeg = q := nI_clamp (by omega)
      rw [hqc] at f2
      refine v_aload_n (pc' := 38) dX5_restore_37 rfl rfl ?_
      refine g_X5_22 (pc' := 41) rfl dX5_restore_38 (by assumption) rfl ?_
      refine v_bipush (pc' := 43) dX5_restore_41 kb_65 rfl ?_
      refine v_iload_n (pc' := 44) dX5_restore_43 rfl rfl ?_
      refine v_imul (pc' := 45) dX5_restore_44 rfl ?_
      rw [show (65 * nI q : Int32) = nI (65 * q) from pk_mul 65 q]
      refine v_aload_n (pc' := 46) dX5_restore_45 rfl rfl ?_
      refine g_X5_13 (pc' := 49) rfl dX5_restore_46 (by assumption) rfl ?_
      refine v_iconst (pc' := 50) dX5_restore_49 kc_0 rfl ?_
      refine v_cSV (pc' := 53) (c5_copyTo hl kP kN (by omega) (65 * q) 0 (by omega) (by omega) (by omega) (by omega) rfl rfl) dX5_restore_50 lk_X5_148 mwX5_copyState msX5_copyState rfl rfl (by decide) (Nat.le_of_ble_eq_true rfl) rfl ?_
      rintro _ rfl
      refine v_ext (I' := z_row I1 (d + 2) (S.2.2.2.1 q)) kN (fun q9 h9 => by rw [z_row_ne _ _ _ h9, z_row_ne _ _ _ h9]) (fun j9 h9 => by rw [z_row_at, z_row_at, cpy_in (by omega) (by omega), show 65 * q + (j9 - 0) = 65 * q + j9 by omega]; exact ((bS q (by omega) f2).2 j9 h9).symm) ?_
      refine v_aload_n (pc' := 54) dX5_restore_53 rfl rfl ?_
      refine v_iconst (pc' := 55) dX5_restore_54 kc_0 rfl ?_
      refine p_X5_152 (pc' := 58) rfl dX5_restore_55 (by assumption) rfl ?_
      refine v_aload_n (pc' := 59) dX5_restore_58 rfl rfl ?_
      refine g_X5_13 (pc' := 62) rfl dX5_restore_59 (by assumption) rfl ?_
      refine v_iconst (pc' := 63) dX5_restore_62 kc_1 rfl ?_
      refine v_iald (pc' := 64) dX5_restore_63 (1) rfl kN (by decide) (by decide) rfl ?_
      exact v_iret dX5_restore_64 rfl (Nat.le_refl _) (Nat.le_refl _) ⟨_, rfl, rfl, rfl, by rw [hkz, z_up_row, z_row_at, pk_un (by omega), z_row_ne _ _ _ (by omega)]; exact r1, fun _ => by rw [z_up_ne _ _ _ _ (by omega), z_row_at, hqc], by
        rw [hkz, if_pos rfl, s_rest, hqc]
        exact ⟨hM1.1.cg (by rw [z_up_row, z_row_at, pk_un (by omega), z_row_ne _ _ _ (by omega)]) (by rw [z_up_ne _ _ _ _ (by omega), z_row_ne _ _ _ (by omega)]), ⟨by rw [z_up_ne _ _ _ _ (by omega), z_row_at], (bS q (by omega) f2).1⟩, ⟨by rw [z_up_row, z_row_at, pk_us]; rfl, Nat.zero_le _, fun i hi => absurd hi (Nat.not_lt_zero i)⟩, hM1.2.2.2.1.cg (by rw [z_up_ne _ _ _ _ (by omega), z_row_ne _ _ _ (by omega)]), hM1.2.2.2.2.cg (by rw [z_up_ne _ _ _ _ (by omega), z_row_ne _ _ _ (by omega)])⟩, hF1.tr ((FrM.row (by omega)).tr (FrM.up (by omega)))⟩
    · exact absurd (by decide) c_32
  refine z_Ct.of hl pn_X5 [some (.ref d), some (.int x)] rfl (Nat.le_of_ble_eq_true rfl) ?_
  refine v_aload_n (pc' := 1) dX5_restore_0 rfl rfl ?_
  refine v_iload_n (pc' := 2) dX5_restore_1 rfl rfl ?_
  refine v_i2l (pc' := 3) dX5_restore_2 rfl ?_
  refine v_lconst (pc' := 4) dX5_restore_3 kl_0 rfl ?_
  refine v_lconst (pc' := 5) dX5_restore_4 kl_1 rfl ?_
  refine v_cSR (pc' := 8) (c5_in32 hl (x) 0 1 rfl rfl rfl) dX5_restore_5 lk_X5_37 mwX5_in msX5_in rfl rfl (by decide) (Nat.le_of_ble_eq_true rfl) rfl ?_
  refine v_if_ne (tgt := 15) (pc' := 11) dX5_restore_8 (by decide) rfl (fun c_8 => ?_) (fun c_8 => ?_)
  · first | rw [z_b_ne0] at c_8 | rw [z_b_eq0] at c_8
    obtain ⟨q, q1, q2, rfl⟩ := z_in_nI (lo := 0) (hi := 1) (by omega) (by omega) c_8
    have hqc : (nI q).toNatClampNeg = q := nI_clamp (by omega)
    refine v_aload_n (pc' := 16) dX5_restore_15 rfl rfl ?_
    refine g_X5_25 (pc' := 19) rfl dX5_restore_16 (by assumption) rfl ?_
    refine v_iload_n (pc' := 20) dX5_restore_19 rfl rfl ?_
    refine v_zald (pc' := 21) dX5_restore_20 (q) rfl kF (by omega) (by decide) rfl ?_
    rw [aF q (by omega)]
    refine v_if_ne (tgt := 28) (pc' := 24) dX5_restore_21 (by decide) rfl (fun c_21 => ?_) (fun c_21 => ?_)
    · first | rw [z_b_ne0] at c_21 | rw [z_b_eq0] at c_21
      refine v_iconst (pc' := 29) dX5_restore_28 kc_0 rfl ?_
      first
        | exact main c_8 (by rw [hqc]; exact c_21)
        | exact tail 1 (by simp [e_rest, *]) (by omega) (by omega)
        | exact tail 2 (by simp [e_rest, *]) (by omega) (by omega)
    · first | rw [z_b_ne0] at c_21 | rw [z_b_eq0] at c_21
      refine v_iconst (pc' := 25) dX5_restore_24 kc_2 rfl ?_
      refine v_goto (tgt := 29) dX5_restore_25 (by decide) ?_
      first
        | exact main c_8 (by rw [hqc]; exact c_21)
        | exact tail 1 (by simp [e_rest, *]) (by omega) (by omega)
        | exact tail 2 (by simp [e_rest, *]) (by omega) (by omega)
  · first | rw [z_b_ne0] at c_8 | rw [z_b_eq0] at c_8
    refine v_iconst (pc' := 12) dX5_restore_11 kc_1 rfl ?_
    refine v_goto (tgt := 29) dX5_restore_12 (by decide) ?_
    first
      | exact main c_8 (by rw [hqc]; exact c_21)
      | exact tail 1 (by simp [e_rest, *]) (by omega) (by omega)
      | exact tail 2 (by simp [e_rest, *]) (by omega) (by omega)
set_option maxRecDepth 20000 in
set_option maxHeartbeats 4000000 in
theorem m_coming (hl : l.stackTraces = false) (hK : ShM E G d) (hM : AbsM I d S) (t n x : Int32) : z_CM E l mX5_coming [.ref d, .int t, .int n, .int x] G I sz d (e_coming S.1 t n x) (v_coming S.1 t n x) S (S) := by
  obtain ⟨k0, kT, kN, kR, kD, kP, kF⟩ := id hK
  obtain ⟨⟨tn, tl, tc⟩, ⟨nN, nW⟩, ⟨aA, a14, aR⟩, aF, aS⟩ := id hM
  have tail : ∀ k9 : Nat, (e_coming S.1 t n x) = k9 → k9 ≠ 0 → k9 < 3 → z_V E l mX5_coming (z_rm 8 0 0) 0 0 (z_q (fun v' G' I' sz' => ∃ y9, v' = some (.int y9) ∧ G' = G ∧ sz' = sz ∧ z_mP d (e_coming S.1 t n x) (v_coming S.1 t n x) S (S) I y9 I')) 0 0 G I sz 45 [some (.ref d), some (.int t), some (.int n), some (.int x)] [.int (nI k9), .ref d] := by
    intro k9 hk hne h3
    refine v_cVI (pc' := 48) (c5_refused hl k0 _) dX5_coming_45 lk_X5_99 mwX5_refused miX5_refused k0 rfl rfl rfl rfl (by decide) (Nat.le_of_ble_eq_true rfl) rfl ?_
    rintro _ I1 ⟨rfl, hI1⟩
    have r1 : I1 d 0 = nI k9 := by rw [hI1, z_up_row, z_row_at, pk_us]
    have hM1 : AbsM I1 d S := by rw [hI1]; exact hM.fld 0 _ (by omega)
    have hF1 : FrM I I1 d := by rw [hI1]; exact FrM.up (by omega)
    obtain ⟨⟨bn, bl, bc⟩, ⟨bN, bW⟩, ⟨bA, b14, bR⟩, bF, bS⟩ := id hM1
    have bW2 : WF (I1 (d + 2)) := by rw [bN]; exact bW
    refine v_if_eq (tgt := 53) (pc' := 51) dX5_coming_48 (by decide) rfl (fun c_48 => ?_) (fun c_48 => ?_)
    · rw [z_b_eq0, decide_eq_false_iff_not] at c_48
      exact absurd (nI_lt (a := 0) (by omega) (by omega)) c_48
    · refine v_iconst (pc' := 52) dX5_coming_51 kc_0 rfl ?_
      exact v_iret dX5_coming_52 rfl (Nat.le_refl _) (Nat.le_refl _) ⟨_, rfl, rfl, rfl, by rw [hk]; exact r1, fun q => absurd (hk.symm.trans q) hne, by rw [hk, if_neg hne]; exact hM1, hF1⟩
  have main : p_isTask S.1 t = true → z_in n 1 200 = true → z_in x 0 2 = true → z_V E l mX5_coming (z_rm 8 0 0) 0 0 (z_q (fun v' G' I' sz' => ∃ y9, v' = some (.int y9) ∧ G' = G ∧ sz' = sz ∧ z_mP d (e_coming S.1 t n x) (v_coming S.1 t n x) S (S) I y9 I')) 0 0 G I sz 45 [some (.ref d), some (.int t), some (.int n), some (.int x)] [.int 0, .ref d] := by
    intro f1 f2 f3
    refine v_cVI (pc' := 48) (c5_refused hl k0 _) dX5_coming_45 lk_X5_99 mwX5_refused miX5_refused k0 rfl rfl rfl rfl (by decide) (Nat.le_of_ble_eq_true rfl) rfl ?_
    rintro _ I1 ⟨rfl, hI1⟩
    have r1 : I1 d 0 = 0 := by rw [hI1, z_up_row, z_row_at, pk_us]
    have hM1 : AbsM I1 d S := by rw [hI1]; exact hM.fld 0 _ (by omega)
    have hF1 : FrM I I1 d := by rw [hI1]; exact FrM.up (by omega)
    obtain ⟨⟨bn, bl, bc⟩, ⟨bN, bW⟩, ⟨bA, b14, bR⟩, bF, bS⟩ := id hM1
    have bW2 : WF (I1 (d + 2)) := by rw [bN]; exact bW
    have hkz : e_coming S.1 t n x = 0 := by simp [e_coming, *]
    refine v_if_eq (tgt := 53) (pc' := 51) dX5_coming_48 (by decide) rfl (fun c_48 => ?_) (fun c_48 => ?_)
    · obtain ⟨u, hu, rfl⟩ := p_isTask_nI nW f1
      obtain ⟨q, q1, q2, rfl⟩ := z_in_nI (lo := 1) (hi := 200) (by omega) (by omega) f2
      obtain ⟨w, w1, w2, rfl⟩ := z_in_nI (lo := 0) (hi := 2) (by omega) (by omega) f3
      have h6 := nW.1.1
      have huc : (nI u).toNatClampNeg = u := nI_clamp (by omega)
      have hqc : (nI q).toNatClampNeg = q := nI_clamp (by omega)
      refine v_aload_n (pc' := 54) dX5_coming_53 rfl rfl ?_
      refine g_X5_13 (pc' := 57) rfl dX5_coming_54 (by assumption) rfl ?_
      refine v_iconst (pc' := 58) dX5_coming_57 kc_0 rfl ?_
      refine v_aload_n (pc' := 59) dX5_coming_58 rfl rfl ?_
      refine g_X5_16 (pc' := 62) rfl dX5_coming_59 (by assumption) rfl ?_
      refine v_iconst (pc' := 63) dX5_coming_62 kc_0 rfl ?_
      refine v_cSV (pc' := 66) (c5_copyTo hl kN kR (by omega) 0 0 (by omega) (by omega) (by omega) (by omega) rfl rfl) dX5_coming_63 lk_X5_148 mwX5_copyState msX5_copyState rfl rfl (by decide) (Nat.le_of_ble_eq_true rfl) rfl ?_
      rintro _ rfl
      refine v_ext (I' := z_row I1 (d + 3) S.1) kR (fun q9 h9 => by rw [z_row_ne _ _ _ h9, z_row_ne _ _ _ h9]) (fun j9 h9 => by rw [z_row_at, z_row_at, cpy_in (by omega) (by omega), bN]; exact congrArg S.1 (by omega)) ?_
      refine v_aload_n (pc' := 67) dX5_coming_66 rfl rfl ?_
      refine g_X5_16 (pc' := 70) rfl dX5_coming_67 (by assumption) rfl ?_
      refine v_iload_n (pc' := 71) dX5_coming_70 rfl rfl ?_
      refine v_cSI (pc' := 74) (c5_runOn hl kR (by rw [z_row_at]; exact nW) q (by omega) rfl) dX5_coming_71 lk_X5_138 mwX5_runOn msX5_runOn rfl rfl (by decide) (Nat.le_of_ble_eq_true rfl) rfl ?_
      rintro _ _ ⟨rfl, rfl⟩
      simp only [z_row_row, z_row_at]
      refine v_pop (pc' := 75) dX5_coming_74 rfl rfl ?_
      refine v_iload_n (pc' := 76) dX5_coming_75 rfl rfl ?_
      refine v_iconst (pc' := 77) dX5_coming_76 kc_2 rfl ?_
      refine v_icmp_ne (tgt := 102) (pc' := 80) dX5_coming_77 (by decide) rfl (fun c_77 => ?_) (fun c_77 => ?_)
      · have c7 : ¬ w = 2 := fun q9 => c_77 (by rw [q9]; rfl)
        refine v_aload_n (pc' := 103) dX5_coming_102 rfl rfl ?_
        refine g_X5_16 (pc' := 106) rfl dX5_coming_103 (by assumption) rfl ?_
        refine v_iload_n (pc' := 107) dX5_coming_106 rfl rfl ?_
        refine v_iload_n (pc' := 108) dX5_coming_107 rfl rfl ?_
        refine v_if_ne (tgt := 115) (pc' := 111) dX5_coming_108 (by decide) rfl (fun c_108 => ?_) (fun c_108 => ?_)
        · rw [nI_is0 (by omega)] at c_108
          have c8 : w = 1 := by omega
          refine v_iconst (pc' := 116) dX5_coming_115 kc_2 rfl ?_
          first
            | (refine v_cSR (pc' := 119) (c5_of hl kR u 1 rfl rfl (by omega)) dX5_coming_116 lk_X5_43 mwX5_of msX5_of rfl rfl (by decide) (Nat.le_of_ble_eq_true rfl) rfl ?_
               rw [z_row_at]
               exact v_iret dX5_coming_119 rfl (Nat.le_refl _) (Nat.le_refl _) ⟨_, rfl, rfl, rfl, by rw [hkz, z_row_ne _ _ _ (by omega)]; exact r1, fun _ => by
                 unfold v_coming
                 rw [huc, hqc]
                 first
                   | (subst c8; rfl)
                   | (subst c_108; rfl), by rw [hkz]; exact hM1.trialr, hF1.tr (FrM.row (by omega))⟩)
            | (refine v_cSR (pc' := 119) (c5_of hl kR u 2 rfl rfl (by omega)) dX5_coming_116 lk_X5_43 mwX5_of msX5_of rfl rfl (by decide) (Nat.le_of_ble_eq_true rfl) rfl ?_
               rw [z_row_at]
               exact v_iret dX5_coming_119 rfl (Nat.le_refl _) (Nat.le_refl _) ⟨_, rfl, rfl, rfl, by rw [hkz, z_row_ne _ _ _ (by omega)]; exact r1, fun _ => by
                 unfold v_coming
                 rw [huc, hqc]
                 first
                   | (subst c8; rfl)
                   | (subst c_108; rfl), by rw [hkz]; exact hM1.trialr, hF1.tr (FrM.row (by omega))⟩)
        · rw [nI_is0 (by omega)] at c_108
          refine v_iconst (pc' := 112) dX5_coming_111 kc_1 rfl ?_
          refine v_goto (tgt := 116) dX5_coming_112 (by decide) ?_
          first
            | (refine v_cSR (pc' := 119) (c5_of hl kR u 1 rfl rfl (by omega)) dX5_coming_116 lk_X5_43 mwX5_of msX5_of rfl rfl (by decide) (Nat.le_of_ble_eq_true rfl) rfl ?_
               rw [z_row_at]
               exact v_iret dX5_coming_119 rfl (Nat.le_refl _) (Nat.le_refl _) ⟨_, rfl, rfl, rfl, by rw [hkz, z_row_ne _ _ _ (by omega)]; exact r1, fun _ => by
                 unfold v_coming
                 rw [huc, hqc]
                 first
                   | (subst c8; rfl)
                   | (subst c_108; rfl), by rw [hkz]; exact hM1.trialr, hF1.tr (FrM.row (by omega))⟩)
            | (refine v_cSR (pc' := 119) (c5_of hl kR u 2 rfl rfl (by omega)) dX5_coming_116 lk_X5_43 mwX5_of msX5_of rfl rfl (by decide) (Nat.le_of_ble_eq_true rfl) rfl ?_
               rw [z_row_at]
               exact v_iret dX5_coming_119 rfl (Nat.le_refl _) (Nat.le_refl _) ⟨_, rfl, rfl, rfl, by rw [hkz, z_row_ne _ _ _ (by omega)]; exact r1, fun _ => by
                 unfold v_coming
                 rw [huc, hqc]
                 first
                   | (subst c8; rfl)
                   | (subst c_108; rfl), by rw [hkz]; exact hM1.trialr, hF1.tr (FrM.row (by omega))⟩)
      · have c7 : w = 2 := (nI_eq (b := 2) (by omega) (by omega)).mp c_77
        refine v_aload_n (pc' := 81) dX5_coming_80 rfl rfl ?_
        refine g_X5_16 (pc' := 84) rfl dX5_coming_81 (by assumption) rfl ?_
        refine v_iload_n (pc' := 85) dX5_coming_84 rfl rfl ?_
        refine v_iconst (pc' := 86) dX5_coming_85 kc_3 rfl ?_
        refine v_cSR (pc' := 89) (c5_of hl kR u 3 rfl rfl (by omega)) dX5_coming_86 lk_X5_43 mwX5_of msX5_of rfl rfl (by decide) (Nat.le_of_ble_eq_true rfl) rfl ?_
        rw [z_row_at]
        refine v_aload_n (pc' := 90) dX5_coming_89 rfl rfl ?_
        refine g_X5_13 (pc' := 93) rfl dX5_coming_90 (by assumption) rfl ?_
        refine v_iload_n (pc' := 94) dX5_coming_93 rfl rfl ?_
        refine v_iconst (pc' := 95) dX5_coming_94 kc_3 rfl ?_
        refine v_cSR (pc' := 98) (c5_of hl kN u 3 rfl rfl (by omega)) dX5_coming_95 lk_X5_43 mwX5_of msX5_of rfl rfl (by decide) (Nat.le_of_ble_eq_true rfl) rfl ?_
        rw [z_row_ne _ _ _ (by omega), bN]
        refine v_isub (pc' := 99) dX5_coming_98 rfl ?_
        refine v_goto (tgt := 119) dX5_coming_99 (by decide) ?_
        exact v_iret dX5_coming_119 rfl (Nat.le_refl _) (Nat.le_refl _) ⟨_, rfl, rfl, rfl, by rw [hkz, z_row_ne _ _ _ (by omega)]; exact r1, fun _ => by
          unfold v_coming
          rw [huc, hqc]
          first
            | (subst c7; rfl)
            | (subst c8; rfl)
            | (subst c_108; rfl), by rw [hkz]; exact hM1.trialr, hF1.tr (FrM.row (by omega))⟩
    · exact absurd (by decide) c_48
  refine z_Ct.of hl pn_X5 [some (.ref d), some (.int t), some (.int n), some (.int x)] rfl (Nat.le_of_ble_eq_true rfl) ?_
  refine v_aload_n (pc' := 1) dX5_coming_0 rfl rfl ?_
  refine v_aload_n (pc' := 2) dX5_coming_1 rfl rfl ?_
  refine g_X5_13 (pc' := 5) rfl dX5_coming_2 (by assumption) rfl ?_
  refine v_iload_n (pc' := 6) dX5_coming_5 rfl rfl ?_
  refine v_cSR (pc' := 9) (c5_isTask hl kN t) dX5_coming_6 lk_X5_62 mwX5_isTask msX5_isTask rfl rfl (by decide) (Nat.le_of_ble_eq_true rfl) rfl ?_
  rw [nN]
  refine v_if_ne (tgt := 16) (pc' := 12) dX5_coming_9 (by decide) rfl (fun c_9 => ?_) (fun c_9 => ?_)
  · first | rw [z_b_ne0] at c_9 | rw [z_b_eq0] at c_9
    refine v_iload_n (pc' := 17) dX5_coming_16 rfl rfl ?_
    refine v_i2l (pc' := 18) dX5_coming_17 rfl ?_
    refine v_lconst (pc' := 19) dX5_coming_18 kl_1 rfl ?_
    refine v_ldc2 (pc' := 22) dX5_coming_19 cn_X5_188 rfl ?_
    refine v_cSR (pc' := 25) (c5_in32 hl (n) 1 200 rfl rfl rfl) dX5_coming_22 lk_X5_37 mwX5_in msX5_in rfl rfl (by decide) (Nat.le_of_ble_eq_true rfl) rfl ?_
    refine v_if_eq (tgt := 44) (pc' := 28) dX5_coming_25 (by decide) rfl (fun c_25 => ?_) (fun c_25 => ?_)
    · first | rw [z_b_ne0] at c_25 | rw [z_b_eq0] at c_25
      refine v_iconst (pc' := 45) dX5_coming_44 kc_2 rfl ?_
      first
        | exact main c_9 c_25 c_37
        | exact tail 1 (by simp [e_coming, *]) (by omega) (by omega)
        | exact tail 2 (by simp [e_coming, *]) (by omega) (by omega)
    · first | rw [z_b_ne0] at c_25 | rw [z_b_eq0] at c_25
      refine v_iload_n (pc' := 29) dX5_coming_28 rfl rfl ?_
      refine v_i2l (pc' := 30) dX5_coming_29 rfl ?_
      refine v_lconst (pc' := 31) dX5_coming_30 kl_0 rfl ?_
      refine v_ldc2 (pc' := 34) dX5_coming_31 cn_X5_165 rfl ?_
      refine v_cSR (pc' := 37) (c5_in32 hl (x) 0 2 rfl rfl rfl) dX5_coming_34 lk_X5_37 mwX5_in msX5_in rfl rfl (by decide) (Nat.le_of_ble_eq_true rfl) rfl ?_
      refine v_if_eq (tgt := 44) (pc' := 40) dX5_coming_37 (by decide) rfl (fun c_37 => ?_) (fun c_37 => ?_)
      · first | rw [z_b_ne0] at c_37 | rw [z_b_eq0] at c_37
        refine v_iconst (pc' := 45) dX5_coming_44 kc_2 rfl ?_
        first
          | exact main c_9 c_25 c_37
          | exact tail 1 (by simp [e_coming, *]) (by omega) (by omega)
          | exact tail 2 (by simp [e_coming, *]) (by omega) (by omega)
      · first | rw [z_b_ne0] at c_37 | rw [z_b_eq0] at c_37
        refine v_iconst (pc' := 41) dX5_coming_40 kc_0 rfl ?_
        refine v_goto (tgt := 45) dX5_coming_41 (by decide) ?_
        first
          | exact main c_9 c_25 c_37
          | exact tail 1 (by simp [e_coming, *]) (by omega) (by omega)
          | exact tail 2 (by simp [e_coming, *]) (by omega) (by omega)
  · first | rw [z_b_ne0] at c_9 | rw [z_b_eq0] at c_9
    refine v_iconst (pc' := 13) dX5_coming_12 kc_1 rfl ?_
    refine v_goto (tgt := 45) dX5_coming_13 (by decide) ?_
    first
      | exact main c_9 c_25 c_37
      | exact tail 1 (by simp [e_coming, *]) (by omega) (by omega)
      | exact tail 2 (by simp [e_coming, *]) (by omega) (by omega)
theorem ff_pos (r : zR) {s : Nat} (hs : s < 12) : (0 < p_ff r s) = (p_free r s = true) := by
  obtain ⟨k, hk⟩ : ∃ k, 12 - s = k + 1 := ⟨11 - s, by omega⟩
  unfold p_ff
  rw [hk, p_ffn_s]
  split
  · rename_i h; simp [h]
  · rename_i h; simp [h]
theorem ff_le (r : zR) (s : Nat) : p_ff r s ≤ 12 := Nat.le_trans (p_ffn_le r (12 - s) s) (by omega)
set_option maxRecDepth 20000 in
set_option maxHeartbeats 4000000 in
theorem m_aboutS (hl : l.stackTraces = false) (hK : ShM E G d) (q : Nat) (q2 : q ≤ 8) (I1 : zI) (r1 : I1 d 0 = 0) (hM1 : AbsM I1 d S) (hF1 : FrM I I1 d) (hkz : e_about (nI q) = 0) (o : Option Value) : z_V E l mX5_about (z_rm 8 0 0) 0 0 (z_q (fun v' G' I' sz' => ∃ y9, v' = some (.int y9) ∧ G' = G ∧ sz' = sz ∧ z_mP d (e_about (nI q)) (v_about S.1 q) S S I y9 I')) 0 0 G I1 sz 101 [some (.ref d), some (.int (nI q)), some (.int (p_frn S.1 12 0 0)), some (.int (p_lonn S.1 12 0 0)), some (.int (p_badn S.1 12 0 0)), some (.int 12), o] [] := by
  obtain ⟨k0, kT, kN, kR, kD, kP, kF⟩ := id hK
  obtain ⟨bN, bW⟩ := hM1.2.1
  have bW2 : WF (I1 (d + 2)) := by rw [bN]; exact bW
  rcases (by omega : q = 0 ∨ q = 1 ∨ q = 2 ∨ q = 3 ∨ q = 4 ∨ q = 5 ∨ q = 6 ∨ q = 7 ∨ q = 8) with rfl | rfl | rfl | rfl | rfl | rfl | rfl | rfl | rfl
  · refine v_iload_n (pc' := 102) dX5_about_101 rfl rfl ?_
    refine v_tableIn (tgt := 140) 0 dX5_about_102 (by rw [nI_toInt (by omega)]; omega) (by decide) rfl (by decide) ?_
    refine v_aload_n (pc' := 141) dX5_about_140 rfl rfl ?_
    refine g_X5_13 (pc' := 144) rfl dX5_about_141 (by assumption) rfl ?_
    refine v_iload_n (pc' := 145) dX5_about_144 rfl rfl ?_
    refine v_iald (pc' := 146) dX5_about_145 (0) rfl kN (by omega) (by decide) rfl ?_
    rw [bN]
    exact v_iret dX5_about_146 rfl (Nat.le_refl _) (Nat.le_refl _) ⟨_, rfl, rfl, rfl, by rw [hkz]; exact r1, fun _ => by simp [v_about], by rw [hkz]; exact hM1, hF1⟩
  · refine v_iload_n (pc' := 102) dX5_about_101 rfl rfl ?_
    refine v_tableIn (tgt := 140) 1 dX5_about_102 (by rw [nI_toInt (by omega)]; omega) (by decide) rfl (by decide) ?_
    refine v_aload_n (pc' := 141) dX5_about_140 rfl rfl ?_
    refine g_X5_13 (pc' := 144) rfl dX5_about_141 (by assumption) rfl ?_
    refine v_iload_n (pc' := 145) dX5_about_144 rfl rfl ?_
    refine v_iald (pc' := 146) dX5_about_145 (1) rfl kN (by omega) (by decide) rfl ?_
    rw [bN]
    exact v_iret dX5_about_146 rfl (Nat.le_refl _) (Nat.le_refl _) ⟨_, rfl, rfl, rfl, by rw [hkz]; exact r1, fun _ => by simp [v_about], by rw [hkz]; exact hM1, hF1⟩
  · refine v_iload_n (pc' := 102) dX5_about_101 rfl rfl ?_
    refine v_tableIn (tgt := 147) 2 dX5_about_102 (by rw [nI_toInt (by omega)]; omega) (by decide) rfl (by decide) ?_
    refine v_aload_n (pc' := 148) dX5_about_147 rfl rfl ?_
    refine g_X5_13 (pc' := 151) rfl dX5_about_148 (by assumption) rfl ?_
    refine v_cSR (pc' := 154) (c5_running hl kN bW2) dX5_about_151 lk_X5_160 mwX5_running msX5_running rfl rfl (by decide) (Nat.le_of_ble_eq_true rfl) rfl ?_
    rw [bN]
    exact v_iret dX5_about_154 rfl (Nat.le_refl _) (Nat.le_refl _) ⟨_, rfl, rfl, rfl, by rw [hkz]; exact r1, fun _ => by simp [v_about], by rw [hkz]; exact hM1, hF1⟩
  · refine v_iload_n (pc' := 102) dX5_about_101 rfl rfl ?_
    refine v_tableIn (tgt := 155) 3 dX5_about_102 (by rw [nI_toInt (by omega)]; omega) (by decide) rfl (by decide) ?_
    refine v_iload_n (pc' := 156) dX5_about_155 rfl rfl ?_
    exact v_iret dX5_about_156 rfl (Nat.le_refl _) (Nat.le_refl _) ⟨_, rfl, rfl, rfl, by rw [hkz]; exact r1, fun _ => by simp [v_about], by rw [hkz]; exact hM1, hF1⟩
  · refine v_iload_n (pc' := 102) dX5_about_101 rfl rfl ?_
    refine v_tableIn (tgt := 157) 4 dX5_about_102 (by rw [nI_toInt (by omega)]; omega) (by decide) rfl (by decide) ?_
    refine v_iload_n (pc' := 158) dX5_about_157 rfl rfl ?_
    exact v_iret dX5_about_158 rfl (Nat.le_refl _) (Nat.le_refl _) ⟨_, rfl, rfl, rfl, by rw [hkz]; exact r1, fun _ => by simp [v_about], by rw [hkz]; exact hM1, hF1⟩
  · refine v_iload_n (pc' := 102) dX5_about_101 rfl rfl ?_
    refine v_tableIn (tgt := 159) 5 dX5_about_102 (by rw [nI_toInt (by omega)]; omega) (by decide) rfl (by decide) ?_
    refine v_iload (pc' := 161) dX5_about_159 rfl rfl ?_
    exact v_iret dX5_about_161 rfl (Nat.le_refl _) (Nat.le_refl _) ⟨_, rfl, rfl, rfl, by rw [hkz]; exact r1, fun _ => by simp [v_about], by rw [hkz]; exact hM1, hF1⟩
  · refine v_iload_n (pc' := 102) dX5_about_101 rfl rfl ?_
    refine v_tableOut (tgt := 162) dX5_about_102 (by rw [nI_toInt (by omega)]; omega) (by decide) ?_
    refine v_aload_n (pc' := 163) dX5_about_162 rfl rfl ?_
    refine g_X5_13 (pc' := 166) rfl dX5_about_163 (by assumption) rfl ?_
    refine v_iload_n (pc' := 167) dX5_about_166 rfl rfl ?_
    refine v_iconst (pc' := 168) dX5_about_167 kc_4 rfl ?_
    refine v_isub (pc' := 169) dX5_about_168 rfl ?_
    refine v_iald (pc' := 170) dX5_about_169 (2) rfl kN (by omega) (by decide) rfl ?_
    rw [bN]
    exact v_iret dX5_about_170 rfl (Nat.le_refl _) (Nat.le_refl _) ⟨_, rfl, rfl, rfl, by rw [hkz]; exact r1, fun _ => by simp [v_about], by rw [hkz]; exact hM1, hF1⟩
  · refine v_iload_n (pc' := 102) dX5_about_101 rfl rfl ?_
    refine v_tableOut (tgt := 162) dX5_about_102 (by rw [nI_toInt (by omega)]; omega) (by decide) ?_
    refine v_aload_n (pc' := 163) dX5_about_162 rfl rfl ?_
    refine g_X5_13 (pc' := 166) rfl dX5_about_163 (by assumption) rfl ?_
    refine v_iload_n (pc' := 167) dX5_about_166 rfl rfl ?_
    refine v_iconst (pc' := 168) dX5_about_167 kc_4 rfl ?_
    refine v_isub (pc' := 169) dX5_about_168 rfl ?_
    refine v_iald (pc' := 170) dX5_about_169 (3) rfl kN (by omega) (by decide) rfl ?_
    rw [bN]
    exact v_iret dX5_about_170 rfl (Nat.le_refl _) (Nat.le_refl _) ⟨_, rfl, rfl, rfl, by rw [hkz]; exact r1, fun _ => by simp [v_about], by rw [hkz]; exact hM1, hF1⟩
  · refine v_iload_n (pc' := 102) dX5_about_101 rfl rfl ?_
    refine v_tableOut (tgt := 162) dX5_about_102 (by rw [nI_toInt (by omega)]; omega) (by decide) ?_
    refine v_aload_n (pc' := 163) dX5_about_162 rfl rfl ?_
    refine g_X5_13 (pc' := 166) rfl dX5_about_163 (by assumption) rfl ?_
    refine v_iload_n (pc' := 167) dX5_about_166 rfl rfl ?_
    refine v_iconst (pc' := 168) dX5_about_167 kc_4 rfl ?_
    refine v_isub (pc' := 169) dX5_about_168 rfl ?_
    refine v_iald (pc' := 170) dX5_about_169 (4) rfl kN (by omega) (by decide) rfl ?_
    rw [bN]
    exact v_iret dX5_about_170 rfl (Nat.le_refl _) (Nat.le_refl _) ⟨_, rfl, rfl, rfl, by rw [hkz]; exact r1, fun _ => by simp [v_about], by rw [hkz]; exact hM1, hF1⟩

set_option maxRecDepth 20000 in
set_option maxHeartbeats 4000000 in
theorem m_aboutL (hl : l.stackTraces = false) (hK : ShM E G d) (q : Nat) (q2 : q ≤ 8) (I1 : zI) (r1 : I1 d 0 = 0) (hM1 : AbsM I1 d S) (hF1 : FrM I I1 d) (hkz : e_about (nI q) = 0) : ∀ (f s : Nat) (x1 x2 x3 : Int32) (o : Option Value), z_c1 o = true → 12 = s + f → p_frn S.1 f s x1 = p_frn S.1 12 0 0 → p_lonn S.1 f s x2 = p_lonn S.1 12 0 0 → p_badn S.1 f s x3 = p_badn S.1 12 0 0 → z_V E l mX5_about (z_rm 8 0 0) 0 0 (z_q (fun v' G' I' sz' => ∃ y9, v' = some (.int y9) ∧ G' = G ∧ sz' = sz ∧ z_mP d (e_about (nI q)) (v_about S.1 q) S S I y9 I')) 0 0 G I1 sz 36 [some (.ref d), some (.int (nI q)), some (.int x1), some (.int x2), some (.int x3), some (.int (nI s)), o] [] := by
  obtain ⟨k0, kT, kN, kR, kD, kP, kF⟩ := id hK
  obtain ⟨bN, bW⟩ := hM1.2.1
  have bW2 : WF (I1 (d + 2)) := by rw [bN]; exact bW
  intro f
  induction f with
  | zero =>
    intro s x1 x2 x3 o ho hs h1 h2 h3
    rw [p_frn] at h1
    rw [p_lonn] at h2
    rw [p_badn] at h3
    refine v_iload (pc' := 38) dX5_about_36 rfl rfl ?_
    refine v_bipush (pc' := 40) dX5_about_38 kb_12 rfl ?_
    refine v_icmp_ge (tgt := 101) (pc' := 43) dX5_about_40 (by decide) rfl (fun c_40 => ?_) (fun c_40 => ?_)
    · rw [h1, h2, h3, show nI s = 12 by rw [show s = 12 by omega]; rfl]
      exact m_aboutS hl hK q q2 I1 r1 hM1 hF1 hkz o
    · exact absurd (nI_le (a := 12) (by omega) (by omega)) c_40
  | succ f ih =>
    intro s x1 x2 x3 o ho hs h1 h2 h3
    refine v_iload (pc' := 38) dX5_about_36 rfl rfl ?_
    refine v_bipush (pc' := 40) dX5_about_38 kb_12 rfl ?_
    refine v_icmp_ge (tgt := 101) (pc' := 43) dX5_about_40 (by decide) rfl (fun c_40 => ?_) (fun c_40 => ?_)
    · exact absurd c_40 (nI_ge (b := 12) (by omega) (by omega))
    · refine v_aload_n (pc' := 44) dX5_about_43 rfl rfl ?_
      refine g_X5_13 (pc' := 47) rfl dX5_about_44 (by assumption) rfl ?_
      refine v_iload (pc' := 49) dX5_about_47 rfl rfl ?_
      refine v_cSR (pc' := 52) (c5_freeFrom hl kN bW2 s (by omega) rfl) dX5_about_49 lk_X5_157 mwX5_freeFrom msX5_freeFrom rfl rfl (by decide) (Nat.le_of_ble_eq_true rfl) rfl ?_
      rw [bN]
      have hle := ff_le S.1 s
      have hfp := ff_pos S.1 (show s < 12 by omega)
      refine v_istore6 (pc' := 54) dX5_about_52 (by decide) rfl rfl ?_
      refine v_iload_n (pc' := 55) dX5_about_54 rfl rfl ?_
      refine v_iload (pc' := 57) dX5_about_55 rfl rfl ?_
      refine v_if_le (tgt := 64) (pc' := 60) dX5_about_57 (by decide) rfl (fun c_57 => ?_) (fun c_57 => ?_)
      · have c5 : ¬ p_free S.1 s = true := by
          rw [← hfp]
          intro q9
          exact nI_nle q9 (by omega) c_57
        rw [p_frn, if_neg c5] at h1
        refine v_iconst (pc' := 65) dX5_about_64 kc_0 rfl ?_
        refine v_iadd (pc' := 66) dX5_about_65 rfl ?_
        first | rw [Int32.add_zero] | skip
        refine v_istore_n2 (pc' := 67) dX5_about_66 (by decide) rfl rfl ?_
        refine v_iload (pc' := 69) dX5_about_67 rfl rfl ?_
        refine v_iload_n (pc' := 70) dX5_about_69 rfl rfl ?_
        refine v_icmp_le (tgt := 78) (pc' := 73) dX5_about_70 (by decide) rfl (fun c_70 => ?_) (fun c_70 => ?_)
        · rw [← Int32.not_lt] at c_70
          rw [p_lonn, if_neg c_70] at h2
          refine v_iload_n (pc' := 79) dX5_about_78 rfl rfl ?_
          refine v_istore_n3 (pc' := 80) dX5_about_79 (by decide) rfl rfl ?_
          refine v_iload (pc' := 82) dX5_about_80 rfl rfl ?_
          refine v_aload_n (pc' := 83) dX5_about_82 rfl rfl ?_
          refine g_X5_13 (pc' := 86) rfl dX5_about_83 (by assumption) rfl ?_
          refine v_bipush (pc' := 88) dX5_about_86 kb_11 rfl ?_
          refine v_iload (pc' := 90) dX5_about_88 rfl rfl ?_
          refine v_iadd (pc' := 91) dX5_about_90 rfl ?_
          refine v_iald (pc' := 92) dX5_about_91 (11 + s) (z_ix11 s) kN (by omega) (by decide) rfl ?_
          rw [bN]
          refine v_iadd (pc' := 93) dX5_about_92 rfl ?_
          refine v_istore4 (pc' := 95) dX5_about_93 (by decide) rfl rfl ?_
          rw [p_badn] at h3
          refine v_iinc5 (pc' := 98) dX5_about_95 (by decide) rfl kc_1 (nI_1 s) rfl ?_
          refine v_goto (tgt := 36) dX5_about_98 (by decide) ?_
          exact ih (s + 1) _ _ _ _ rfl (by omega) h1 h2 h3
        · rw [Int32.not_le] at c_70
          rw [p_lonn, if_pos c_70] at h2
          refine v_iload (pc' := 75) dX5_about_73 rfl rfl ?_
          refine v_goto (tgt := 79) dX5_about_75 (by decide) ?_
          refine v_istore_n3 (pc' := 80) dX5_about_79 (by decide) rfl rfl ?_
          refine v_iload (pc' := 82) dX5_about_80 rfl rfl ?_
          refine v_aload_n (pc' := 83) dX5_about_82 rfl rfl ?_
          refine g_X5_13 (pc' := 86) rfl dX5_about_83 (by assumption) rfl ?_
          refine v_bipush (pc' := 88) dX5_about_86 kb_11 rfl ?_
          refine v_iload (pc' := 90) dX5_about_88 rfl rfl ?_
          refine v_iadd (pc' := 91) dX5_about_90 rfl ?_
          refine v_iald (pc' := 92) dX5_about_91 (11 + s) (z_ix11 s) kN (by omega) (by decide) rfl ?_
          rw [bN]
          refine v_iadd (pc' := 93) dX5_about_92 rfl ?_
          refine v_istore4 (pc' := 95) dX5_about_93 (by decide) rfl rfl ?_
          rw [p_badn] at h3
          refine v_iinc5 (pc' := 98) dX5_about_95 (by decide) rfl kc_1 (nI_1 s) rfl ?_
          refine v_goto (tgt := 36) dX5_about_98 (by decide) ?_
          exact ih (s + 1) _ _ _ _ rfl (by omega) h1 h2 h3
      · have c5 : p_free S.1 s = true := by
          rw [← hfp]
          rcases Nat.eq_zero_or_pos (p_ff S.1 s) with q9 | q9
          · rw [q9] at c_57; exact absurd (by decide) c_57
          · exact q9
        rw [p_frn, if_pos c5] at h1
        refine v_iconst (pc' := 61) dX5_about_60 kc_1 rfl ?_
        refine v_goto (tgt := 65) dX5_about_61 (by decide) ?_
        refine v_iadd (pc' := 66) dX5_about_65 rfl ?_
        first | rw [Int32.add_zero] | skip
        refine v_istore_n2 (pc' := 67) dX5_about_66 (by decide) rfl rfl ?_
        refine v_iload (pc' := 69) dX5_about_67 rfl rfl ?_
        refine v_iload_n (pc' := 70) dX5_about_69 rfl rfl ?_
        refine v_icmp_le (tgt := 78) (pc' := 73) dX5_about_70 (by decide) rfl (fun c_70 => ?_) (fun c_70 => ?_)
        · rw [← Int32.not_lt] at c_70
          rw [p_lonn, if_neg c_70] at h2
          refine v_iload_n (pc' := 79) dX5_about_78 rfl rfl ?_
          refine v_istore_n3 (pc' := 80) dX5_about_79 (by decide) rfl rfl ?_
          refine v_iload (pc' := 82) dX5_about_80 rfl rfl ?_
          refine v_aload_n (pc' := 83) dX5_about_82 rfl rfl ?_
          refine g_X5_13 (pc' := 86) rfl dX5_about_83 (by assumption) rfl ?_
          refine v_bipush (pc' := 88) dX5_about_86 kb_11 rfl ?_
          refine v_iload (pc' := 90) dX5_about_88 rfl rfl ?_
          refine v_iadd (pc' := 91) dX5_about_90 rfl ?_
          refine v_iald (pc' := 92) dX5_about_91 (11 + s) (z_ix11 s) kN (by omega) (by decide) rfl ?_
          rw [bN]
          refine v_iadd (pc' := 93) dX5_about_92 rfl ?_
          refine v_istore4 (pc' := 95) dX5_about_93 (by decide) rfl rfl ?_
          rw [p_badn] at h3
          refine v_iinc5 (pc' := 98) dX5_about_95 (by decide) rfl kc_1 (nI_1 s) rfl ?_
          refine v_goto (tgt := 36) dX5_about_98 (by decide) ?_
          exact ih (s + 1) _ _ _ _ rfl (by omega) h1 h2 h3
        · rw [Int32.not_le] at c_70
          rw [p_lonn, if_pos c_70] at h2
          refine v_iload (pc' := 75) dX5_about_73 rfl rfl ?_
          refine v_goto (tgt := 79) dX5_about_75 (by decide) ?_
          refine v_istore_n3 (pc' := 80) dX5_about_79 (by decide) rfl rfl ?_
          refine v_iload (pc' := 82) dX5_about_80 rfl rfl ?_
          refine v_aload_n (pc' := 83) dX5_about_82 rfl rfl ?_
          refine g_X5_13 (pc' := 86) rfl dX5_about_83 (by assumption) rfl ?_
          refine v_bipush (pc' := 88) dX5_about_86 kb_11 rfl ?_
          refine v_iload (pc' := 90) dX5_about_88 rfl rfl ?_
          refine v_iadd (pc' := 91) dX5_about_90 rfl ?_
          refine v_iald (pc' := 92) dX5_about_91 (11 + s) (z_ix11 s) kN (by omega) (by decide) rfl ?_
          rw [bN]
          refine v_iadd (pc' := 93) dX5_about_92 rfl ?_
          refine v_istore4 (pc' := 95) dX5_about_93 (by decide) rfl rfl ?_
          rw [p_badn] at h3
          refine v_iinc5 (pc' := 98) dX5_about_95 (by decide) rfl kc_1 (nI_1 s) rfl ?_
          refine v_goto (tgt := 36) dX5_about_98 (by decide) ?_
          exact ih (s + 1) _ _ _ _ rfl (by omega) h1 h2 h3

set_option maxRecDepth 20000 in
set_option maxHeartbeats 4000000 in
theorem m_about (hl : l.stackTraces = false) (hK : ShM E G d) (hM : AbsM I d S) (x : Int32) : z_CM E l mX5_about [.ref d, .int x] G I sz d (e_about x) (v_about S.1 x.toNatClampNeg) S (S) := by
  obtain ⟨k0, kT, kN, kR, kD, kP, kF⟩ := id hK
  obtain ⟨⟨tn, tl, tc⟩, ⟨nN, nW⟩, ⟨aA, a14, aR⟩, aF, aS⟩ := id hM
  have tail : ∀ k9 : Nat, (e_about x) = k9 → k9 ≠ 0 → k9 < 3 → z_V E l mX5_about (z_rm 8 0 0) 0 0 (z_q (fun v' G' I' sz' => ∃ y9, v' = some (.int y9) ∧ G' = G ∧ sz' = sz ∧ z_mP d (e_about x) (v_about S.1 x.toNatClampNeg) S (S) I y9 I')) 0 0 G I sz 18 [some (.ref d), some (.int x), none, none, none, none, none] [.int (nI k9), .ref d] := by
    intro k9 hk hne h3
    refine v_cVI (pc' := 21) (c5_refused hl k0 _) dX5_about_18 lk_X5_99 mwX5_refused miX5_refused k0 rfl rfl rfl rfl (by decide) (Nat.le_of_ble_eq_true rfl) rfl ?_
    rintro _ I1 ⟨rfl, hI1⟩
    have r1 : I1 d 0 = nI k9 := by rw [hI1, z_up_row, z_row_at, pk_us]
    have hM1 : AbsM I1 d S := by rw [hI1]; exact hM.fld 0 _ (by omega)
    have hF1 : FrM I I1 d := by rw [hI1]; exact FrM.up (by omega)
    obtain ⟨⟨bn, bl, bc⟩, ⟨bN, bW⟩, ⟨bA, b14, bR⟩, bF, bS⟩ := id hM1
    have bW2 : WF (I1 (d + 2)) := by rw [bN]; exact bW
    refine v_if_eq (tgt := 26) (pc' := 24) dX5_about_21 (by decide) rfl (fun c_21 => ?_) (fun c_21 => ?_)
    · rw [z_b_eq0, decide_eq_false_iff_not] at c_21
      exact absurd (nI_lt (a := 0) (by omega) (by omega)) c_21
    · refine v_iconst (pc' := 25) dX5_about_24 kc_0 rfl ?_
      exact v_iret dX5_about_25 rfl (Nat.le_refl _) (Nat.le_refl _) ⟨_, rfl, rfl, rfl, by rw [hk]; exact r1, fun q => absurd (hk.symm.trans q) hne, by rw [hk, if_neg hne]; exact hM1, hF1⟩
  have main : z_in x 0 8 = true → z_V E l mX5_about (z_rm 8 0 0) 0 0 (z_q (fun v' G' I' sz' => ∃ y9, v' = some (.int y9) ∧ G' = G ∧ sz' = sz ∧ z_mP d (e_about x) (v_about S.1 x.toNatClampNeg) S (S) I y9 I')) 0 0 G I sz 18 [some (.ref d), some (.int x), none, none, none, none, none] [.int 0, .ref d] := by
    intro f1
    refine v_cVI (pc' := 21) (c5_refused hl k0 _) dX5_about_18 lk_X5_99 mwX5_refused miX5_refused k0 rfl rfl rfl rfl (by decide) (Nat.le_of_ble_eq_true rfl) rfl ?_
    rintro _ I1 ⟨rfl, hI1⟩
    have r1 : I1 d 0 = 0 := by rw [hI1, z_up_row, z_row_at, pk_us]
    have hM1 : AbsM I1 d S := by rw [hI1]; exact hM.fld 0 _ (by omega)
    have hF1 : FrM I I1 d := by rw [hI1]; exact FrM.up (by omega)
    obtain ⟨⟨bn, bl, bc⟩, ⟨bN, bW⟩, ⟨bA, b14, bR⟩, bF, bS⟩ := id hM1
    have bW2 : WF (I1 (d + 2)) := by rw [bN]; exact bW
    have hkz : e_about x = 0 := by simp [e_about, *]
    refine v_if_eq (tgt := 26) (pc' := 24) dX5_about_21 (by decide) rfl (fun c_21 => ?_) (fun c_21 => ?_)
    · obtain ⟨q, q1, q2, rfl⟩ := z_in_nI (lo := 0) (hi := 8) (by omega) (by omega) f1
      rw [nI_clamp (show q < 2 ^ 31 by omega)] at *
      refine v_iconst (pc' := 27) dX5_about_26 kc_0 rfl ?_
      refine v_istore_n2 (pc' := 28) dX5_about_27 (by decide) rfl rfl ?_
      refine v_iconst (pc' := 29) dX5_about_28 kc_0 rfl ?_
      refine v_istore_n3 (pc' := 30) dX5_about_29 (by decide) rfl rfl ?_
      refine v_iconst (pc' := 31) dX5_about_30 kc_0 rfl ?_
      refine v_istore4 (pc' := 33) dX5_about_31 (by decide) rfl rfl ?_
      refine v_iconst (pc' := 34) dX5_about_33 kc_0 rfl ?_
      refine v_istore5 (pc' := 36) dX5_about_34 (by decide) rfl rfl ?_
      exact m_aboutL hl hK q q2 I1 r1 hM1 hF1 hkz 12 0 0 0 0 none rfl rfl rfl rfl rfl
    · exact absurd (by decide) c_21
  refine z_Ct.of hl pn_X5 [some (.ref d), some (.int x), none, none, none, none, none] rfl (Nat.le_of_ble_eq_true rfl) ?_
  refine v_aload_n (pc' := 1) dX5_about_0 rfl rfl ?_
  refine v_iload_n (pc' := 2) dX5_about_1 rfl rfl ?_
  refine v_i2l (pc' := 3) dX5_about_2 rfl ?_
  refine v_lconst (pc' := 4) dX5_about_3 kl_0 rfl ?_
  refine v_ldc2 (pc' := 7) dX5_about_4 cn_X5_155 rfl ?_
  refine v_cSR (pc' := 10) (c5_in32 hl (x) 0 8 rfl rfl rfl) dX5_about_7 lk_X5_37 mwX5_in msX5_in rfl rfl (by decide) (Nat.le_of_ble_eq_true rfl) rfl ?_
  refine v_if_eq (tgt := 17) (pc' := 13) dX5_about_10 (by decide) rfl (fun c_10 => ?_) (fun c_10 => ?_)
  · first | rw [z_b_ne0] at c_10 | rw [z_b_eq0] at c_10
    refine v_iconst (pc' := 18) dX5_about_17 kc_1 rfl ?_
    first
      | exact main c_10
      | exact tail 1 (by simp [e_about, *]) (by omega) (by omega)
      | exact tail 2 (by simp [e_about, *]) (by omega) (by omega)
  · first | rw [z_b_ne0] at c_10 | rw [z_b_eq0] at c_10
    refine v_iconst (pc' := 14) dX5_about_13 kc_0 rfl ?_
    refine v_goto (tgt := 18) dX5_about_14 (by decide) ?_
    first
      | exact main c_10
      | exact tail 1 (by simp [e_about, *]) (by omega) (by omega)
      | exact tail 2 (by simp [e_about, *]) (by omega) (by omega)
end MOD3
