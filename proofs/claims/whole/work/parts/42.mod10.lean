/-! THE REFERENCE's readText, errorPosition, load (written by wip/whole/gen_mod10.py) -/
section MOD10
variable {E : zE} {l : Launch} {G : zG} {I : zI} {sz d n : Nat} {S : zS} {T : Nat → Nat}
theorem m_readCommand (hl : l.stackTraces = false) (k0 : (d, sMd d) ∈ G) (kT : (d + 1, sI E 0 120) ∈ G) (kR : (d + 3, sI E 0 65) ∈ G) (hT : MT I d T n) (hR : WF (I (d + 3))) (k o : Nat) (hk : k < n) (hsp : I d 9 = nI k) (ho : I d 10 = nI o) : z_CI E l mX5_readCommand 5 [.ref d, .ref (d + 3)] G I sz (rc_P I d T n k o) := by
  by_cases c1 : T k = 116
  · exact m_rc_t hl k0 kT kR hT hR k o hk hsp ho c1
  by_cases c2 : T k = 108
  · exact m_rc_l hl k0 kT kR hT hR k o hk hsp ho c2
  by_cases c3 : T k = 98
  · exact m_rc_b hl k0 kT kR hT hR k o hk hsp ho c3
  by_cases c4 : T k = 103
  · exact m_rc_g hl k0 kT kR hT hR k o hk hsp ho c4
  by_cases c5 : T k = 115
  · exact m_rc_s hl k0 kT kR hT hR k o hk hsp ho c5
  by_cases c6 : T k = 119
  · exact m_rc_w hl k0 kT kR hT hR k o hk hsp ho c6
  · exact m_rc_x hl k0 kT kR hT hR k o hk hsp ho ⟨c1, c2, c3, c4, c5, c6⟩
theorem WF_rd {T : Nat → Nat} {n : Nat} : ∀ (f k : Nat) (r : zR) (o : Nat), WF r → WF (p_rd T n f k r o).1
  | 0, _, _, _, h => h
  | f + 1, k, r, o, h => by
    rw [p_rd]
    split
    · split
      · rename_i w hw
        exact WF_rd f _ _ _ (WF_obey h (p_cmd_rng hw).2.1)
      · exact h
    · exact h
/-- only the reader's numbers and the trial have changed -/
def FrR (I I' : zI) (d : Nat) : Prop := (∀ q, q ≠ d → q ≠ d + 3 → I' q = I q) ∧ ∀ w, w ≠ 9 → w ≠ 10 → I' d w = I d w
theorem FrR.tr {I I' I'' : zI} {d : Nat} (h : FrR I I' d) (h' : FrR I' I'' d) : FrR I I'' d := ⟨fun q a b => (h'.1 q a b).trans (h.1 q a b), fun w a b => (h'.2 w a b).trans (h.2 w a b)⟩
theorem FrR.up {I : zI} {d k : Nat} {x : Int32} (hk : k = 9 ∨ k = 10) : FrR I (z_up I d k x) d := ⟨fun q a _ => z_up_ne _ _ _ _ a, fun w a b => by rw [z_up_row, z_row_at, pk_un (by omega)]⟩
theorem FrR.row {I : zI} {d : Nat} {ρ : zR} : FrR I (z_row I (d + 3) ρ) d := ⟨fun q _ b => z_row_ne _ _ _ b, fun w _ _ => by rw [z_row_ne _ _ _ (by omega)]⟩
theorem MT.fr {I I' : zI} {d n : Nat} {T : Nat → Nat} (h : MT I d T n) (hf : FrR I I' d) : MT I' d T n := h.cg (hf.2 2 (by omega) (by omega)) (hf.1 _ (by omega) (by omega))
set_option maxRecDepth 20000 in
set_option maxHeartbeats 4000000 in
theorem m_rtL (hl : l.stackTraces = false) (k0 : (d, sMd d) ∈ G) (kT : (d + 1, sI E 0 120) ∈ G) (kR : (d + 3, sI E 0 65) ∈ G) (hT : MT I d T n) : ∀ (f k : Nat) (r9 : zR) (o : Nat) (I1 : zI), 121 ≤ k + f → I1 (d + 3) = r9 → WF r9 → I1 d 9 = nI k → I1 d 10 = nI o → FrR I I1 d → k ≤ n → p_err T n f k = p_ep T n → p_rd T n f k r9 o = p_rd T n 120 1 p_new 0 → z_V E l mX5_readText (z_rm 6 0 0) 0 0 (z_q (fun v' G' I' sz' => ∃ y9, v' = some (.int y9) ∧ G' = G ∧ sz' = sz ∧ (y9 = rv (p_ep T n) ∧ (p_ep T n = none → I' (d + 3) = (p_rd T n 120 1 p_new 0).1 ∧ I' d 10 = nI (p_rd T n 120 1 p_new 0).2) ∧ FrR I I' d))) 0 0 G I1 sz 39 [some (.ref d), some (.ref (d + 3))] [] := by
  obtain ⟨tn, tl, tc⟩ := id hT
  intro f
  induction f with
  | zero =>
    intro k r9 o I1 hkf hr hW hsp ho hF hkn hp hq
    have b1 : I1 d 2 = nI n := (hF.2 2 (by omega) (by omega)).trans tl
    refine v_aload_n (pc' := 40) dX5_readText_39 rfl rfl ?_
    refine g_X5_102 (pc' := 43) rfl dX5_readText_40 (by assumption) rfl ?_
    rw [hsp]
    refine v_aload_n (pc' := 44) dX5_readText_43 rfl rfl ?_
    refine g_X5_96 (pc' := 47) rfl dX5_readText_44 (by assumption) rfl ?_
    rw [b1]
    refine v_icmp_ge (tgt := 63) (pc' := 50) dX5_readText_47 (by decide) rfl (fun c_47 => ?_) (fun c_47 => ?_)
    · refine v_iconst (pc' := 64) dX5_readText_63 kc_m1 rfl ?_
      exact v_iret dX5_readText_64 rfl (Nat.le_refl _) (Nat.le_refl _) ⟨_, rfl, rfl, rfl, by rw [← hp, p_err]; rfl, fun _ => by rw [← hq, p_rd]; exact ⟨hr, ho⟩, hF⟩
    · exact absurd (nI_le (by omega) (by omega)) c_47
  | succ f ih =>
    intro k r9 o I1 hkf hr hW hsp ho hF hkn hp hq
    have b1 : I1 d 2 = nI n := (hF.2 2 (by omega) (by omega)).trans tl
    by_cases hk : k < n
    · cases hc : (p_cmd T n k).1 with
      | some w =>
        refine v_aload_n (pc' := 40) dX5_readText_39 rfl rfl ?_
        refine g_X5_102 (pc' := 43) rfl dX5_readText_40 (by assumption) rfl ?_
        rw [hsp]
        refine v_aload_n (pc' := 44) dX5_readText_43 rfl rfl ?_
        refine g_X5_96 (pc' := 47) rfl dX5_readText_44 (by assumption) rfl ?_
        rw [b1]
        refine v_icmp_ge (tgt := 63) (pc' := 50) dX5_readText_47 (by decide) rfl (fun c_47 => ?_) (fun c_47 => ?_)
        · exact absurd c_47 (nI_ge hk (by omega))
        · refine v_aload_n (pc' := 51) dX5_readText_50 rfl rfl ?_
          refine v_aload_n (pc' := 52) dX5_readText_51 rfl rfl ?_
          refine v_cVI (pc' := 55) (m_readCommand hl k0 kT kR (hT.fr hF) (by rw [hr]; exact hW) k o hk hsp ho) dX5_readText_52 lk_X5_141 mwX5_readCommand miX5_readCommand k0 rfl rfl rfl rfl (by decide) (Nat.le_of_ble_eq_true rfl) rfl ?_
          rintro _ I2 ⟨rfl, hI2⟩
          rw [hc] at hI2 ⊢
          refine v_if_ne (tgt := 39) (pc' := 58) dX5_readText_55 (by decide) rfl (fun c_55 => ?_) (fun c_55 => ?_)
          · have hI3 : I2 = rc_m I1 d (T k) w (p_cmd T n k).2 o := hI2
            have hc' : (p_cmd T n k).1.isSome = true := by rw [hc]; rfl
            have hle := (p_cmd_le hk).2.2 hc'
            refine ih (p_cmd T n k).2 (p_obey r9 (T k) w.1 w.2) (if p_obeyb r9 (T k) w.1 w.2 then o else o + 1) I2 (by omega) ?_ (WF_obey hW (p_cmd_rng hc).2.1) ?_ ?_ (hF.tr ?_) (p_cmd_le hk).2.1 ?_ ?_
            · rw [hI3, rc_m, z_up_ne _ _ _ _ (by omega), z_row_at, hr]
            · rw [hI3, rc_m, z_up_row, z_row_at, pk_un (by omega), z_row_ne _ _ _ (by omega), z_up_row, z_row_at, pk_us]
            · rw [hI3, rc_m, z_up_row, z_row_at, pk_us, hr]
            · rw [hI3, rc_m]; exact ((FrR.up (by omega)).tr FrR.row).tr (FrR.up (by omega))
            · rw [← hp, p_err, if_pos hk, if_pos hc']
            · rw [← hq, p_rd, if_pos hk]
              simp only [hc]
          · exact absurd c_55 (show ¬ z_b true = 0 by decide)
      | none =>
        have hc' : ¬ (p_cmd T n k).1.isSome = true := by rw [hc]; decide
        refine v_aload_n (pc' := 40) dX5_readText_39 rfl rfl ?_
        refine g_X5_102 (pc' := 43) rfl dX5_readText_40 (by assumption) rfl ?_
        rw [hsp]
        refine v_aload_n (pc' := 44) dX5_readText_43 rfl rfl ?_
        refine g_X5_96 (pc' := 47) rfl dX5_readText_44 (by assumption) rfl ?_
        rw [b1]
        refine v_icmp_ge (tgt := 63) (pc' := 50) dX5_readText_47 (by decide) rfl (fun c_47 => ?_) (fun c_47 => ?_)
        · exact absurd c_47 (nI_ge hk (by omega))
        · refine v_aload_n (pc' := 51) dX5_readText_50 rfl rfl ?_
          refine v_aload_n (pc' := 52) dX5_readText_51 rfl rfl ?_
          refine v_cVI (pc' := 55) (m_readCommand hl k0 kT kR (hT.fr hF) (by rw [hr]; exact hW) k o hk hsp ho) dX5_readText_52 lk_X5_141 mwX5_readCommand miX5_readCommand k0 rfl rfl rfl rfl (by decide) (Nat.le_of_ble_eq_true rfl) rfl ?_
          rintro _ I2 ⟨rfl, hI2⟩
          rw [hc] at hI2 ⊢
          have hI3 : I2 = z_up I1 d 9 (nI (p_cmd T n k).2) := hI2
          refine v_if_ne (tgt := 39) (pc' := 58) dX5_readText_55 (by decide) rfl (fun c_55 => ?_) (fun c_55 => ?_)
          · exact absurd rfl c_55
          · refine v_aload_n (pc' := 59) dX5_readText_58 rfl rfl ?_
            refine g_X5_102 (pc' := 62) rfl dX5_readText_59 (by assumption) rfl ?_
            rw [hI3, show z_up I1 d 9 (nI (p_cmd T n k).2) d 9 = nI (p_cmd T n k).2 by rw [z_up_row, z_row_at, pk_us]]
            exact v_iret dX5_readText_62 rfl (Nat.le_refl _) (Nat.le_refl _) ⟨_, rfl, rfl, rfl, by rw [← hp, p_err, if_pos hk, if_neg hc']; rfl, fun q9 => (by rw [← hp, p_err, if_pos hk, if_neg hc'] at q9; cases q9), hF.tr (FrR.up (by omega))⟩
    · refine v_aload_n (pc' := 40) dX5_readText_39 rfl rfl ?_
      refine g_X5_102 (pc' := 43) rfl dX5_readText_40 (by assumption) rfl ?_
      rw [hsp]
      refine v_aload_n (pc' := 44) dX5_readText_43 rfl rfl ?_
      refine g_X5_96 (pc' := 47) rfl dX5_readText_44 (by assumption) rfl ?_
      rw [b1]
      refine v_icmp_ge (tgt := 63) (pc' := 50) dX5_readText_47 (by decide) rfl (fun c_47 => ?_) (fun c_47 => ?_)
      · refine v_iconst (pc' := 64) dX5_readText_63 kc_m1 rfl ?_
        exact v_iret dX5_readText_64 rfl (Nat.le_refl _) (Nat.le_refl _) ⟨_, rfl, rfl, rfl, by rw [← hp, p_err, if_neg hk]; rfl, fun _ => by rw [← hq, p_rd, if_neg hk]; exact ⟨hr, ho⟩, hF⟩
      · exact absurd (nI_le (by omega) (by omega)) c_47

set_option maxRecDepth 20000 in
set_option maxHeartbeats 4000000 in
theorem m_readText (hl : l.stackTraces = false) (k0 : (d, sMd d) ∈ G) (kT : (d + 1, sI E 0 120) ∈ G) (kR : (d + 3, sI E 0 65) ∈ G) (hT : MT I d T n) : z_CI E l mX5_readText 6 [.ref d, .ref (d + 3)] G I sz (fun y9 I' => (y9 = rv (p_ep T n) ∧ (p_ep T n = none → I' (d + 3) = (p_rd T n 120 1 p_new 0).1 ∧ I' d 10 = nI (p_rd T n 120 1 p_new 0).2) ∧ FrR I I' d)) := by
  obtain ⟨tn, tl, tc⟩ := id hT
  have hF0 : FrR I (z_up (z_up (z_row I (d + 3) p_new) d 10 0) d 9 0) d := (FrR.row.tr (FrR.up (by omega))).tr (FrR.up (by omega))
  refine z_Ct.of hl pn_X5 [some (.ref d), some (.ref (d + 3))] rfl (Nat.le_of_ble_eq_true rfl) ?_
  refine v_aload_n (pc' := 1) dX5_readText_0 rfl rfl ?_
  refine v_cSV (pc' := 4) (c5_clear hl kR) dX5_readText_1 lk_X5_29 mwX5_clear msX5_clear rfl rfl (by decide) (Nat.le_of_ble_eq_true rfl) rfl ?_
  rintro _ rfl
  refine v_aload_n (pc' := 5) dX5_readText_4 rfl rfl ?_
  refine v_iconst (pc' := 6) dX5_readText_5 kc_0 rfl ?_
  refine p_X5_105 (pc' := 9) rfl dX5_readText_6 (by assumption) rfl ?_
  refine v_aload_n (pc' := 10) dX5_readText_9 rfl rfl ?_
  refine v_iconst (pc' := 11) dX5_readText_10 kc_0 rfl ?_
  refine p_X5_102 (pc' := 14) rfl dX5_readText_11 (by assumption) rfl ?_
  refine v_aload_n (pc' := 15) dX5_readText_14 rfl rfl ?_
  refine g_X5_96 (pc' := 18) rfl dX5_readText_15 (by assumption) rfl ?_
  rw [(hF0.2 2 (by omega) (by omega)).trans tl]
  refine v_if_eq (tgt := 32) (pc' := 21) dX5_readText_18 (by decide) rfl (fun c_18 => ?_) (fun c_18 => ?_)
  · rw [nI_is0 (by omega)] at c_18
    have hw : p_wrong T n = true := by simp [p_wrong, c_18]
    refine v_iconst (pc' := 33) dX5_readText_32 kc_0 rfl ?_
    exact v_iret dX5_readText_33 rfl (Nat.le_refl _) (Nat.le_refl _) ⟨_, rfl, rfl, rfl, by rw [p_ep, hw]; rfl, fun q9 => (by rw [p_ep, hw] at q9; cases q9), hF0⟩
  · rw [nI_is0 (by omega)] at c_18
    refine v_aload_n (pc' := 22) dX5_readText_21 rfl rfl ?_
    refine g_X5_7 (pc' := 25) rfl dX5_readText_22 (by assumption) rfl ?_
    refine v_iconst (pc' := 26) dX5_readText_25 kc_0 rfl ?_
    refine v_iald (pc' := 27) dX5_readText_26 (0) rfl kT (by decide) (by decide) rfl ?_
    rw [hF0.1 (d + 1) (by omega) (by omega), (tc 0 (by omega)).2]
    refine v_bipush (pc' := 29) dX5_readText_27 kb_65 rfl ?_
    refine v_icmp_eq (tgt := 34) (pc' := 32) dX5_readText_29 (by decide) rfl (fun c_29 => ?_) (fun c_29 => ?_)
    · have h65 : T 0 = 65 := (nI_eq (b := 65) (by have := (tc 0 (by omega)).1; omega) (by omega)).mp c_29
      have hw : p_wrong T n = false := by simp [p_wrong, c_18, h65]
      refine v_aload_n (pc' := 35) dX5_readText_34 rfl rfl ?_
      refine v_iconst (pc' := 36) dX5_readText_35 kc_1 rfl ?_
      refine p_X5_102 (pc' := 39) rfl dX5_readText_36 (by assumption) rfl ?_
      exact m_rtL hl k0 kT kR hT 120 1 p_new 0 _ (by omega) (by rw [z_up_ne _ _ _ _ (by omega), z_up_ne _ _ _ _ (by omega), z_up_ne _ _ _ _ (by omega), z_row_at]) WF_new (by rw [z_up_row, z_row_at, pk_us]; rfl) (by rw [z_up_row, z_row_at, pk_un (by omega), z_up_row, z_row_at, pk_un (by omega), z_up_row, z_row_at, pk_us]; rfl) (hF0.tr (FrR.up (by omega))) (by omega) (by rw [p_ep, hw]; rfl) rfl
    · have h65 : ¬ T 0 = 65 := fun q => c_29 (by rw [q]; rfl)
      have hw : p_wrong T n = true := by simp [p_wrong, h65]
      refine v_iconst (pc' := 33) dX5_readText_32 kc_0 rfl ?_
      exact v_iret dX5_readText_33 rfl (Nat.le_refl _) (Nat.le_refl _) ⟨_, rfl, rfl, rfl, by rw [p_ep, hw]; rfl, fun q9 => (by rw [p_ep, hw] at q9; cases q9), hF0⟩
theorem AbsM.rd {I I' : zI} {d : Nat} {S : zS} (h : AbsM I d S) (hf : FrR I I' d) : AbsM I' d S := h.cg (hf.2 2 (by omega) (by omega)) (hf.2 6 (by omega) (by omega)) (fun q a b c => hf.1 q (by omega) c)
theorem FrR.m {I I' : zI} {d : Nat} (hf : FrR I I' d) : FrM I I' d := fun q hq => hf.1 q (by omega) (by omega)
set_option maxRecDepth 20000 in
set_option maxHeartbeats 4000000 in
theorem m_errorPosition (hl : l.stackTraces = false) (hK : ShM E G d) (hM : AbsM I d S) : z_CM E l mX5_errorPosition [.ref d] G I sz d 0 (rv (p_ep S.2.2.1.1 S.2.2.1.2)) S S := by
  obtain ⟨k0, kT, kN, kR, kD, kP, kF⟩ := id hK
  have h0 := hM.fld 0 0 (by omega)
  refine z_Ct.of hl pn_X5 [some (.ref d)] rfl (Nat.le_of_ble_eq_true rfl) ?_
  refine v_aload_n (pc' := 1) dX5_errorPosition_0 rfl rfl ?_
  refine v_iconst (pc' := 2) dX5_errorPosition_1 kc_0 rfl ?_
  refine p_X5_33 (pc' := 5) rfl dX5_errorPosition_2 (by assumption) rfl ?_
  refine v_aload_n (pc' := 6) dX5_errorPosition_5 rfl rfl ?_
  refine v_aload_n (pc' := 7) dX5_errorPosition_6 rfl rfl ?_
  refine g_X5_16 (pc' := 10) rfl dX5_errorPosition_7 (by assumption) rfl ?_
  refine v_cVI (pc' := 13) (m_readText hl k0 kT kR h0.1) dX5_errorPosition_10 lk_X5_144 mwX5_readText miX5_readText k0 rfl rfl rfl rfl (by decide) (Nat.le_of_ble_eq_true rfl) rfl ?_
  rintro _ I2 ⟨rfl, -, hF⟩
  exact v_iret dX5_errorPosition_13 rfl (Nat.le_refl _) (Nat.le_refl _) ⟨_, rfl, rfl, rfl, by rw [hF.2 0 (by omega) (by omega), z_up_row, z_row_at, pk_us]; rfl, fun _ => rfl, h0.rd hF, (FrM.up (by omega)).tr hF.m⟩
set_option maxRecDepth 20000 in
set_option maxHeartbeats 4000000 in
theorem m_load (hl : l.stackTraces = false) (hK : ShM E G d) (hM : AbsM I d S) : z_CM E l mX5_load [.ref d] G I sz d (e_load S) (v_load S) S (s_load S) := by
  obtain ⟨k0, kT, kN, kR, kD, kP, kF⟩ := id hK
  refine z_Ct.of hl pn_X5 [some (.ref d)] rfl (Nat.le_of_ble_eq_true rfl) ?_
  cases he : p_ep S.2.2.1.1 S.2.2.1.2 with
  | none =>
    refine v_aload_n (pc' := 1) dX5_load_0 rfl rfl ?_
    refine v_aload_n (pc' := 2) dX5_load_1 rfl rfl ?_
    refine v_aload_n (pc' := 3) dX5_load_2 rfl rfl ?_
    refine g_X5_16 (pc' := 6) rfl dX5_load_3 (by assumption) rfl ?_
    refine v_cVI (pc' := 9) (m_readText hl k0 kT kR hM.1) dX5_load_6 lk_X5_144 mwX5_readText miX5_readText k0 rfl rfl rfl rfl (by decide) (Nat.le_of_ble_eq_true rfl) rfl ?_
    rintro _ I2 ⟨rfl, hR2, hF2⟩
    rw [he]
    refine v_iconst (pc' := 10) dX5_load_9 kc_m1 rfl ?_
    refine v_icmp_ne (tgt := 17) (pc' := 13) dX5_load_10 (by decide) rfl (fun c_10 => ?_) (fun c_10 => ?_)
    · exact absurd rfl c_10
    · refine v_iconst (pc' := 14) dX5_load_13 kc_0 rfl ?_
      refine v_goto (tgt := 18) dX5_load_14 (by decide) ?_
      refine v_cVI (pc' := 21) (c5_refused hl k0 0) dX5_load_18 lk_X5_99 mwX5_refused miX5_refused k0 rfl rfl rfl rfl (by decide) (Nat.le_of_ble_eq_true rfl) rfl ?_
      rintro _ I3 ⟨rfl, hI3⟩
      obtain ⟨hR3, hO3⟩ := hR2 he
      have hM3 : AbsM I3 d S := by rw [hI3]; exact (hM.rd hF2).fld 0 0 (by omega)
      have r3 : I3 d 0 = 0 := by rw [hI3, z_up_row, z_row_at, pk_us]
      have hT3 : I3 (d + 3) = (p_rd S.2.2.1.1 S.2.2.1.2 120 1 p_new 0).1 := by rw [hI3, z_up_ne _ _ _ _ (by omega)]; exact hR3
      have hO4 : I3 d 10 = nI (p_rd S.2.2.1.1 S.2.2.1.2 120 1 p_new 0).2 := by rw [hI3, z_up_row, z_row_at, pk_un (by omega)]; exact hO3
      have hF3 : FrM I I3 d := by rw [hI3]; exact hF2.m.tr (FrM.up (by omega))
      have hke : e_load S = 0 := by rw [e_load, if_pos he]
      refine v_if_eq (tgt := 26) (pc' := 24) dX5_load_21 (by decide) rfl (fun c_21 => ?_) (fun c_21 => ?_)
      · refine v_aload_n (pc' := 27) dX5_load_26 rfl rfl ?_
        refine g_X5_16 (pc' := 30) rfl dX5_load_27 (by assumption) rfl ?_
        refine v_iconst (pc' := 31) dX5_load_30 kc_0 rfl ?_
        refine v_aload_n (pc' := 32) dX5_load_31 rfl rfl ?_
        refine g_X5_13 (pc' := 35) rfl dX5_load_32 (by assumption) rfl ?_
        refine v_iconst (pc' := 36) dX5_load_35 kc_0 rfl ?_
        refine v_cSV (pc' := 39) (c5_copyTo hl kR kN (by omega) 0 0 (by omega) (by omega) (by omega) (by omega) rfl rfl) dX5_load_36 lk_X5_148 mwX5_copyState msX5_copyState rfl rfl (by decide) (Nat.le_of_ble_eq_true rfl) rfl ?_
        rintro _ rfl
        refine v_ext (I' := z_row I3 (d + 2) (p_rd S.2.2.1.1 S.2.2.1.2 120 1 p_new 0).1) kN (fun q9 h9 => by rw [z_row_ne _ _ _ h9, z_row_ne _ _ _ h9]) (fun j9 h9 => by rw [z_row_at, z_row_at, cpy_in (by omega) (by omega), hT3]; exact congrArg _ (by omega)) ?_
        refine v_aload_n (pc' := 40) dX5_load_39 rfl rfl ?_
        refine v_iconst (pc' := 41) dX5_load_40 kc_0 rfl ?_
        refine p_X5_152 (pc' := 44) rfl dX5_load_41 (by assumption) rfl ?_
        refine v_aload_n (pc' := 45) dX5_load_44 rfl rfl ?_
        refine g_X5_25 (pc' := 48) rfl dX5_load_45 (by assumption) rfl ?_
        refine v_iconst (pc' := 49) dX5_load_48 kc_0 rfl ?_
        refine v_iconst (pc' := 50) dX5_load_49 kc_0 rfl ?_
        refine v_zast (pc' := 51) dX5_load_50 (0) rfl kF (by decide) (by decide) rfl rfl ?_
        refine v_aload_n (pc' := 52) dX5_load_51 rfl rfl ?_
        refine g_X5_25 (pc' := 55) rfl dX5_load_52 (by assumption) rfl ?_
        refine v_iconst (pc' := 56) dX5_load_55 kc_1 rfl ?_
        refine v_iconst (pc' := 57) dX5_load_56 kc_0 rfl ?_
        refine v_zast (pc' := 58) dX5_load_57 (1) rfl kF (by decide) (by decide) rfl rfl ?_
        refine v_aload_n (pc' := 59) dX5_load_58 rfl rfl ?_
        refine g_X5_105 (pc' := 62) rfl dX5_load_59 (by assumption) rfl ?_
        exact v_iret dX5_load_62 rfl (Nat.le_refl _) (Nat.le_refl _) ⟨_, rfl, rfl, rfl, by rw [hke, z_up_ne _ _ _ _ (by omega), z_up_ne _ _ _ _ (by omega), z_up_row, z_row_at, pk_un (by omega), z_row_ne _ _ _ (by omega)]; exact r3, fun _ => by rw [z_up_ne _ _ _ _ (by omega), z_up_ne _ _ _ _ (by omega), z_up_row, z_row_at, pk_un (by omega), z_row_ne _ _ _ (by omega)]; exact hO4, by
          rw [hke, if_pos rfl, s_load]
          refine ⟨hM3.1.cg (by rw [z_up_ne _ _ _ _ (by omega), z_up_ne _ _ _ _ (by omega), z_up_row, z_row_at, pk_un (by omega), z_row_ne _ _ _ (by omega)]) (by rw [z_up_ne _ _ _ _ (by omega), z_up_ne _ _ _ _ (by omega), z_up_ne _ _ _ _ (by omega), z_row_ne _ _ _ (by omega)]), ⟨by rw [z_up_ne _ _ _ _ (by omega), z_up_ne _ _ _ _ (by omega), z_up_ne _ _ _ _ (by omega), z_row_at], WF_rd _ _ _ _ WF_new⟩, ⟨by rw [z_up_ne _ _ _ _ (by omega), z_up_ne _ _ _ _ (by omega), z_up_row, z_row_at, pk_us]; rfl, Nat.zero_le _, fun i hi => absurd hi (Nat.not_lt_zero i)⟩, fun j hj => ?_, fun j hj hf => by cases hf⟩
          rw [z_up_row, z_row_at, z_up_row, z_row_at]
          rcases (by omega : j = 0 ∨ j = 1) with rfl | rfl
          · rw [pk_un (by omega), pk_us]; rfl
          · rw [pk_us]; rfl, hF3.tr (((FrM.row (by omega)).tr (FrM.up (by omega))).tr ((FrM.up (by omega)).tr (FrM.up (by omega))))⟩
      · exact absurd (by decide) c_21
  | some v =>
    refine v_aload_n (pc' := 1) dX5_load_0 rfl rfl ?_
    refine v_aload_n (pc' := 2) dX5_load_1 rfl rfl ?_
    refine v_aload_n (pc' := 3) dX5_load_2 rfl rfl ?_
    refine g_X5_16 (pc' := 6) rfl dX5_load_3 (by assumption) rfl ?_
    refine v_cVI (pc' := 9) (m_readText hl k0 kT kR hM.1) dX5_load_6 lk_X5_144 mwX5_readText miX5_readText k0 rfl rfl rfl rfl (by decide) (Nat.le_of_ble_eq_true rfl) rfl ?_
    rintro _ I2 ⟨rfl, hR2, hF2⟩
    rw [he]
    refine v_iconst (pc' := 10) dX5_load_9 kc_m1 rfl ?_
    refine v_icmp_ne (tgt := 17) (pc' := 13) dX5_load_10 (by decide) rfl (fun c_10 => ?_) (fun c_10 => ?_)
    · refine v_iconst (pc' := 18) dX5_load_17 kc_1 rfl ?_
      refine v_cVI (pc' := 21) (c5_refused hl k0 1) dX5_load_18 lk_X5_99 mwX5_refused miX5_refused k0 rfl rfl rfl rfl (by decide) (Nat.le_of_ble_eq_true rfl) rfl ?_
      rintro _ I3 ⟨rfl, hI3⟩
      have hke : e_load S = 1 := by rw [e_load, if_neg (by rw [he]; intro q; cases q)]
      refine v_if_eq (tgt := 26) (pc' := 24) dX5_load_21 (by decide) rfl (fun c_21 => ?_) (fun c_21 => ?_)
      · exact absurd c_21 (by decide)
      · refine v_iconst (pc' := 25) dX5_load_24 kc_0 rfl ?_
        exact v_iret dX5_load_25 rfl (Nat.le_refl _) (Nat.le_refl _) ⟨_, rfl, rfl, rfl, by rw [hke, hI3, z_up_row, z_row_at, pk_us]; rfl, fun q => (by rw [hke] at q; cases q), by rw [hke, if_neg (by decide), hI3]; exact (hM.rd hF2).fld 0 1 (by omega), by rw [hI3]; exact hF2.m.tr (FrM.up (by omega))⟩
    · exact absurd c_10 (nI_m1 (by have := p_ep_lt he; have := hM.1.1; omega))

end MOD10
