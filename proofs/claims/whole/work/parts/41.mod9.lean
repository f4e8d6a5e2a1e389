/-! THE REFERENCE's readCommand (written by wip/whole/gen_mod9.py) -/
def rc_m (I : zI) (d : Nat) (L : Nat) (w : Nat × Nat) (k o : Nat) : zI := z_up (z_row (z_up I d 9 (nI k)) (d + 3) (p_obey (I (d + 3)) L w.1 w.2)) d 10 (nI (if p_obeyb (I (d + 3)) L w.1 w.2 then o else o + 1))
def rc_P (I : zI) (d : Nat) (T : Nat → Nat) (n k o : Nat) (y : Int32) (I' : zI) : Prop := y = z_b (p_cmd T n k).1.isSome ∧ I' = match (p_cmd T n k).1 with
  | some w => rc_m I d (T k) w (p_cmd T n k).2 o
  | none => z_up I d 9 (nI (p_cmd T n k).2)
theorem rc_some {I : zI} {d : Nat} {T : Nat → Nat} {n k o : Nat} {y : Int32} {I' : zI} {w : Nat × Nat} {k' : Nat} (h : p_cmd T n k = (some w, k')) (hy : y = 1) (hI : I' = rc_m I d (T k) w k' o) : rc_P I d T n k o y I' := by
  unfold rc_P
  rw [h]
  exact ⟨hy, hI⟩
theorem rc_none {I : zI} {d : Nat} {T : Nat → Nat} {n k o : Nat} {y : Int32} {I' : zI} {k' : Nat} (h : p_cmd T n k = (none, k')) (hy : y = 0) (hI : I' = z_up I d 9 (nI k')) : rc_P I d T n k o y I' := by
  unfold rc_P
  rw [h]
  exact ⟨hy, hI⟩
section MOD9
variable {E : zE} {l : Launch} {G : zG} {I : zI} {sz d n : Nat} {S : zS} {T : Nat → Nat}
set_option maxRecDepth 20000 in
set_option maxHeartbeats 4000000 in
theorem m_rc_t (hl : l.stackTraces = false) (k0 : (d, sMd d) ∈ G) (kT : (d + 1, sI E 0 120) ∈ G) (kR : (d + 3, sI E 0 65) ∈ G) (hT : MT I d T n) (hR : WF (I (d + 3))) (k o : Nat) (hk : k < n) (hsp : I d 9 = nI k) (ho : I d 10 = nI o) (hc : T k = 116) : z_CI E l mX5_readCommand 5 [.ref d, .ref (d + 3)] G I sz (rc_P I d T n k o) := by
  obtain ⟨tn, tl, tc⟩ := id hT
  obtain ⟨t1, t2⟩ := tc k hk
  have h6 := hR.1.1
  have ec : p_cmd T n k = p_two T n 1 6 1 0 996 3 (k + 1) := by
    unfold p_cmd
    repeat' first | rfl | omega | split
  rcases hr1 : p_rn T n 1 6 1 0 (k + 1) with ⟨_ | u, k1⟩
  · have hv : p_cmd T n k = (none, k1) := by rw [ec, p_two, hr1]
    refine z_Ct.of hl pn_X5 [some (.ref d), some (.ref (d + 3)), none, none, none] rfl (Nat.le_of_ble_eq_true rfl) ?_
    refine v_aload_n (pc' := 1) dX5_readCommand_0 rfl rfl ?_
    refine g_X5_7 (pc' := 4) rfl dX5_readCommand_1 (by assumption) rfl ?_
    refine v_aload_n (pc' := 5) dX5_readCommand_4 rfl rfl ?_
    refine g_X5_102 (pc' := 8) rfl dX5_readCommand_5 (by assumption) rfl ?_
    rw [hsp]
    refine v_iald (pc' := 9) dX5_readCommand_8 (k) rfl kT (by omega) (by decide) rfl ?_
    rw [t2]
    refine v_istore_n2 (pc' := 10) dX5_readCommand_9 (by decide) rfl rfl ?_
    refine v_aload_n (pc' := 11) dX5_readCommand_10 rfl rfl ?_
    refine v_dup (pc' := 12) dX5_readCommand_11 rfl rfl ?_
    refine g_X5_102 (pc' := 15) rfl dX5_readCommand_12 (by assumption) rfl ?_
    rw [hsp]
    refine v_iconst (pc' := 16) dX5_readCommand_15 kc_1 rfl ?_
    refine v_iadd (pc' := 17) dX5_readCommand_16 rfl ?_
    rw [nI_1]
    refine p_X5_102 (pc' := 20) rfl dX5_readCommand_17 (by assumption) rfl ?_
    generalize hI1 : z_up I d 9 (nI (k + 1)) = I1
    have hT1 : MT I1 d T n := by rw [← hI1]; exact hT.cg (by rw [z_up_row, z_row_at, pk_un (by omega)]) (z_up_ne _ _ _ _ (by omega))
    have sp1 : I1 d 9 = nI (k + 1) := by rw [← hI1, z_up_row, z_row_at, pk_us]
    have up1 : ∀ x, z_up I1 d 9 x = z_up I d 9 x := fun x => by rw [← hI1, z_up_up]
    have rr1 : ∀ x, z_up I d 9 x (d + 3) = I (d + 3) := fun x => z_up_ne _ _ _ _ (by omega)
    refine v_iload_n (pc' := 21) dX5_readCommand_20 rfl rfl ?_
    refine v_lookup (tgt := 80) (off := 59) dX5_readCommand_21 rfl (by rw [nI_toInt (by omega)]; simp only [Array.toList, Op.lookupswitch.offset]; repeat' first | omega | split) (by decide) ?_
    refine v_aload_n (pc' := 81) dX5_readCommand_80 rfl rfl ?_
    refine v_iconst (pc' := 82) dX5_readCommand_81 kc_0 rfl ?_
    refine v_iconst (pc' := 83) dX5_readCommand_82 kc_1 rfl ?_
    refine v_iconst (pc' := 84) dX5_readCommand_83 kc_1 rfl ?_
    refine v_bipush (pc' := 86) dX5_readCommand_84 kb_6 rfl ?_
    refine v_cVI (pc' := 89) (m_figures1 hl k0 kT hT1 0 (by decide) 1 6 (k + 1) (by omega) (by omega) (by omega) sp1 rfl rfl rfl) dX5_readCommand_86 lk_X5_108 mwX5_figures miX5_figures k0 rfl rfl rfl rfl (by decide) (Nat.le_of_ble_eq_true rfl) rfl ?_
    rintro _ _ ⟨rfl, rfl⟩
    rw [hr1]
    simp only [up1]
    refine v_istore_n3 (pc' := 90) dX5_readCommand_89 (by decide) rfl rfl ?_
    refine v_aload_n (pc' := 91) dX5_readCommand_90 rfl rfl ?_
    refine v_iload_n (pc' := 92) dX5_readCommand_91 rfl rfl ?_
    refine v_iconst (pc' := 93) dX5_readCommand_92 kc_3 rfl ?_
    refine v_iconst (pc' := 94) dX5_readCommand_93 kc_0 rfl ?_
    refine v_sipush (pc' := 97) dX5_readCommand_94 ks_996 rfl ?_
    refine v_cVI (pc' := 100) (m_figuresW3 hl k0 kT (hT.cg (by rw [z_up_row, z_row_at, pk_un (by omega)]) (z_up_ne _ _ _ _ (by omega))) _ _ rfl) dX5_readCommand_97 lk_X5_108 mwX5_figures miX5_figures k0 rfl rfl rfl rfl (by decide) (Nat.le_of_ble_eq_true rfl) rfl ?_
    rintro _ _ ⟨rfl, rfl⟩
    refine v_istore4 (pc' := 102) dX5_readCommand_100 (by decide) rfl rfl ?_
    refine v_iload (pc' := 104) dX5_readCommand_102 rfl rfl ?_
    refine v_iconst (pc' := 105) dX5_readCommand_104 kc_m1 rfl ?_
    refine v_icmp_eq (tgt := 142) (pc' := 108) dX5_readCommand_105 (by decide) rfl (fun c_105 => ?_) (fun c_105 => ?_)
    · refine v_iconst (pc' := 143) dX5_readCommand_142 kc_0 rfl ?_
      exact v_zret dX5_readCommand_143 rfl (Nat.le_refl _) (Nat.le_refl _) rfl ⟨_, rfl, rfl, rfl, rc_none hv rfl rfl⟩
    · exact absurd rfl c_105
  · have hk1 : k1 ≤ n := by have := (p_rn_le (T := T) (n := n) (lo := 1) (hi := 6) 1 0 (k + 1) (by omega)).2; rw [hr1] at this; exact this
    have hu := p_rn_rng (T := T) (n := n) (lo := 1) (hi := 6) (x := u) 0 0 (k + 1) (by rw [hr1])
    rcases hr2 : p_rn T n 0 996 3 0 k1 with ⟨_ | v, k2⟩
    · have hv : p_cmd T n k = (none, k2) := by rw [ec, p_two, hr1]; simp only [hr2]
      refine z_Ct.of hl pn_X5 [some (.ref d), some (.ref (d + 3)), none, none, none] rfl (Nat.le_of_ble_eq_true rfl) ?_
      refine v_aload_n (pc' := 1) dX5_readCommand_0 rfl rfl ?_
      refine g_X5_7 (pc' := 4) rfl dX5_readCommand_1 (by assumption) rfl ?_
      refine v_aload_n (pc' := 5) dX5_readCommand_4 rfl rfl ?_
      refine g_X5_102 (pc' := 8) rfl dX5_readCommand_5 (by assumption) rfl ?_
      rw [hsp]
      refine v_iald (pc' := 9) dX5_readCommand_8 (k) rfl kT (by omega) (by decide) rfl ?_
      rw [t2]
      refine v_istore_n2 (pc' := 10) dX5_readCommand_9 (by decide) rfl rfl ?_
      refine v_aload_n (pc' := 11) dX5_readCommand_10 rfl rfl ?_
      refine v_dup (pc' := 12) dX5_readCommand_11 rfl rfl ?_
      refine g_X5_102 (pc' := 15) rfl dX5_readCommand_12 (by assumption) rfl ?_
      rw [hsp]
      refine v_iconst (pc' := 16) dX5_readCommand_15 kc_1 rfl ?_
      refine v_iadd (pc' := 17) dX5_readCommand_16 rfl ?_
      rw [nI_1]
      refine p_X5_102 (pc' := 20) rfl dX5_readCommand_17 (by assumption) rfl ?_
      generalize hI1 : z_up I d 9 (nI (k + 1)) = I1
      have hT1 : MT I1 d T n := by rw [← hI1]; exact hT.cg (by rw [z_up_row, z_row_at, pk_un (by omega)]) (z_up_ne _ _ _ _ (by omega))
      have sp1 : I1 d 9 = nI (k + 1) := by rw [← hI1, z_up_row, z_row_at, pk_us]
      have up1 : ∀ x, z_up I1 d 9 x = z_up I d 9 x := fun x => by rw [← hI1, z_up_up]
      have rr1 : ∀ x, z_up I d 9 x (d + 3) = I (d + 3) := fun x => z_up_ne _ _ _ _ (by omega)
      refine v_iload_n (pc' := 21) dX5_readCommand_20 rfl rfl ?_
      refine v_lookup (tgt := 80) (off := 59) dX5_readCommand_21 rfl (by rw [nI_toInt (by omega)]; simp only [Array.toList, Op.lookupswitch.offset]; repeat' first | omega | split) (by decide) ?_
      refine v_aload_n (pc' := 81) dX5_readCommand_80 rfl rfl ?_
      refine v_iconst (pc' := 82) dX5_readCommand_81 kc_0 rfl ?_
      refine v_iconst (pc' := 83) dX5_readCommand_82 kc_1 rfl ?_
      refine v_iconst (pc' := 84) dX5_readCommand_83 kc_1 rfl ?_
      refine v_bipush (pc' := 86) dX5_readCommand_84 kb_6 rfl ?_
      refine v_cVI (pc' := 89) (m_figures1 hl k0 kT hT1 0 (by decide) 1 6 (k + 1) (by omega) (by omega) (by omega) sp1 rfl rfl rfl) dX5_readCommand_86 lk_X5_108 mwX5_figures miX5_figures k0 rfl rfl rfl rfl (by decide) (Nat.le_of_ble_eq_true rfl) rfl ?_
      rintro _ _ ⟨rfl, rfl⟩
      rw [hr1]
      simp only [up1]
      refine v_istore_n3 (pc' := 90) dX5_readCommand_89 (by decide) rfl rfl ?_
      refine v_aload_n (pc' := 91) dX5_readCommand_90 rfl rfl ?_
      refine v_iload_n (pc' := 92) dX5_readCommand_91 rfl rfl ?_
      refine v_iconst (pc' := 93) dX5_readCommand_92 kc_3 rfl ?_
      refine v_iconst (pc' := 94) dX5_readCommand_93 kc_0 rfl ?_
      refine v_sipush (pc' := 97) dX5_readCommand_94 ks_996 rfl ?_
      refine v_cVI (pc' := 100) (m_figures3 hl k0 kT (hT.cg (by rw [z_up_row, z_row_at, pk_un (by omega)]) (z_up_ne _ _ _ _ (by omega))) (nI u) (nI_m1 (by omega)) 0 996 k1 (by omega) (by omega) hk1 (by rw [z_up_row, z_row_at, pk_us]) rfl rfl rfl) dX5_readCommand_97 lk_X5_108 mwX5_figures miX5_figures k0 rfl rfl rfl rfl (by decide) (Nat.le_of_ble_eq_true rfl) rfl ?_
      rintro _ _ ⟨rfl, rfl⟩
      rw [hr2, z_up_up]
      refine v_istore4 (pc' := 102) dX5_readCommand_100 (by decide) rfl rfl ?_
      refine v_iload (pc' := 104) dX5_readCommand_102 rfl rfl ?_
      refine v_iconst (pc' := 105) dX5_readCommand_104 kc_m1 rfl ?_
      refine v_icmp_eq (tgt := 142) (pc' := 108) dX5_readCommand_105 (by decide) rfl (fun c_105 => ?_) (fun c_105 => ?_)
      · refine v_iconst (pc' := 143) dX5_readCommand_142 kc_0 rfl ?_
        exact v_zret dX5_readCommand_143 rfl (Nat.le_refl _) (Nat.le_refl _) rfl ⟨_, rfl, rfl, rfl, rc_none hv rfl rfl⟩
      · exact absurd rfl c_105
    · have hv : p_cmd T n k = (some (u, v), k2) := by rw [ec, p_two, hr1]; simp only [hr2]
      have hv2 := p_rn_rng (T := T) (n := n) (lo := 0) (hi := 996) (x := v) 2 0 k1 (by rw [hr2])
      refine z_Ct.of hl pn_X5 [some (.ref d), some (.ref (d + 3)), none, none, none] rfl (Nat.le_of_ble_eq_true rfl) ?_
      refine v_aload_n (pc' := 1) dX5_readCommand_0 rfl rfl ?_
      refine g_X5_7 (pc' := 4) rfl dX5_readCommand_1 (by assumption) rfl ?_
      refine v_aload_n (pc' := 5) dX5_readCommand_4 rfl rfl ?_
      refine g_X5_102 (pc' := 8) rfl dX5_readCommand_5 (by assumption) rfl ?_
      rw [hsp]
      refine v_iald (pc' := 9) dX5_readCommand_8 (k) rfl kT (by omega) (by decide) rfl ?_
      rw [t2]
      refine v_istore_n2 (pc' := 10) dX5_readCommand_9 (by decide) rfl rfl ?_
      refine v_aload_n (pc' := 11) dX5_readCommand_10 rfl rfl ?_
      refine v_dup (pc' := 12) dX5_readCommand_11 rfl rfl ?_
      refine g_X5_102 (pc' := 15) rfl dX5_readCommand_12 (by assumption) rfl ?_
      rw [hsp]
      refine v_iconst (pc' := 16) dX5_readCommand_15 kc_1 rfl ?_
      refine v_iadd (pc' := 17) dX5_readCommand_16 rfl ?_
      rw [nI_1]
      refine p_X5_102 (pc' := 20) rfl dX5_readCommand_17 (by assumption) rfl ?_
      generalize hI1 : z_up I d 9 (nI (k + 1)) = I1
      have hT1 : MT I1 d T n := by rw [← hI1]; exact hT.cg (by rw [z_up_row, z_row_at, pk_un (by omega)]) (z_up_ne _ _ _ _ (by omega))
      have sp1 : I1 d 9 = nI (k + 1) := by rw [← hI1, z_up_row, z_row_at, pk_us]
      have up1 : ∀ x, z_up I1 d 9 x = z_up I d 9 x := fun x => by rw [← hI1, z_up_up]
      have rr1 : ∀ x, z_up I d 9 x (d + 3) = I (d + 3) := fun x => z_up_ne _ _ _ _ (by omega)
      refine v_iload_n (pc' := 21) dX5_readCommand_20 rfl rfl ?_
      refine v_lookup (tgt := 80) (off := 59) dX5_readCommand_21 rfl (by rw [nI_toInt (by omega)]; simp only [Array.toList, Op.lookupswitch.offset]; repeat' first | omega | split) (by decide) ?_
      refine v_aload_n (pc' := 81) dX5_readCommand_80 rfl rfl ?_
      refine v_iconst (pc' := 82) dX5_readCommand_81 kc_0 rfl ?_
      refine v_iconst (pc' := 83) dX5_readCommand_82 kc_1 rfl ?_
      refine v_iconst (pc' := 84) dX5_readCommand_83 kc_1 rfl ?_
      refine v_bipush (pc' := 86) dX5_readCommand_84 kb_6 rfl ?_
      refine v_cVI (pc' := 89) (m_figures1 hl k0 kT hT1 0 (by decide) 1 6 (k + 1) (by omega) (by omega) (by omega) sp1 rfl rfl rfl) dX5_readCommand_86 lk_X5_108 mwX5_figures miX5_figures k0 rfl rfl rfl rfl (by decide) (Nat.le_of_ble_eq_true rfl) rfl ?_
      rintro _ _ ⟨rfl, rfl⟩
      rw [hr1]
      simp only [up1]
      show z_V _ _ _ _ _ _ _ _ _ _ _ _ _ _ (.int (nI u) :: _)
      refine v_istore_n3 (pc' := 90) dX5_readCommand_89 (by decide) rfl rfl ?_
      refine v_aload_n (pc' := 91) dX5_readCommand_90 rfl rfl ?_
      refine v_iload_n (pc' := 92) dX5_readCommand_91 rfl rfl ?_
      refine v_iconst (pc' := 93) dX5_readCommand_92 kc_3 rfl ?_
      refine v_iconst (pc' := 94) dX5_readCommand_93 kc_0 rfl ?_
      refine v_sipush (pc' := 97) dX5_readCommand_94 ks_996 rfl ?_
      refine v_cVI (pc' := 100) (m_figures3 hl k0 kT (hT.cg (by rw [z_up_row, z_row_at, pk_un (by omega)]) (z_up_ne _ _ _ _ (by omega))) (nI u) (nI_m1 (by omega)) 0 996 k1 (by omega) (by omega) hk1 (by rw [z_up_row, z_row_at, pk_us]) rfl rfl rfl) dX5_readCommand_97 lk_X5_108 mwX5_figures miX5_figures k0 rfl rfl rfl rfl (by decide) (Nat.le_of_ble_eq_true rfl) rfl ?_
      rintro _ _ ⟨rfl, rfl⟩
      rw [hr2, z_up_up]
      show z_V _ _ _ _ _ _ _ _ _ _ _ _ _ _ (.int (nI v) :: _)
      refine v_istore4 (pc' := 102) dX5_readCommand_100 (by decide) rfl rfl ?_
      refine v_iload (pc' := 104) dX5_readCommand_102 rfl rfl ?_
      refine v_iconst (pc' := 105) dX5_readCommand_104 kc_m1 rfl ?_
      refine v_icmp_eq (tgt := 142) (pc' := 108) dX5_readCommand_105 (by decide) rfl (fun c_105 => ?_) (fun c_105 => ?_)
      · exact absurd c_105 (nI_m1 (by omega))
      · skip
        refine v_aload_n (pc' := 109) dX5_readCommand_108 rfl rfl ?_
        refine v_aload_n (pc' := 110) dX5_readCommand_109 rfl rfl ?_
        refine v_iconst (pc' := 111) dX5_readCommand_110 kc_0 rfl ?_
        refine v_iald (pc' := 112) dX5_readCommand_111 (0) rfl kR (by decide) (by decide) rfl ?_
        rw [rr1, hR.1.2]
        refine v_bipush (pc' := 114) dX5_readCommand_112 kb_6 rfl ?_
        refine v_icmp_ge (tgt := 131) (pc' := 117) dX5_readCommand_114 (by decide) rfl (fun c_114 => ?_) (fun c_114 => ?_)
        · have cc : ¬ cnt (I (d + 3)) < 6 := fun q => nI_ge (b := 6) q (by omega) c_114
          refine v_iconst (pc' := 132) dX5_readCommand_131 kc_0 rfl ?_
          first
            | (refine v_cVI (pc' := 135) (m_done hl k0 true) dX5_readCommand_132 lk_X5_115 mwX5_done miX5_done k0 rfl rfl rfl rfl (by decide) (Nat.le_of_ble_eq_true rfl) rfl ?_
               rintro _ _ ⟨rfl, rfl⟩
               refine v_if_eq (tgt := 142) (pc' := 138) dX5_readCommand_135 (by decide) rfl (fun c_135 => ?_) (fun c_135 => ?_)
               · exact absurd c_135 (by decide)
               · refine v_iconst (pc' := 139) dX5_readCommand_138 kc_1 rfl ?_
                 refine v_goto (tgt := 143) dX5_readCommand_139 (by decide) ?_
                 exact v_zret dX5_readCommand_143 rfl (Nat.le_refl _) (Nat.le_refl _) rfl ⟨_, rfl, rfl, rfl, rc_some hv rfl (by
                   have e10 : ∀ x, z_up I d 9 x d 10 = nI o := fun x => by rw [z_up_row, z_row_at, pk_un (by omega)]; exact ho
                   unfold rc_m
                   have hb : p_obeyb (I (d + 3)) (T k) u v = true := by rw [hc]; exact decide_eq_true cc
                   have hob : p_obey (I (d + 3)) (T k) u v = p_add (I (d + 3)) (nI u) (nI v) := by rw [hc]; exact if_pos cc
                   simp only [hb, hob, if_true, rr1]
                   rw [z_row_ne _ _ _ (show d ≠ d + 3 by omega), e10, Int32.add_zero])⟩)
            | (refine v_cVI (pc' := 135) (m_done hl k0 false) dX5_readCommand_132 lk_X5_115 mwX5_done miX5_done k0 rfl rfl rfl rfl (by decide) (Nat.le_of_ble_eq_true rfl) rfl ?_
               rintro _ _ ⟨rfl, rfl⟩
               refine v_if_eq (tgt := 142) (pc' := 138) dX5_readCommand_135 (by decide) rfl (fun c_135 => ?_) (fun c_135 => ?_)
               · exact absurd c_135 (by decide)
               · refine v_iconst (pc' := 139) dX5_readCommand_138 kc_1 rfl ?_
                 refine v_goto (tgt := 143) dX5_readCommand_139 (by decide) ?_
                 exact v_zret dX5_readCommand_143 rfl (Nat.le_refl _) (Nat.le_refl _) rfl ⟨_, rfl, rfl, rfl, rc_some hv rfl (by
                   have e10 : ∀ x, z_up I d 9 x d 10 = nI o := fun x => by rw [z_up_row, z_row_at, pk_un (by omega)]; exact ho
                   unfold rc_m
                   have hb : p_obeyb (I (d + 3)) (T k) u v = false := by rw [hc]; exact decide_eq_false cc
                   have hob : p_obey (I (d + 3)) (T k) u v = I (d + 3) := by rw [hc]; exact if_neg cc
                   simp only [hb, hob, Bool.false_eq_true, if_false]
                   rw [e10, nI_1, ← rr1 (nI k2), z_row_self])⟩)
        · have cc : cnt (I (d + 3)) < 6 := by
            rcases Nat.lt_or_ge (cnt (I (d + 3))) 6 with q | q
            · exact q
            · exact absurd (nI_le (a := 6) q (by omega)) c_114
          refine v_aload_n (pc' := 118) dX5_readCommand_117 rfl rfl ?_
          refine v_iload_n (pc' := 119) dX5_readCommand_118 rfl rfl ?_
          refine v_iload (pc' := 121) dX5_readCommand_119 rfl rfl ?_
          refine v_cSI (pc' := 124) (c5_addOn hl kR (nI u) (nI v) (by rw [rr1]; exact hR.1.2) (by rw [rr1]; exact cc)) dX5_readCommand_121 lk_X5_112 mwX5_addOn msX5_addOn rfl rfl (by decide) (Nat.le_of_ble_eq_true rfl) rfl ?_
          rintro _ _ ⟨rfl, rfl⟩
          rw [rr1, hR.1.2]
          refine v_if_lt (tgt := 131) (pc' := 127) dX5_readCommand_124 (by decide) rfl (fun c_124 => ?_) (fun c_124 => ?_)
          · exact absurd c_124 (nI_pos (by omega))
          · refine v_iconst (pc' := 128) dX5_readCommand_127 kc_1 rfl ?_
            refine v_goto (tgt := 132) dX5_readCommand_128 (by decide) ?_
            first
              | (refine v_cVI (pc' := 135) (m_done hl k0 true) dX5_readCommand_132 lk_X5_115 mwX5_done miX5_done k0 rfl rfl rfl rfl (by decide) (Nat.le_of_ble_eq_true rfl) rfl ?_
                 rintro _ _ ⟨rfl, rfl⟩
                 refine v_if_eq (tgt := 142) (pc' := 138) dX5_readCommand_135 (by decide) rfl (fun c_135 => ?_) (fun c_135 => ?_)
                 · exact absurd c_135 (by decide)
                 · refine v_iconst (pc' := 139) dX5_readCommand_138 kc_1 rfl ?_
                   refine v_goto (tgt := 143) dX5_readCommand_139 (by decide) ?_
                   exact v_zret dX5_readCommand_143 rfl (Nat.le_refl _) (Nat.le_refl _) rfl ⟨_, rfl, rfl, rfl, rc_some hv rfl (by
                     have e10 : ∀ x, z_up I d 9 x d 10 = nI o := fun x => by rw [z_up_row, z_row_at, pk_un (by omega)]; exact ho
                     unfold rc_m
                     have hb : p_obeyb (I (d + 3)) (T k) u v = true := by rw [hc]; exact decide_eq_true cc
                     have hob : p_obey (I (d + 3)) (T k) u v = p_add (I (d + 3)) (nI u) (nI v) := by rw [hc]; exact if_pos cc
                     simp only [hb, hob, if_true, rr1]
                     rw [z_row_ne _ _ _ (show d ≠ d + 3 by omega), e10, Int32.add_zero])⟩)
              | (refine v_cVI (pc' := 135) (m_done hl k0 false) dX5_readCommand_132 lk_X5_115 mwX5_done miX5_done k0 rfl rfl rfl rfl (by decide) (Nat.le_of_ble_eq_true rfl) rfl ?_
                 rintro _ _ ⟨rfl, rfl⟩
                 refine v_if_eq (tgt := 142) (pc' := 138) dX5_readCommand_135 (by decide) rfl (fun c_135 => ?_) (fun c_135 => ?_)
                 · exact absurd c_135 (by decide)
                 · refine v_iconst (pc' := 139) dX5_readCommand_138 kc_1 rfl ?_
                   refine v_goto (tgt := 143) dX5_readCommand_139 (by decide) ?_
                   exact v_zret dX5_readCommand_143 rfl (Nat.le_refl _) (Nat.le_refl _) rfl ⟨_, rfl, rfl, rfl, rc_some hv rfl (by
                     have e10 : ∀ x, z_up I d 9 x d 10 = nI o := fun x => by rw [z_up_row, z_row_at, pk_un (by omega)]; exact ho
                     unfold rc_m
                     have hb : p_obeyb (I (d + 3)) (T k) u v = false := by rw [hc]; exact decide_eq_false cc
                     have hob : p_obey (I (d + 3)) (T k) u v = I (d + 3) := by rw [hc]; exact if_neg cc
                     simp only [hb, hob, Bool.false_eq_true, if_false]
                     rw [e10, nI_1, ← rr1 (nI k2), z_row_self])⟩)

set_option maxRecDepth 20000 in
set_option maxHeartbeats 4000000 in
theorem m_rc_l (hl : l.stackTraces = false) (k0 : (d, sMd d) ∈ G) (kT : (d + 1, sI E 0 120) ∈ G) (kR : (d + 3, sI E 0 65) ∈ G) (hT : MT I d T n) (hR : WF (I (d + 3))) (k o : Nat) (hk : k < n) (hsp : I d 9 = nI k) (ho : I d 10 = nI o) (hc : T k = 108) : z_CI E l mX5_readCommand 5 [.ref d, .ref (d + 3)] G I sz (rc_P I d T n k o) := by
  obtain ⟨tn, tl, tc⟩ := id hT
  obtain ⟨t1, t2⟩ := tc k hk
  have h6 := hR.1.1
  have ec : p_cmd T n k = p_two T n 0 5 1 0 11 2 (k + 1) := by
    unfold p_cmd
    repeat' first | rfl | omega | split
  rcases hr1 : p_rn T n 0 5 1 0 (k + 1) with ⟨_ | u, k1⟩
  · have hv : p_cmd T n k = (none, k1) := by rw [ec, p_two, hr1]
    refine z_Ct.of hl pn_X5 [some (.ref d), some (.ref (d + 3)), none, none, none] rfl (Nat.le_of_ble_eq_true rfl) ?_
    refine v_aload_n (pc' := 1) dX5_readCommand_0 rfl rfl ?_
    refine g_X5_7 (pc' := 4) rfl dX5_readCommand_1 (by assumption) rfl ?_
    refine v_aload_n (pc' := 5) dX5_readCommand_4 rfl rfl ?_
    refine g_X5_102 (pc' := 8) rfl dX5_readCommand_5 (by assumption) rfl ?_
    rw [hsp]
    refine v_iald (pc' := 9) dX5_readCommand_8 (k) rfl kT (by omega) (by decide) rfl ?_
    rw [t2]
    refine v_istore_n2 (pc' := 10) dX5_readCommand_9 (by decide) rfl rfl ?_
    refine v_aload_n (pc' := 11) dX5_readCommand_10 rfl rfl ?_
    refine v_dup (pc' := 12) dX5_readCommand_11 rfl rfl ?_
    refine g_X5_102 (pc' := 15) rfl dX5_readCommand_12 (by assumption) rfl ?_
    rw [hsp]
    refine v_iconst (pc' := 16) dX5_readCommand_15 kc_1 rfl ?_
    refine v_iadd (pc' := 17) dX5_readCommand_16 rfl ?_
    rw [nI_1]
    refine p_X5_102 (pc' := 20) rfl dX5_readCommand_17 (by assumption) rfl ?_
    generalize hI1 : z_up I d 9 (nI (k + 1)) = I1
    have hT1 : MT I1 d T n := by rw [← hI1]; exact hT.cg (by rw [z_up_row, z_row_at, pk_un (by omega)]) (z_up_ne _ _ _ _ (by omega))
    have sp1 : I1 d 9 = nI (k + 1) := by rw [← hI1, z_up_row, z_row_at, pk_us]
    have up1 : ∀ x, z_up I1 d 9 x = z_up I d 9 x := fun x => by rw [← hI1, z_up_up]
    have rr1 : ∀ x, z_up I d 9 x (d + 3) = I (d + 3) := fun x => z_up_ne _ _ _ _ (by omega)
    refine v_iload_n (pc' := 21) dX5_readCommand_20 rfl rfl ?_
    refine v_lookup (tgt := 144) (off := 123) dX5_readCommand_21 rfl (by rw [nI_toInt (by omega)]; simp only [Array.toList, Op.lookupswitch.offset]; repeat' first | omega | split) (by decide) ?_
    refine v_aload_n (pc' := 145) dX5_readCommand_144 rfl rfl ?_
    refine v_iconst (pc' := 146) dX5_readCommand_145 kc_0 rfl ?_
    refine v_iconst (pc' := 147) dX5_readCommand_146 kc_1 rfl ?_
    refine v_iconst (pc' := 148) dX5_readCommand_147 kc_0 rfl ?_
    refine v_iconst (pc' := 149) dX5_readCommand_148 kc_5 rfl ?_
    refine v_cVI (pc' := 152) (m_figures1 hl k0 kT hT1 0 (by decide) 0 5 (k + 1) (by omega) (by omega) (by omega) sp1 rfl rfl rfl) dX5_readCommand_149 lk_X5_108 mwX5_figures miX5_figures k0 rfl rfl rfl rfl (by decide) (Nat.le_of_ble_eq_true rfl) rfl ?_
    rintro _ _ ⟨rfl, rfl⟩
    rw [hr1]
    simp only [up1]
    refine v_istore_n3 (pc' := 153) dX5_readCommand_152 (by decide) rfl rfl ?_
    refine v_aload_n (pc' := 154) dX5_readCommand_153 rfl rfl ?_
    refine v_iload_n (pc' := 155) dX5_readCommand_154 rfl rfl ?_
    refine v_iconst (pc' := 156) dX5_readCommand_155 kc_2 rfl ?_
    refine v_iconst (pc' := 157) dX5_readCommand_156 kc_0 rfl ?_
    refine v_bipush (pc' := 159) dX5_readCommand_157 kb_11 rfl ?_
    refine v_cVI (pc' := 162) (m_figuresW2 hl k0 kT (hT.cg (by rw [z_up_row, z_row_at, pk_un (by omega)]) (z_up_ne _ _ _ _ (by omega))) _ _ rfl) dX5_readCommand_159 lk_X5_108 mwX5_figures miX5_figures k0 rfl rfl rfl rfl (by decide) (Nat.le_of_ble_eq_true rfl) rfl ?_
    rintro _ _ ⟨rfl, rfl⟩
    refine v_istore4 (pc' := 164) dX5_readCommand_162 (by decide) rfl rfl ?_
    refine v_iload (pc' := 166) dX5_readCommand_164 rfl rfl ?_
    refine v_iconst (pc' := 167) dX5_readCommand_166 kc_m1 rfl ?_
    refine v_icmp_eq (tgt := 206) (pc' := 170) dX5_readCommand_167 (by decide) rfl (fun c_167 => ?_) (fun c_167 => ?_)
    · refine v_iconst (pc' := 207) dX5_readCommand_206 kc_0 rfl ?_
      exact v_zret dX5_readCommand_207 rfl (Nat.le_refl _) (Nat.le_refl _) rfl ⟨_, rfl, rfl, rfl, rc_none hv rfl rfl⟩
    · exact absurd rfl c_167
  · have hk1 : k1 ≤ n := by have := (p_rn_le (T := T) (n := n) (lo := 0) (hi := 5) 1 0 (k + 1) (by omega)).2; rw [hr1] at this; exact this
    have hu := p_rn_rng (T := T) (n := n) (lo := 0) (hi := 5) (x := u) 0 0 (k + 1) (by rw [hr1])
    rcases hr2 : p_rn T n 0 11 2 0 k1 with ⟨_ | v, k2⟩
    · have hv : p_cmd T n k = (none, k2) := by rw [ec, p_two, hr1]; simp only [hr2]
      refine z_Ct.of hl pn_X5 [some (.ref d), some (.ref (d + 3)), none, none, none] rfl (Nat.le_of_ble_eq_true rfl) ?_
      refine v_aload_n (pc' := 1) dX5_readCommand_0 rfl rfl ?_
      refine g_X5_7 (pc' := 4) rfl dX5_readCommand_1 (by assumption) rfl ?_
      refine v_aload_n (pc' := 5) dX5_readCommand_4 rfl rfl ?_
      refine g_X5_102 (pc' := 8) rfl dX5_readCommand_5 (by assumption) rfl ?_
      rw [hsp]
      refine v_iald (pc' := 9) dX5_readCommand_8 (k) rfl kT (by omega) (by decide) rfl ?_
      rw [t2]
      refine v_istore_n2 (pc' := 10) dX5_readCommand_9 (by decide) rfl rfl ?_
      refine v_aload_n (pc' := 11) dX5_readCommand_10 rfl rfl ?_
      refine v_dup (pc' := 12) dX5_readCommand_11 rfl rfl ?_
      refine g_X5_102 (pc' := 15) rfl dX5_readCommand_12 (by assumption) rfl ?_
      rw [hsp]
      refine v_iconst (pc' := 16) dX5_readCommand_15 kc_1 rfl ?_
      refine v_iadd (pc' := 17) dX5_readCommand_16 rfl ?_
      rw [nI_1]
      refine p_X5_102 (pc' := 20) rfl dX5_readCommand_17 (by assumption) rfl ?_
      generalize hI1 : z_up I d 9 (nI (k + 1)) = I1
      have hT1 : MT I1 d T n := by rw [← hI1]; exact hT.cg (by rw [z_up_row, z_row_at, pk_un (by omega)]) (z_up_ne _ _ _ _ (by omega))
      have sp1 : I1 d 9 = nI (k + 1) := by rw [← hI1, z_up_row, z_row_at, pk_us]
      have up1 : ∀ x, z_up I1 d 9 x = z_up I d 9 x := fun x => by rw [← hI1, z_up_up]
      have rr1 : ∀ x, z_up I d 9 x (d + 3) = I (d + 3) := fun x => z_up_ne _ _ _ _ (by omega)
      refine v_iload_n (pc' := 21) dX5_readCommand_20 rfl rfl ?_
      refine v_lookup (tgt := 144) (off := 123) dX5_readCommand_21 rfl (by rw [nI_toInt (by omega)]; simp only [Array.toList, Op.lookupswitch.offset]; repeat' first | omega | split) (by decide) ?_
      refine v_aload_n (pc' := 145) dX5_readCommand_144 rfl rfl ?_
      refine v_iconst (pc' := 146) dX5_readCommand_145 kc_0 rfl ?_
      refine v_iconst (pc' := 147) dX5_readCommand_146 kc_1 rfl ?_
      refine v_iconst (pc' := 148) dX5_readCommand_147 kc_0 rfl ?_
      refine v_iconst (pc' := 149) dX5_readCommand_148 kc_5 rfl ?_
      refine v_cVI (pc' := 152) (m_figures1 hl k0 kT hT1 0 (by decide) 0 5 (k + 1) (by omega) (by omega) (by omega) sp1 rfl rfl rfl) dX5_readCommand_149 lk_X5_108 mwX5_figures miX5_figures k0 rfl rfl rfl rfl (by decide) (Nat.le_of_ble_eq_true rfl) rfl ?_
      rintro _ _ ⟨rfl, rfl⟩
      rw [hr1]
      simp only [up1]
      refine v_istore_n3 (pc' := 153) dX5_readCommand_152 (by decide) rfl rfl ?_
      refine v_aload_n (pc' := 154) dX5_readCommand_153 rfl rfl ?_
      refine v_iload_n (pc' := 155) dX5_readCommand_154 rfl rfl ?_
      refine v_iconst (pc' := 156) dX5_readCommand_155 kc_2 rfl ?_
      refine v_iconst (pc' := 157) dX5_readCommand_156 kc_0 rfl ?_
      refine v_bipush (pc' := 159) dX5_readCommand_157 kb_11 rfl ?_
      refine v_cVI (pc' := 162) (m_figures2 hl k0 kT (hT.cg (by rw [z_up_row, z_row_at, pk_un (by omega)]) (z_up_ne _ _ _ _ (by omega))) (nI u) (nI_m1 (by omega)) 0 11 k1 (by omega) (by omega) hk1 (by rw [z_up_row, z_row_at, pk_us]) rfl rfl rfl) dX5_readCommand_159 lk_X5_108 mwX5_figures miX5_figures k0 rfl rfl rfl rfl (by decide) (Nat.le_of_ble_eq_true rfl) rfl ?_
      rintro _ _ ⟨rfl, rfl⟩
      rw [hr2, z_up_up]
      refine v_istore4 (pc' := 164) dX5_readCommand_162 (by decide) rfl rfl ?_
      refine v_iload (pc' := 166) dX5_readCommand_164 rfl rfl ?_
      refine v_iconst (pc' := 167) dX5_readCommand_166 kc_m1 rfl ?_
      refine v_icmp_eq (tgt := 206) (pc' := 170) dX5_readCommand_167 (by decide) rfl (fun c_167 => ?_) (fun c_167 => ?_)
      · refine v_iconst (pc' := 207) dX5_readCommand_206 kc_0 rfl ?_
        exact v_zret dX5_readCommand_207 rfl (Nat.le_refl _) (Nat.le_refl _) rfl ⟨_, rfl, rfl, rfl, rc_none hv rfl rfl⟩
      · exact absurd rfl c_167
    · have hv : p_cmd T n k = (some (u, v), k2) := by rw [ec, p_two, hr1]; simp only [hr2]
      have hv2 := p_rn_rng (T := T) (n := n) (lo := 0) (hi := 11) (x := v) 1 0 k1 (by rw [hr2])
      refine z_Ct.of hl pn_X5 [some (.ref d), some (.ref (d + 3)), none, none, none] rfl (Nat.le_of_ble_eq_true rfl) ?_
      refine v_aload_n (pc' := 1) dX5_readCommand_0 rfl rfl ?_
      refine g_X5_7 (pc' := 4) rfl dX5_readCommand_1 (by assumption) rfl ?_
      refine v_aload_n (pc' := 5) dX5_readCommand_4 rfl rfl ?_
      refine g_X5_102 (pc' := 8) rfl dX5_readCommand_5 (by assumption) rfl ?_
      rw [hsp]
      refine v_iald (pc' := 9) dX5_readCommand_8 (k) rfl kT (by omega) (by decide) rfl ?_
      rw [t2]
      refine v_istore_n2 (pc' := 10) dX5_readCommand_9 (by decide) rfl rfl ?_
      refine v_aload_n (pc' := 11) dX5_readCommand_10 rfl rfl ?_
      refine v_dup (pc' := 12) dX5_readCommand_11 rfl rfl ?_
      refine g_X5_102 (pc' := 15) rfl dX5_readCommand_12 (by assumption) rfl ?_
      rw [hsp]
      refine v_iconst (pc' := 16) dX5_readCommand_15 kc_1 rfl ?_
      refine v_iadd (pc' := 17) dX5_readCommand_16 rfl ?_
      rw [nI_1]
      refine p_X5_102 (pc' := 20) rfl dX5_readCommand_17 (by assumption) rfl ?_
      generalize hI1 : z_up I d 9 (nI (k + 1)) = I1
      have hT1 : MT I1 d T n := by rw [← hI1]; exact hT.cg (by rw [z_up_row, z_row_at, pk_un (by omega)]) (z_up_ne _ _ _ _ (by omega))
      have sp1 : I1 d 9 = nI (k + 1) := by rw [← hI1, z_up_row, z_row_at, pk_us]
      have up1 : ∀ x, z_up I1 d 9 x = z_up I d 9 x := fun x => by rw [← hI1, z_up_up]
      have rr1 : ∀ x, z_up I d 9 x (d + 3) = I (d + 3) := fun x => z_up_ne _ _ _ _ (by omega)
      refine v_iload_n (pc' := 21) dX5_readCommand_20 rfl rfl ?_
      refine v_lookup (tgt := 144) (off := 123) dX5_readCommand_21 rfl (by rw [nI_toInt (by omega)]; simp only [Array.toList, Op.lookupswitch.offset]; repeat' first | omega | split) (by decide) ?_
      refine v_aload_n (pc' := 145) dX5_readCommand_144 rfl rfl ?_
      refine v_iconst (pc' := 146) dX5_readCommand_145 kc_0 rfl ?_
      refine v_iconst (pc' := 147) dX5_readCommand_146 kc_1 rfl ?_
      refine v_iconst (pc' := 148) dX5_readCommand_147 kc_0 rfl ?_
      refine v_iconst (pc' := 149) dX5_readCommand_148 kc_5 rfl ?_
      refine v_cVI (pc' := 152) (m_figures1 hl k0 kT hT1 0 (by decide) 0 5 (k + 1) (by omega) (by omega) (by omega) sp1 rfl rfl rfl) dX5_readCommand_149 lk_X5_108 mwX5_figures miX5_figures k0 rfl rfl rfl rfl (by decide) (Nat.le_of_ble_eq_true rfl) rfl ?_
      rintro _ _ ⟨rfl, rfl⟩
      rw [hr1]
      simp only [up1]
      show z_V _ _ _ _ _ _ _ _ _ _ _ _ _ _ (.int (nI u) :: _)
      refine v_istore_n3 (pc' := 153) dX5_readCommand_152 (by decide) rfl rfl ?_
      refine v_aload_n (pc' := 154) dX5_readCommand_153 rfl rfl ?_
      refine v_iload_n (pc' := 155) dX5_readCommand_154 rfl rfl ?_
      refine v_iconst (pc' := 156) dX5_readCommand_155 kc_2 rfl ?_
      refine v_iconst (pc' := 157) dX5_readCommand_156 kc_0 rfl ?_
      refine v_bipush (pc' := 159) dX5_readCommand_157 kb_11 rfl ?_
      refine v_cVI (pc' := 162) (m_figures2 hl k0 kT (hT.cg (by rw [z_up_row, z_row_at, pk_un (by omega)]) (z_up_ne _ _ _ _ (by omega))) (nI u) (nI_m1 (by omega)) 0 11 k1 (by omega) (by omega) hk1 (by rw [z_up_row, z_row_at, pk_us]) rfl rfl rfl) dX5_readCommand_159 lk_X5_108 mwX5_figures miX5_figures k0 rfl rfl rfl rfl (by decide) (Nat.le_of_ble_eq_true rfl) rfl ?_
      rintro _ _ ⟨rfl, rfl⟩
      rw [hr2, z_up_up]
      show z_V _ _ _ _ _ _ _ _ _ _ _ _ _ _ (.int (nI v) :: _)
      refine v_istore4 (pc' := 164) dX5_readCommand_162 (by decide) rfl rfl ?_
      refine v_iload (pc' := 166) dX5_readCommand_164 rfl rfl ?_
      refine v_iconst (pc' := 167) dX5_readCommand_166 kc_m1 rfl ?_
      refine v_icmp_eq (tgt := 206) (pc' := 170) dX5_readCommand_167 (by decide) rfl (fun c_167 => ?_) (fun c_167 => ?_)
      · exact absurd c_167 (nI_m1 (by omega))
      · skip
        refine v_aload_n (pc' := 171) dX5_readCommand_170 rfl rfl ?_
        refine v_aload_n (pc' := 172) dX5_readCommand_171 rfl rfl ?_
        refine v_iload_n (pc' := 173) dX5_readCommand_172 rfl rfl ?_
        refine v_iload (pc' := 175) dX5_readCommand_173 rfl rfl ?_
        refine v_cSR (pc' := 178) (c5_canBring hl kR (by rw [rr1]; exact hR) (nI u) (nI v)) dX5_readCommand_175 lk_X5_119 mwX5_canBring msX5_canBring rfl rfl (by decide) (Nat.le_of_ble_eq_true rfl) rfl ?_
        rw [rr1]
        refine v_if_eq (tgt := 195) (pc' := 181) dX5_readCommand_178 (by decide) rfl (fun c_178 => ?_) (fun c_178 => ?_)
        · first | rw [z_b_ne0] at c_178 | rw [z_b_eq0] at c_178
          refine v_iconst (pc' := 196) dX5_readCommand_195 kc_0 rfl ?_
          first
            | (refine v_cVI (pc' := 199) (m_done hl k0 true) dX5_readCommand_196 lk_X5_115 mwX5_done miX5_done k0 rfl rfl rfl rfl (by decide) (Nat.le_of_ble_eq_true rfl) rfl ?_
               rintro _ _ ⟨rfl, rfl⟩
               refine v_if_eq (tgt := 206) (pc' := 202) dX5_readCommand_199 (by decide) rfl (fun c_199 => ?_) (fun c_199 => ?_)
               · exact absurd c_199 (by decide)
               · refine v_iconst (pc' := 203) dX5_readCommand_202 kc_1 rfl ?_
                 refine v_goto (tgt := 207) dX5_readCommand_203 (by decide) ?_
                 exact v_zret dX5_readCommand_207 rfl (Nat.le_refl _) (Nat.le_refl _) rfl ⟨_, rfl, rfl, rfl, rc_some hv rfl (by
                   have e10 : ∀ x, z_up I d 9 x d 10 = nI o := fun x => by rw [z_up_row, z_row_at, pk_un (by omega)]; exact ho
                   unfold rc_m
                   have hb : p_obeyb (I (d + 3)) (T k) u v = true := by rw [hc]; exact c_178
                   have hob : p_obey (I (d + 3)) (T k) u v = p_bring (I (d + 3)) u (nI v) := by rw [hc]; exact (by show t_job _ _ _ = _; rw [t_job, if_pos c_178, nI_clamp (by omega)])
                   simp only [hb, hob, if_true, rr1]
                   rw [z_row_ne _ _ _ (show d ≠ d + 3 by omega), e10, Int32.add_zero])⟩)
            | (refine v_cVI (pc' := 199) (m_done hl k0 false) dX5_readCommand_196 lk_X5_115 mwX5_done miX5_done k0 rfl rfl rfl rfl (by decide) (Nat.le_of_ble_eq_true rfl) rfl ?_
               rintro _ _ ⟨rfl, rfl⟩
               refine v_if_eq (tgt := 206) (pc' := 202) dX5_readCommand_199 (by decide) rfl (fun c_199 => ?_) (fun c_199 => ?_)
               · exact absurd c_199 (by decide)
               · refine v_iconst (pc' := 203) dX5_readCommand_202 kc_1 rfl ?_
                 refine v_goto (tgt := 207) dX5_readCommand_203 (by decide) ?_
                 exact v_zret dX5_readCommand_207 rfl (Nat.le_refl _) (Nat.le_refl _) rfl ⟨_, rfl, rfl, rfl, rc_some hv rfl (by
                   have e10 : ∀ x, z_up I d 9 x d 10 = nI o := fun x => by rw [z_up_row, z_row_at, pk_un (by omega)]; exact ho
                   unfold rc_m
                   have hb : p_obeyb (I (d + 3)) (T k) u v = false := by rw [hc]; exact c_178
                   have hob : p_obey (I (d + 3)) (T k) u v = I (d + 3) := by rw [hc]; exact (by show t_job _ _ _ = _; rw [t_job, if_neg (by rw [c_178]; decide)])
                   simp only [hb, hob, Bool.false_eq_true, if_false]
                   rw [e10, nI_1, ← rr1 (nI k2), z_row_self])⟩)
        · first | rw [z_b_ne0] at c_178 | rw [z_b_eq0] at c_178
          obtain ⟨t9, s9, et, es, ht9, -⟩ := canb_of hR c_178
          have e9 : u = t9 := (nI_eq (by omega) (by omega)).mp et
          have hbp := bringv_pos hR ht9
          rw [← e9] at hbp
          refine v_aload_n (pc' := 182) dX5_readCommand_181 rfl rfl ?_
          refine v_iload_n (pc' := 183) dX5_readCommand_182 rfl rfl ?_
          refine v_iload (pc' := 185) dX5_readCommand_183 rfl rfl ?_
          refine v_cSI (pc' := 188) (c5_bringOn hl kR u (nI v) (by omega) rfl) dX5_readCommand_185 lk_X5_123 mwX5_bringOn msX5_bringOn rfl rfl (by decide) (Nat.le_of_ble_eq_true rfl) rfl ?_
          rintro _ _ ⟨rfl, rfl⟩
          rw [rr1]
          refine v_if_le (tgt := 195) (pc' := 191) dX5_readCommand_188 (by decide) rfl (fun c_188 => ?_) (fun c_188 => ?_)
          · have : False := by rw [Int32.le_iff_toInt_le, i_0] at c_188; omega
            exact this.elim
          · refine v_iconst (pc' := 192) dX5_readCommand_191 kc_1 rfl ?_
            refine v_goto (tgt := 196) dX5_readCommand_192 (by decide) ?_
            first
              | (refine v_cVI (pc' := 199) (m_done hl k0 true) dX5_readCommand_196 lk_X5_115 mwX5_done miX5_done k0 rfl rfl rfl rfl (by decide) (Nat.le_of_ble_eq_true rfl) rfl ?_
                 rintro _ _ ⟨rfl, rfl⟩
                 refine v_if_eq (tgt := 206) (pc' := 202) dX5_readCommand_199 (by decide) rfl (fun c_199 => ?_) (fun c_199 => ?_)
                 · exact absurd c_199 (by decide)
                 · refine v_iconst (pc' := 203) dX5_readCommand_202 kc_1 rfl ?_
                   refine v_goto (tgt := 207) dX5_readCommand_203 (by decide) ?_
                   exact v_zret dX5_readCommand_207 rfl (Nat.le_refl _) (Nat.le_refl _) rfl ⟨_, rfl, rfl, rfl, rc_some hv rfl (by
                     have e10 : ∀ x, z_up I d 9 x d 10 = nI o := fun x => by rw [z_up_row, z_row_at, pk_un (by omega)]; exact ho
                     unfold rc_m
                     have hb : p_obeyb (I (d + 3)) (T k) u v = true := by rw [hc]; exact c_178
                     have hob : p_obey (I (d + 3)) (T k) u v = p_bring (I (d + 3)) u (nI v) := by rw [hc]; exact (by show t_job _ _ _ = _; rw [t_job, if_pos c_178, nI_clamp (by omega)])
                     simp only [hb, hob, if_true, rr1]
                     rw [z_row_ne _ _ _ (show d ≠ d + 3 by omega), e10, Int32.add_zero])⟩)
              | (refine v_cVI (pc' := 199) (m_done hl k0 false) dX5_readCommand_196 lk_X5_115 mwX5_done miX5_done k0 rfl rfl rfl rfl (by decide) (Nat.le_of_ble_eq_true rfl) rfl ?_
                 rintro _ _ ⟨rfl, rfl⟩
                 refine v_if_eq (tgt := 206) (pc' := 202) dX5_readCommand_199 (by decide) rfl (fun c_199 => ?_) (fun c_199 => ?_)
                 · exact absurd c_199 (by decide)
                 · refine v_iconst (pc' := 203) dX5_readCommand_202 kc_1 rfl ?_
                   refine v_goto (tgt := 207) dX5_readCommand_203 (by decide) ?_
                   exact v_zret dX5_readCommand_207 rfl (Nat.le_refl _) (Nat.le_refl _) rfl ⟨_, rfl, rfl, rfl, rc_some hv rfl (by
                     have e10 : ∀ x, z_up I d 9 x d 10 = nI o := fun x => by rw [z_up_row, z_row_at, pk_un (by omega)]; exact ho
                     unfold rc_m
                     have hb : p_obeyb (I (d + 3)) (T k) u v = false := by rw [hc]; exact c_178
                     have hob : p_obey (I (d + 3)) (T k) u v = I (d + 3) := by rw [hc]; exact (by show t_job _ _ _ = _; rw [t_job, if_neg (by rw [c_178]; decide)])
                     simp only [hb, hob, Bool.false_eq_true, if_false]
                     rw [e10, nI_1, ← rr1 (nI k2), z_row_self])⟩)

set_option maxRecDepth 20000 in
set_option maxHeartbeats 4000000 in
theorem m_rc_b (hl : l.stackTraces = false) (k0 : (d, sMd d) ∈ G) (kT : (d + 1, sI E 0 120) ∈ G) (kR : (d + 3, sI E 0 65) ∈ G) (hT : MT I d T n) (hR : WF (I (d + 3))) (k o : Nat) (hk : k < n) (hsp : I d 9 = nI k) (ho : I d 10 = nI o) (hc : T k = 98) : z_CI E l mX5_readCommand 5 [.ref d, .ref (d + 3)] G I sz (rc_P I d T n k o) := by
  obtain ⟨tn, tl, tc⟩ := id hT
  obtain ⟨t1, t2⟩ := tc k hk
  have h6 := hR.1.1
  have ec : p_cmd T n k = p_onen T n 0 11 2 (k + 1) := by
    unfold p_cmd
    repeat' first | rfl | omega | split
  rcases hr1 : p_rn T n 0 11 2 0 (k + 1) with ⟨_ | u, k1⟩
  · have hv : p_cmd T n k = (none, k1) := by rw [ec, p_onen, hr1]
    refine z_Ct.of hl pn_X5 [some (.ref d), some (.ref (d + 3)), none, none, none] rfl (Nat.le_of_ble_eq_true rfl) ?_
    refine v_aload_n (pc' := 1) dX5_readCommand_0 rfl rfl ?_
    refine g_X5_7 (pc' := 4) rfl dX5_readCommand_1 (by assumption) rfl ?_
    refine v_aload_n (pc' := 5) dX5_readCommand_4 rfl rfl ?_
    refine g_X5_102 (pc' := 8) rfl dX5_readCommand_5 (by assumption) rfl ?_
    rw [hsp]
    refine v_iald (pc' := 9) dX5_readCommand_8 (k) rfl kT (by omega) (by decide) rfl ?_
    rw [t2]
    refine v_istore_n2 (pc' := 10) dX5_readCommand_9 (by decide) rfl rfl ?_
    refine v_aload_n (pc' := 11) dX5_readCommand_10 rfl rfl ?_
    refine v_dup (pc' := 12) dX5_readCommand_11 rfl rfl ?_
    refine g_X5_102 (pc' := 15) rfl dX5_readCommand_12 (by assumption) rfl ?_
    rw [hsp]
    refine v_iconst (pc' := 16) dX5_readCommand_15 kc_1 rfl ?_
    refine v_iadd (pc' := 17) dX5_readCommand_16 rfl ?_
    rw [nI_1]
    refine p_X5_102 (pc' := 20) rfl dX5_readCommand_17 (by assumption) rfl ?_
    generalize hI1 : z_up I d 9 (nI (k + 1)) = I1
    have hT1 : MT I1 d T n := by rw [← hI1]; exact hT.cg (by rw [z_up_row, z_row_at, pk_un (by omega)]) (z_up_ne _ _ _ _ (by omega))
    have sp1 : I1 d 9 = nI (k + 1) := by rw [← hI1, z_up_row, z_row_at, pk_us]
    have up1 : ∀ x, z_up I1 d 9 x = z_up I d 9 x := fun x => by rw [← hI1, z_up_up]
    have rr1 : ∀ x, z_up I d 9 x (d + 3) = I (d + 3) := fun x => z_up_ne _ _ _ _ (by omega)
    refine v_iload_n (pc' := 21) dX5_readCommand_20 rfl rfl ?_
    refine v_lookup (tgt := 208) (off := 187) dX5_readCommand_21 rfl (by rw [nI_toInt (by omega)]; simp only [Array.toList, Op.lookupswitch.offset]; repeat' first | omega | split) (by decide) ?_
    refine v_aload_n (pc' := 209) dX5_readCommand_208 rfl rfl ?_
    refine v_iconst (pc' := 210) dX5_readCommand_209 kc_0 rfl ?_
    refine v_iconst (pc' := 211) dX5_readCommand_210 kc_2 rfl ?_
    refine v_iconst (pc' := 212) dX5_readCommand_211 kc_0 rfl ?_
    refine v_bipush (pc' := 214) dX5_readCommand_212 kb_11 rfl ?_
    refine v_cVI (pc' := 217) (m_figures2 hl k0 kT hT1 0 (by decide) 0 11 (k + 1) (by omega) (by omega) (by omega) sp1 rfl rfl rfl) dX5_readCommand_214 lk_X5_108 mwX5_figures miX5_figures k0 rfl rfl rfl rfl (by decide) (Nat.le_of_ble_eq_true rfl) rfl ?_
    rintro _ _ ⟨rfl, rfl⟩
    rw [hr1]
    simp only [up1]
    refine v_istore_n3 (pc' := 218) dX5_readCommand_217 (by decide) rfl rfl ?_
    refine v_iload_n (pc' := 219) dX5_readCommand_218 rfl rfl ?_
    refine v_iconst (pc' := 220) dX5_readCommand_219 kc_m1 rfl ?_
    refine v_icmp_eq (tgt := 248) (pc' := 223) dX5_readCommand_220 (by decide) rfl (fun c_220 => ?_) (fun c_220 => ?_)
    · refine v_iconst (pc' := 249) dX5_readCommand_248 kc_0 rfl ?_
      exact v_zret dX5_readCommand_249 rfl (Nat.le_refl _) (Nat.le_refl _) rfl ⟨_, rfl, rfl, rfl, rc_none hv rfl rfl⟩
    · exact absurd rfl c_220
  · have hv : p_cmd T n k = (some (u, 0), k1) := by rw [ec, p_onen, hr1]
    have hu := p_rn_rng (T := T) (n := n) (lo := 0) (hi := 11) (x := u) 1 0 (k + 1) (by rw [hr1])
    refine z_Ct.of hl pn_X5 [some (.ref d), some (.ref (d + 3)), none, none, none] rfl (Nat.le_of_ble_eq_true rfl) ?_
    refine v_aload_n (pc' := 1) dX5_readCommand_0 rfl rfl ?_
    refine g_X5_7 (pc' := 4) rfl dX5_readCommand_1 (by assumption) rfl ?_
    refine v_aload_n (pc' := 5) dX5_readCommand_4 rfl rfl ?_
    refine g_X5_102 (pc' := 8) rfl dX5_readCommand_5 (by assumption) rfl ?_
    rw [hsp]
    refine v_iald (pc' := 9) dX5_readCommand_8 (k) rfl kT (by omega) (by decide) rfl ?_
    rw [t2]
    refine v_istore_n2 (pc' := 10) dX5_readCommand_9 (by decide) rfl rfl ?_
    refine v_aload_n (pc' := 11) dX5_readCommand_10 rfl rfl ?_
    refine v_dup (pc' := 12) dX5_readCommand_11 rfl rfl ?_
    refine g_X5_102 (pc' := 15) rfl dX5_readCommand_12 (by assumption) rfl ?_
    rw [hsp]
    refine v_iconst (pc' := 16) dX5_readCommand_15 kc_1 rfl ?_
    refine v_iadd (pc' := 17) dX5_readCommand_16 rfl ?_
    rw [nI_1]
    refine p_X5_102 (pc' := 20) rfl dX5_readCommand_17 (by assumption) rfl ?_
    generalize hI1 : z_up I d 9 (nI (k + 1)) = I1
    have hT1 : MT I1 d T n := by rw [← hI1]; exact hT.cg (by rw [z_up_row, z_row_at, pk_un (by omega)]) (z_up_ne _ _ _ _ (by omega))
    have sp1 : I1 d 9 = nI (k + 1) := by rw [← hI1, z_up_row, z_row_at, pk_us]
    have up1 : ∀ x, z_up I1 d 9 x = z_up I d 9 x := fun x => by rw [← hI1, z_up_up]
    have rr1 : ∀ x, z_up I d 9 x (d + 3) = I (d + 3) := fun x => z_up_ne _ _ _ _ (by omega)
    refine v_iload_n (pc' := 21) dX5_readCommand_20 rfl rfl ?_
    refine v_lookup (tgt := 208) (off := 187) dX5_readCommand_21 rfl (by rw [nI_toInt (by omega)]; simp only [Array.toList, Op.lookupswitch.offset]; repeat' first | omega | split) (by decide) ?_
    refine v_aload_n (pc' := 209) dX5_readCommand_208 rfl rfl ?_
    refine v_iconst (pc' := 210) dX5_readCommand_209 kc_0 rfl ?_
    refine v_iconst (pc' := 211) dX5_readCommand_210 kc_2 rfl ?_
    refine v_iconst (pc' := 212) dX5_readCommand_211 kc_0 rfl ?_
    refine v_bipush (pc' := 214) dX5_readCommand_212 kb_11 rfl ?_
    refine v_cVI (pc' := 217) (m_figures2 hl k0 kT hT1 0 (by decide) 0 11 (k + 1) (by omega) (by omega) (by omega) sp1 rfl rfl rfl) dX5_readCommand_214 lk_X5_108 mwX5_figures miX5_figures k0 rfl rfl rfl rfl (by decide) (Nat.le_of_ble_eq_true rfl) rfl ?_
    rintro _ _ ⟨rfl, rfl⟩
    rw [hr1]
    simp only [up1]
    show z_V _ _ _ _ _ _ _ _ _ _ _ _ _ _ (.int (nI u) :: _)
    refine v_istore_n3 (pc' := 218) dX5_readCommand_217 (by decide) rfl rfl ?_
    refine v_iload_n (pc' := 219) dX5_readCommand_218 rfl rfl ?_
    refine v_iconst (pc' := 220) dX5_readCommand_219 kc_m1 rfl ?_
    refine v_icmp_eq (tgt := 248) (pc' := 223) dX5_readCommand_220 (by decide) rfl (fun c_220 => ?_) (fun c_220 => ?_)
    · exact absurd c_220 (nI_m1 (by omega))
    · skip
      have hh := p_hurt_cases hR (nI u)
      refine v_aload_n (pc' := 224) dX5_readCommand_223 rfl rfl ?_
      refine v_aload_n (pc' := 225) dX5_readCommand_224 rfl rfl ?_
      refine v_iload_n (pc' := 226) dX5_readCommand_225 rfl rfl ?_
      refine v_cSI (pc' := 229) (c5_turnOn hl kR (by rw [rr1]; exact hR) u (by omega) rfl) dX5_readCommand_226 lk_X5_126 mwX5_turnOn msX5_turnOn rfl rfl (by decide) (Nat.le_of_ble_eq_true rfl) rfl ?_
      rintro _ _ ⟨rfl, rfl⟩
      rw [rr1]
      refine v_iconst (pc' := 230) dX5_readCommand_229 kc_m1 rfl ?_
      refine v_icmp_lt (tgt := 237) (pc' := 233) dX5_readCommand_230 (by decide) rfl (fun c_230 => ?_) (fun c_230 => ?_)
      · have : False := by
          rw [Int32.lt_iff_toInt_lt, i_m1] at c_230
          rcases hh with q | ⟨u9, -, hu9, q⟩
          · rw [q, i_m1] at c_230; omega
          · rw [q, nI_toInt (by omega)] at c_230; omega
        exact this.elim
      · refine v_iconst (pc' := 234) dX5_readCommand_233 kc_1 rfl ?_
        refine v_goto (tgt := 238) dX5_readCommand_234 (by decide) ?_
        first
          | (refine v_cVI (pc' := 241) (m_done hl k0 true) dX5_readCommand_238 lk_X5_115 mwX5_done miX5_done k0 rfl rfl rfl rfl (by decide) (Nat.le_of_ble_eq_true rfl) rfl ?_
             rintro _ _ ⟨rfl, rfl⟩
             refine v_if_eq (tgt := 248) (pc' := 244) dX5_readCommand_241 (by decide) rfl (fun c_241 => ?_) (fun c_241 => ?_)
             · exact absurd c_241 (by decide)
             · refine v_iconst (pc' := 245) dX5_readCommand_244 kc_1 rfl ?_
               refine v_goto (tgt := 249) dX5_readCommand_245 (by decide) ?_
               exact v_zret dX5_readCommand_249 rfl (Nat.le_refl _) (Nat.le_refl _) rfl ⟨_, rfl, rfl, rfl, rc_some hv rfl (by
                 have e10 : ∀ x, z_up I d 9 x d 10 = nI o := fun x => by rw [z_up_row, z_row_at, pk_un (by omega)]; exact ho
                 unfold rc_m
                 have hb : p_obeyb (I (d + 3)) (T k) u 0 = true := by rw [hc]; exact p_isStripe_of (by omega)
                 have hob : p_obey (I (d + 3)) (T k) u 0 = p_bad (I (d + 3)) u := by rw [hc]; exact (by show t_bad _ _ = _; rw [t_bad, if_pos (p_isStripe_of (by omega)), nI_clamp (by omega)])
                 simp only [hb, hob, if_true, rr1]
                 rw [z_row_ne _ _ _ (show d ≠ d + 3 by omega), e10, Int32.add_zero])⟩)
          | (refine v_cVI (pc' := 241) (m_done hl k0 false) dX5_readCommand_238 lk_X5_115 mwX5_done miX5_done k0 rfl rfl rfl rfl (by decide) (Nat.le_of_ble_eq_true rfl) rfl ?_
             rintro _ _ ⟨rfl, rfl⟩
             refine v_if_eq (tgt := 248) (pc' := 244) dX5_readCommand_241 (by decide) rfl (fun c_241 => ?_) (fun c_241 => ?_)
             · exact absurd c_241 (by decide)
             · refine v_iconst (pc' := 245) dX5_readCommand_244 kc_1 rfl ?_
               refine v_goto (tgt := 249) dX5_readCommand_245 (by decide) ?_
               exact v_zret dX5_readCommand_249 rfl (Nat.le_refl _) (Nat.le_refl _) rfl ⟨_, rfl, rfl, rfl, rc_some hv rfl (by
                 have e10 : ∀ x, z_up I d 9 x d 10 = nI o := fun x => by rw [z_up_row, z_row_at, pk_un (by omega)]; exact ho
                 unfold rc_m
                 skip)⟩)

set_option maxRecDepth 20000 in
set_option maxHeartbeats 4000000 in
theorem m_rc_g (hl : l.stackTraces = false) (k0 : (d, sMd d) ∈ G) (kT : (d + 1, sI E 0 120) ∈ G) (kR : (d + 3, sI E 0 65) ∈ G) (hT : MT I d T n) (hR : WF (I (d + 3))) (k o : Nat) (hk : k < n) (hsp : I d 9 = nI k) (ho : I d 10 = nI o) (hc : T k = 103) : z_CI E l mX5_readCommand 5 [.ref d, .ref (d + 3)] G I sz (rc_P I d T n k o) := by
  obtain ⟨tn, tl, tc⟩ := id hT
  obtain ⟨t1, t2⟩ := tc k hk
  have h6 := hR.1.1
  have ec : p_cmd T n k = p_onen T n 0 11 2 (k + 1) := by
    unfold p_cmd
    repeat' first | rfl | omega | split
  rcases hr1 : p_rn T n 0 11 2 0 (k + 1) with ⟨_ | u, k1⟩
  · have hv : p_cmd T n k = (none, k1) := by rw [ec, p_onen, hr1]
    refine z_Ct.of hl pn_X5 [some (.ref d), some (.ref (d + 3)), none, none, none] rfl (Nat.le_of_ble_eq_true rfl) ?_
    refine v_aload_n (pc' := 1) dX5_readCommand_0 rfl rfl ?_
    refine g_X5_7 (pc' := 4) rfl dX5_readCommand_1 (by assumption) rfl ?_
    refine v_aload_n (pc' := 5) dX5_readCommand_4 rfl rfl ?_
    refine g_X5_102 (pc' := 8) rfl dX5_readCommand_5 (by assumption) rfl ?_
    rw [hsp]
    refine v_iald (pc' := 9) dX5_readCommand_8 (k) rfl kT (by omega) (by decide) rfl ?_
    rw [t2]
    refine v_istore_n2 (pc' := 10) dX5_readCommand_9 (by decide) rfl rfl ?_
    refine v_aload_n (pc' := 11) dX5_readCommand_10 rfl rfl ?_
    refine v_dup (pc' := 12) dX5_readCommand_11 rfl rfl ?_
    refine g_X5_102 (pc' := 15) rfl dX5_readCommand_12 (by assumption) rfl ?_
    rw [hsp]
    refine v_iconst (pc' := 16) dX5_readCommand_15 kc_1 rfl ?_
    refine v_iadd (pc' := 17) dX5_readCommand_16 rfl ?_
    rw [nI_1]
    refine p_X5_102 (pc' := 20) rfl dX5_readCommand_17 (by assumption) rfl ?_
    generalize hI1 : z_up I d 9 (nI (k + 1)) = I1
    have hT1 : MT I1 d T n := by rw [← hI1]; exact hT.cg (by rw [z_up_row, z_row_at, pk_un (by omega)]) (z_up_ne _ _ _ _ (by omega))
    have sp1 : I1 d 9 = nI (k + 1) := by rw [← hI1, z_up_row, z_row_at, pk_us]
    have up1 : ∀ x, z_up I1 d 9 x = z_up I d 9 x := fun x => by rw [← hI1, z_up_up]
    have rr1 : ∀ x, z_up I d 9 x (d + 3) = I (d + 3) := fun x => z_up_ne _ _ _ _ (by omega)
    refine v_iload_n (pc' := 21) dX5_readCommand_20 rfl rfl ?_
    refine v_lookup (tgt := 250) (off := 229) dX5_readCommand_21 rfl (by rw [nI_toInt (by omega)]; simp only [Array.toList, Op.lookupswitch.offset]; repeat' first | omega | split) (by decide) ?_
    refine v_aload_n (pc' := 251) dX5_readCommand_250 rfl rfl ?_
    refine v_iconst (pc' := 252) dX5_readCommand_251 kc_0 rfl ?_
    refine v_iconst (pc' := 253) dX5_readCommand_252 kc_2 rfl ?_
    refine v_iconst (pc' := 254) dX5_readCommand_253 kc_0 rfl ?_
    refine v_bipush (pc' := 256) dX5_readCommand_254 kb_11 rfl ?_
    refine v_cVI (pc' := 259) (m_figures2 hl k0 kT hT1 0 (by decide) 0 11 (k + 1) (by omega) (by omega) (by omega) sp1 rfl rfl rfl) dX5_readCommand_256 lk_X5_108 mwX5_figures miX5_figures k0 rfl rfl rfl rfl (by decide) (Nat.le_of_ble_eq_true rfl) rfl ?_
    rintro _ _ ⟨rfl, rfl⟩
    rw [hr1]
    simp only [up1]
    refine v_istore_n3 (pc' := 260) dX5_readCommand_259 (by decide) rfl rfl ?_
    refine v_iload_n (pc' := 261) dX5_readCommand_260 rfl rfl ?_
    refine v_iconst (pc' := 262) dX5_readCommand_261 kc_m1 rfl ?_
    refine v_icmp_eq (tgt := 289) (pc' := 265) dX5_readCommand_262 (by decide) rfl (fun c_262 => ?_) (fun c_262 => ?_)
    · refine v_iconst (pc' := 290) dX5_readCommand_289 kc_0 rfl ?_
      exact v_zret dX5_readCommand_290 rfl (Nat.le_refl _) (Nat.le_refl _) rfl ⟨_, rfl, rfl, rfl, rc_none hv rfl rfl⟩
    · exact absurd rfl c_262
  · have hv : p_cmd T n k = (some (u, 0), k1) := by rw [ec, p_onen, hr1]
    have hu := p_rn_rng (T := T) (n := n) (lo := 0) (hi := 11) (x := u) 1 0 (k + 1) (by rw [hr1])
    refine z_Ct.of hl pn_X5 [some (.ref d), some (.ref (d + 3)), none, none, none] rfl (Nat.le_of_ble_eq_true rfl) ?_
    refine v_aload_n (pc' := 1) dX5_readCommand_0 rfl rfl ?_
    refine g_X5_7 (pc' := 4) rfl dX5_readCommand_1 (by assumption) rfl ?_
    refine v_aload_n (pc' := 5) dX5_readCommand_4 rfl rfl ?_
    refine g_X5_102 (pc' := 8) rfl dX5_readCommand_5 (by assumption) rfl ?_
    rw [hsp]
    refine v_iald (pc' := 9) dX5_readCommand_8 (k) rfl kT (by omega) (by decide) rfl ?_
    rw [t2]
    refine v_istore_n2 (pc' := 10) dX5_readCommand_9 (by decide) rfl rfl ?_
    refine v_aload_n (pc' := 11) dX5_readCommand_10 rfl rfl ?_
    refine v_dup (pc' := 12) dX5_readCommand_11 rfl rfl ?_
    refine g_X5_102 (pc' := 15) rfl dX5_readCommand_12 (by assumption) rfl ?_
    rw [hsp]
    refine v_iconst (pc' := 16) dX5_readCommand_15 kc_1 rfl ?_
    refine v_iadd (pc' := 17) dX5_readCommand_16 rfl ?_
    rw [nI_1]
    refine p_X5_102 (pc' := 20) rfl dX5_readCommand_17 (by assumption) rfl ?_
    generalize hI1 : z_up I d 9 (nI (k + 1)) = I1
    have hT1 : MT I1 d T n := by rw [← hI1]; exact hT.cg (by rw [z_up_row, z_row_at, pk_un (by omega)]) (z_up_ne _ _ _ _ (by omega))
    have sp1 : I1 d 9 = nI (k + 1) := by rw [← hI1, z_up_row, z_row_at, pk_us]
    have up1 : ∀ x, z_up I1 d 9 x = z_up I d 9 x := fun x => by rw [← hI1, z_up_up]
    have rr1 : ∀ x, z_up I d 9 x (d + 3) = I (d + 3) := fun x => z_up_ne _ _ _ _ (by omega)
    refine v_iload_n (pc' := 21) dX5_readCommand_20 rfl rfl ?_
    refine v_lookup (tgt := 250) (off := 229) dX5_readCommand_21 rfl (by rw [nI_toInt (by omega)]; simp only [Array.toList, Op.lookupswitch.offset]; repeat' first | omega | split) (by decide) ?_
    refine v_aload_n (pc' := 251) dX5_readCommand_250 rfl rfl ?_
    refine v_iconst (pc' := 252) dX5_readCommand_251 kc_0 rfl ?_
    refine v_iconst (pc' := 253) dX5_readCommand_252 kc_2 rfl ?_
    refine v_iconst (pc' := 254) dX5_readCommand_253 kc_0 rfl ?_
    refine v_bipush (pc' := 256) dX5_readCommand_254 kb_11 rfl ?_
    refine v_cVI (pc' := 259) (m_figures2 hl k0 kT hT1 0 (by decide) 0 11 (k + 1) (by omega) (by omega) (by omega) sp1 rfl rfl rfl) dX5_readCommand_256 lk_X5_108 mwX5_figures miX5_figures k0 rfl rfl rfl rfl (by decide) (Nat.le_of_ble_eq_true rfl) rfl ?_
    rintro _ _ ⟨rfl, rfl⟩
    rw [hr1]
    simp only [up1]
    show z_V _ _ _ _ _ _ _ _ _ _ _ _ _ _ (.int (nI u) :: _)
    refine v_istore_n3 (pc' := 260) dX5_readCommand_259 (by decide) rfl rfl ?_
    refine v_iload_n (pc' := 261) dX5_readCommand_260 rfl rfl ?_
    refine v_iconst (pc' := 262) dX5_readCommand_261 kc_m1 rfl ?_
    refine v_icmp_eq (tgt := 289) (pc' := 265) dX5_readCommand_262 (by decide) rfl (fun c_262 => ?_) (fun c_262 => ?_)
    · exact absurd c_262 (nI_m1 (by omega))
    · skip
      have hh := hR.2.2.2.1 u (by omega)
      refine v_aload_n (pc' := 266) dX5_readCommand_265 rfl rfl ?_
      refine v_aload_n (pc' := 267) dX5_readCommand_266 rfl rfl ?_
      refine v_iload_n (pc' := 268) dX5_readCommand_267 rfl rfl ?_
      refine v_cSI (pc' := 271) (c5_mendOn hl kR u (by omega) rfl) dX5_readCommand_268 lk_X5_129 mwX5_mendOn msX5_mendOn rfl rfl (by decide) (Nat.le_of_ble_eq_true rfl) rfl ?_
      rintro _ _ ⟨rfl, rfl⟩
      rw [rr1]
      refine v_if_lt (tgt := 278) (pc' := 274) dX5_readCommand_271 (by decide) rfl (fun c_271 => ?_) (fun c_271 => ?_)
      · have : False := by
          rcases hh with q | q <;> (rw [q] at c_271; exact absurd c_271 (by decide))
        exact this.elim
      · refine v_iconst (pc' := 275) dX5_readCommand_274 kc_1 rfl ?_
        refine v_goto (tgt := 279) dX5_readCommand_275 (by decide) ?_
        first
          | (refine v_cVI (pc' := 282) (m_done hl k0 true) dX5_readCommand_279 lk_X5_115 mwX5_done miX5_done k0 rfl rfl rfl rfl (by decide) (Nat.le_of_ble_eq_true rfl) rfl ?_
             rintro _ _ ⟨rfl, rfl⟩
             refine v_if_eq (tgt := 289) (pc' := 285) dX5_readCommand_282 (by decide) rfl (fun c_282 => ?_) (fun c_282 => ?_)
             · exact absurd c_282 (by decide)
             · refine v_iconst (pc' := 286) dX5_readCommand_285 kc_1 rfl ?_
               refine v_goto (tgt := 290) dX5_readCommand_286 (by decide) ?_
               exact v_zret dX5_readCommand_290 rfl (Nat.le_refl _) (Nat.le_refl _) rfl ⟨_, rfl, rfl, rfl, rc_some hv rfl (by
                 have e10 : ∀ x, z_up I d 9 x d 10 = nI o := fun x => by rw [z_up_row, z_row_at, pk_un (by omega)]; exact ho
                 unfold rc_m
                 have hb : p_obeyb (I (d + 3)) (T k) u 0 = true := by rw [hc]; exact p_isStripe_of (by omega)
                 have hob : p_obey (I (d + 3)) (T k) u 0 = p_mend (I (d + 3)) u := by rw [hc]; exact (by show t_mend _ _ = _; rw [t_mend, if_pos (p_isStripe_of (by omega)), nI_clamp (by omega)])
                 simp only [hb, hob, if_true, rr1]
                 rw [z_row_ne _ _ _ (show d ≠ d + 3 by omega), e10, Int32.add_zero])⟩)
          | (refine v_cVI (pc' := 282) (m_done hl k0 false) dX5_readCommand_279 lk_X5_115 mwX5_done miX5_done k0 rfl rfl rfl rfl (by decide) (Nat.le_of_ble_eq_true rfl) rfl ?_
             rintro _ _ ⟨rfl, rfl⟩
             refine v_if_eq (tgt := 289) (pc' := 285) dX5_readCommand_282 (by decide) rfl (fun c_282 => ?_) (fun c_282 => ?_)
             · exact absurd c_282 (by decide)
             · refine v_iconst (pc' := 286) dX5_readCommand_285 kc_1 rfl ?_
               refine v_goto (tgt := 290) dX5_readCommand_286 (by decide) ?_
               exact v_zret dX5_readCommand_290 rfl (Nat.le_refl _) (Nat.le_refl _) rfl ⟨_, rfl, rfl, rfl, rc_some hv rfl (by
                 have e10 : ∀ x, z_up I d 9 x d 10 = nI o := fun x => by rw [z_up_row, z_row_at, pk_un (by omega)]; exact ho
                 unfold rc_m
                 skip)⟩)

set_option maxRecDepth 20000 in
set_option maxHeartbeats 4000000 in
theorem m_rc_s (hl : l.stackTraces = false) (k0 : (d, sMd d) ∈ G) (kT : (d + 1, sI E 0 120) ∈ G) (kR : (d + 3, sI E 0 65) ∈ G) (hT : MT I d T n) (hR : WF (I (d + 3))) (k o : Nat) (hk : k < n) (hsp : I d 9 = nI k) (ho : I d 10 = nI o) (hc : T k = 115) : z_CI E l mX5_readCommand 5 [.ref d, .ref (d + 3)] G I sz (rc_P I d T n k o) := by
  obtain ⟨tn, tl, tc⟩ := id hT
  obtain ⟨t1, t2⟩ := tc k hk
  have h6 := hR.1.1
  have ec : p_cmd T n k = p_onen T n 0 5 1 (k + 1) := by
    unfold p_cmd
    repeat' first | rfl | omega | split
  rcases hr1 : p_rn T n 0 5 1 0 (k + 1) with ⟨_ | u, k1⟩
  · have hv : p_cmd T n k = (none, k1) := by rw [ec, p_onen, hr1]
    refine z_Ct.of hl pn_X5 [some (.ref d), some (.ref (d + 3)), none, none, none] rfl (Nat.le_of_ble_eq_true rfl) ?_
    refine v_aload_n (pc' := 1) dX5_readCommand_0 rfl rfl ?_
    refine g_X5_7 (pc' := 4) rfl dX5_readCommand_1 (by assumption) rfl ?_
    refine v_aload_n (pc' := 5) dX5_readCommand_4 rfl rfl ?_
    refine g_X5_102 (pc' := 8) rfl dX5_readCommand_5 (by assumption) rfl ?_
    rw [hsp]
    refine v_iald (pc' := 9) dX5_readCommand_8 (k) rfl kT (by omega) (by decide) rfl ?_
    rw [t2]
    refine v_istore_n2 (pc' := 10) dX5_readCommand_9 (by decide) rfl rfl ?_
    refine v_aload_n (pc' := 11) dX5_readCommand_10 rfl rfl ?_
    refine v_dup (pc' := 12) dX5_readCommand_11 rfl rfl ?_
    refine g_X5_102 (pc' := 15) rfl dX5_readCommand_12 (by assumption) rfl ?_
    rw [hsp]
    refine v_iconst (pc' := 16) dX5_readCommand_15 kc_1 rfl ?_
    refine v_iadd (pc' := 17) dX5_readCommand_16 rfl ?_
    rw [nI_1]
    refine p_X5_102 (pc' := 20) rfl dX5_readCommand_17 (by assumption) rfl ?_
    generalize hI1 : z_up I d 9 (nI (k + 1)) = I1
    have hT1 : MT I1 d T n := by rw [← hI1]; exact hT.cg (by rw [z_up_row, z_row_at, pk_un (by omega)]) (z_up_ne _ _ _ _ (by omega))
    have sp1 : I1 d 9 = nI (k + 1) := by rw [← hI1, z_up_row, z_row_at, pk_us]
    have up1 : ∀ x, z_up I1 d 9 x = z_up I d 9 x := fun x => by rw [← hI1, z_up_up]
    have rr1 : ∀ x, z_up I d 9 x (d + 3) = I (d + 3) := fun x => z_up_ne _ _ _ _ (by omega)
    refine v_iload_n (pc' := 21) dX5_readCommand_20 rfl rfl ?_
    refine v_lookup (tgt := 291) (off := 270) dX5_readCommand_21 rfl (by rw [nI_toInt (by omega)]; simp only [Array.toList, Op.lookupswitch.offset]; repeat' first | omega | split) (by decide) ?_
    refine v_aload_n (pc' := 292) dX5_readCommand_291 rfl rfl ?_
    refine v_iconst (pc' := 293) dX5_readCommand_292 kc_0 rfl ?_
    refine v_iconst (pc' := 294) dX5_readCommand_293 kc_1 rfl ?_
    refine v_iconst (pc' := 295) dX5_readCommand_294 kc_0 rfl ?_
    refine v_iconst (pc' := 296) dX5_readCommand_295 kc_5 rfl ?_
    refine v_cVI (pc' := 299) (m_figures1 hl k0 kT hT1 0 (by decide) 0 5 (k + 1) (by omega) (by omega) (by omega) sp1 rfl rfl rfl) dX5_readCommand_296 lk_X5_108 mwX5_figures miX5_figures k0 rfl rfl rfl rfl (by decide) (Nat.le_of_ble_eq_true rfl) rfl ?_
    rintro _ _ ⟨rfl, rfl⟩
    rw [hr1]
    simp only [up1]
    refine v_istore_n3 (pc' := 300) dX5_readCommand_299 (by decide) rfl rfl ?_
    refine v_iload_n (pc' := 301) dX5_readCommand_300 rfl rfl ?_
    refine v_iconst (pc' := 302) dX5_readCommand_301 kc_m1 rfl ?_
    refine v_icmp_eq (tgt := 337) (pc' := 305) dX5_readCommand_302 (by decide) rfl (fun c_302 => ?_) (fun c_302 => ?_)
    · refine v_iconst (pc' := 338) dX5_readCommand_337 kc_0 rfl ?_
      exact v_zret dX5_readCommand_338 rfl (Nat.le_refl _) (Nat.le_refl _) rfl ⟨_, rfl, rfl, rfl, rc_none hv rfl rfl⟩
    · exact absurd rfl c_302
  · have hv : p_cmd T n k = (some (u, 0), k1) := by rw [ec, p_onen, hr1]
    have hu := p_rn_rng (T := T) (n := n) (lo := 0) (hi := 5) (x := u) 0 0 (k + 1) (by rw [hr1])
    refine z_Ct.of hl pn_X5 [some (.ref d), some (.ref (d + 3)), none, none, none] rfl (Nat.le_of_ble_eq_true rfl) ?_
    refine v_aload_n (pc' := 1) dX5_readCommand_0 rfl rfl ?_
    refine g_X5_7 (pc' := 4) rfl dX5_readCommand_1 (by assumption) rfl ?_
    refine v_aload_n (pc' := 5) dX5_readCommand_4 rfl rfl ?_
    refine g_X5_102 (pc' := 8) rfl dX5_readCommand_5 (by assumption) rfl ?_
    rw [hsp]
    refine v_iald (pc' := 9) dX5_readCommand_8 (k) rfl kT (by omega) (by decide) rfl ?_
    rw [t2]
    refine v_istore_n2 (pc' := 10) dX5_readCommand_9 (by decide) rfl rfl ?_
    refine v_aload_n (pc' := 11) dX5_readCommand_10 rfl rfl ?_
    refine v_dup (pc' := 12) dX5_readCommand_11 rfl rfl ?_
    refine g_X5_102 (pc' := 15) rfl dX5_readCommand_12 (by assumption) rfl ?_
    rw [hsp]
    refine v_iconst (pc' := 16) dX5_readCommand_15 kc_1 rfl ?_
    refine v_iadd (pc' := 17) dX5_readCommand_16 rfl ?_
    rw [nI_1]
    refine p_X5_102 (pc' := 20) rfl dX5_readCommand_17 (by assumption) rfl ?_
    generalize hI1 : z_up I d 9 (nI (k + 1)) = I1
    have hT1 : MT I1 d T n := by rw [← hI1]; exact hT.cg (by rw [z_up_row, z_row_at, pk_un (by omega)]) (z_up_ne _ _ _ _ (by omega))
    have sp1 : I1 d 9 = nI (k + 1) := by rw [← hI1, z_up_row, z_row_at, pk_us]
    have up1 : ∀ x, z_up I1 d 9 x = z_up I d 9 x := fun x => by rw [← hI1, z_up_up]
    have rr1 : ∀ x, z_up I d 9 x (d + 3) = I (d + 3) := fun x => z_up_ne _ _ _ _ (by omega)
    refine v_iload_n (pc' := 21) dX5_readCommand_20 rfl rfl ?_
    refine v_lookup (tgt := 291) (off := 270) dX5_readCommand_21 rfl (by rw [nI_toInt (by omega)]; simp only [Array.toList, Op.lookupswitch.offset]; repeat' first | omega | split) (by decide) ?_
    refine v_aload_n (pc' := 292) dX5_readCommand_291 rfl rfl ?_
    refine v_iconst (pc' := 293) dX5_readCommand_292 kc_0 rfl ?_
    refine v_iconst (pc' := 294) dX5_readCommand_293 kc_1 rfl ?_
    refine v_iconst (pc' := 295) dX5_readCommand_294 kc_0 rfl ?_
    refine v_iconst (pc' := 296) dX5_readCommand_295 kc_5 rfl ?_
    refine v_cVI (pc' := 299) (m_figures1 hl k0 kT hT1 0 (by decide) 0 5 (k + 1) (by omega) (by omega) (by omega) sp1 rfl rfl rfl) dX5_readCommand_296 lk_X5_108 mwX5_figures miX5_figures k0 rfl rfl rfl rfl (by decide) (Nat.le_of_ble_eq_true rfl) rfl ?_
    rintro _ _ ⟨rfl, rfl⟩
    rw [hr1]
    simp only [up1]
    show z_V _ _ _ _ _ _ _ _ _ _ _ _ _ _ (.int (nI u) :: _)
    refine v_istore_n3 (pc' := 300) dX5_readCommand_299 (by decide) rfl rfl ?_
    refine v_iload_n (pc' := 301) dX5_readCommand_300 rfl rfl ?_
    refine v_iconst (pc' := 302) dX5_readCommand_301 kc_m1 rfl ?_
    refine v_icmp_eq (tgt := 337) (pc' := 305) dX5_readCommand_302 (by decide) rfl (fun c_302 => ?_) (fun c_302 => ?_)
    · exact absurd c_302 (nI_m1 (by omega))
    · skip
      refine v_aload_n (pc' := 306) dX5_readCommand_305 rfl rfl ?_
      refine v_aload_n (pc' := 307) dX5_readCommand_306 rfl rfl ?_
      refine v_iload_n (pc' := 308) dX5_readCommand_307 rfl rfl ?_
      refine v_cSR (pc' := 311) (c5_canStop hl kR (by rw [rr1]; exact hR) (nI u)) dX5_readCommand_308 lk_X5_132 mwX5_canStop msX5_canStop rfl rfl (by decide) (Nat.le_of_ble_eq_true rfl) rfl ?_
      rw [rr1]
      refine v_if_eq (tgt := 326) (pc' := 314) dX5_readCommand_311 (by decide) rfl (fun c_311 => ?_) (fun c_311 => ?_)
      · first | rw [z_b_ne0] at c_311 | rw [z_b_eq0] at c_311
        refine v_iconst (pc' := 327) dX5_readCommand_326 kc_0 rfl ?_
        first
          | (refine v_cVI (pc' := 330) (m_done hl k0 true) dX5_readCommand_327 lk_X5_115 mwX5_done miX5_done k0 rfl rfl rfl rfl (by decide) (Nat.le_of_ble_eq_true rfl) rfl ?_
             rintro _ _ ⟨rfl, rfl⟩
             refine v_if_eq (tgt := 337) (pc' := 333) dX5_readCommand_330 (by decide) rfl (fun c_330 => ?_) (fun c_330 => ?_)
             · exact absurd c_330 (by decide)
             · refine v_iconst (pc' := 334) dX5_readCommand_333 kc_1 rfl ?_
               refine v_goto (tgt := 338) dX5_readCommand_334 (by decide) ?_
               exact v_zret dX5_readCommand_338 rfl (Nat.le_refl _) (Nat.le_refl _) rfl ⟨_, rfl, rfl, rfl, rc_some hv rfl (by
                 have e10 : ∀ x, z_up I d 9 x d 10 = nI o := fun x => by rw [z_up_row, z_row_at, pk_un (by omega)]; exact ho
                 unfold rc_m
                 have hb : p_obeyb (I (d + 3)) (T k) u 0 = true := by rw [hc]; exact c_311
                 have hob : p_obey (I (d + 3)) (T k) u 0 = p_stop (I (d + 3)) u := by rw [hc]; exact (by show t_stop _ _ = _; rw [t_stop, if_pos c_311, nI_clamp (by omega)])
                 simp only [hb, hob, if_true, rr1]
                 rw [z_row_ne _ _ _ (show d ≠ d + 3 by omega), e10, Int32.add_zero])⟩)
          | (refine v_cVI (pc' := 330) (m_done hl k0 false) dX5_readCommand_327 lk_X5_115 mwX5_done miX5_done k0 rfl rfl rfl rfl (by decide) (Nat.le_of_ble_eq_true rfl) rfl ?_
             rintro _ _ ⟨rfl, rfl⟩
             refine v_if_eq (tgt := 337) (pc' := 333) dX5_readCommand_330 (by decide) rfl (fun c_330 => ?_) (fun c_330 => ?_)
             · exact absurd c_330 (by decide)
             · refine v_iconst (pc' := 334) dX5_readCommand_333 kc_1 rfl ?_
               refine v_goto (tgt := 338) dX5_readCommand_334 (by decide) ?_
               exact v_zret dX5_readCommand_338 rfl (Nat.le_refl _) (Nat.le_refl _) rfl ⟨_, rfl, rfl, rfl, rc_some hv rfl (by
                 have e10 : ∀ x, z_up I d 9 x d 10 = nI o := fun x => by rw [z_up_row, z_row_at, pk_un (by omega)]; exact ho
                 unfold rc_m
                 have hb : p_obeyb (I (d + 3)) (T k) u 0 = false := by rw [hc]; exact c_311
                 have hob : p_obey (I (d + 3)) (T k) u 0 = I (d + 3) := by rw [hc]; exact (by show t_stop _ _ = _; rw [t_stop, if_neg (by rw [c_311]; decide)])
                 simp only [hb, hob, Bool.false_eq_true, if_false]
                 rw [e10, nI_1, ← rr1 (nI k1), z_row_self])⟩)
      · first | rw [z_b_ne0] at c_311 | rw [z_b_eq0] at c_311
        obtain ⟨u9, hu9, hu6, e9, -, -⟩ := p_cans_nI hR c_311
        have e9 := (nI_eq (by omega) (by omega)).mp e9
        have hh := (hR.2.1 u9 hu9).2.1
        rw [← e9] at hh
        refine v_aload_n (pc' := 315) dX5_readCommand_314 rfl rfl ?_
        refine v_iload_n (pc' := 316) dX5_readCommand_315 rfl rfl ?_
        refine v_cSI (pc' := 319) (c5_stopOn hl kR u (by omega) rfl) dX5_readCommand_316 lk_X5_135 mwX5_stopOn msX5_stopOn rfl rfl (by decide) (Nat.le_of_ble_eq_true rfl) rfl ?_
        rintro _ _ ⟨rfl, rfl⟩
        rw [rr1]
        refine v_if_lt (tgt := 326) (pc' := 322) dX5_readCommand_319 (by decide) rfl (fun c_319 => ?_) (fun c_319 => ?_)
        · have : False := by
            rw [Int32.lt_iff_toInt_lt, i_0] at c_319
            unfold tI at hh
            omega
          exact this.elim
        · refine v_iconst (pc' := 323) dX5_readCommand_322 kc_1 rfl ?_
          refine v_goto (tgt := 327) dX5_readCommand_323 (by decide) ?_
          first
            | (refine v_cVI (pc' := 330) (m_done hl k0 true) dX5_readCommand_327 lk_X5_115 mwX5_done miX5_done k0 rfl rfl rfl rfl (by decide) (Nat.le_of_ble_eq_true rfl) rfl ?_
               rintro _ _ ⟨rfl, rfl⟩
               refine v_if_eq (tgt := 337) (pc' := 333) dX5_readCommand_330 (by decide) rfl (fun c_330 => ?_) (fun c_330 => ?_)
               · exact absurd c_330 (by decide)
               · refine v_iconst (pc' := 334) dX5_readCommand_333 kc_1 rfl ?_
                 refine v_goto (tgt := 338) dX5_readCommand_334 (by decide) ?_
                 exact v_zret dX5_readCommand_338 rfl (Nat.le_refl _) (Nat.le_refl _) rfl ⟨_, rfl, rfl, rfl, rc_some hv rfl (by
                   have e10 : ∀ x, z_up I d 9 x d 10 = nI o := fun x => by rw [z_up_row, z_row_at, pk_un (by omega)]; exact ho
                   unfold rc_m
                   have hb : p_obeyb (I (d + 3)) (T k) u 0 = true := by rw [hc]; exact c_311
                   have hob : p_obey (I (d + 3)) (T k) u 0 = p_stop (I (d + 3)) u := by rw [hc]; exact (by show t_stop _ _ = _; rw [t_stop, if_pos c_311, nI_clamp (by omega)])
                   simp only [hb, hob, if_true, rr1]
                   rw [z_row_ne _ _ _ (show d ≠ d + 3 by omega), e10, Int32.add_zero])⟩)
            | (refine v_cVI (pc' := 330) (m_done hl k0 false) dX5_readCommand_327 lk_X5_115 mwX5_done miX5_done k0 rfl rfl rfl rfl (by decide) (Nat.le_of_ble_eq_true rfl) rfl ?_
               rintro _ _ ⟨rfl, rfl⟩
               refine v_if_eq (tgt := 337) (pc' := 333) dX5_readCommand_330 (by decide) rfl (fun c_330 => ?_) (fun c_330 => ?_)
               · exact absurd c_330 (by decide)
               · refine v_iconst (pc' := 334) dX5_readCommand_333 kc_1 rfl ?_
                 refine v_goto (tgt := 338) dX5_readCommand_334 (by decide) ?_
                 exact v_zret dX5_readCommand_338 rfl (Nat.le_refl _) (Nat.le_refl _) rfl ⟨_, rfl, rfl, rfl, rc_some hv rfl (by
                   have e10 : ∀ x, z_up I d 9 x d 10 = nI o := fun x => by rw [z_up_row, z_row_at, pk_un (by omega)]; exact ho
                   unfold rc_m
                   have hb : p_obeyb (I (d + 3)) (T k) u 0 = false := by rw [hc]; exact c_311
                   have hob : p_obey (I (d + 3)) (T k) u 0 = I (d + 3) := by rw [hc]; exact (by show t_stop _ _ = _; rw [t_stop, if_neg (by rw [c_311]; decide)])
                   simp only [hb, hob, Bool.false_eq_true, if_false]
                   rw [e10, nI_1, ← rr1 (nI k1), z_row_self])⟩)

set_option maxRecDepth 20000 in
set_option maxHeartbeats 4000000 in
theorem m_rc_w (hl : l.stackTraces = false) (k0 : (d, sMd d) ∈ G) (kT : (d + 1, sI E 0 120) ∈ G) (kR : (d + 3, sI E 0 65) ∈ G) (hT : MT I d T n) (hR : WF (I (d + 3))) (k o : Nat) (hk : k < n) (hsp : I d 9 = nI k) (ho : I d 10 = nI o) (hc : T k = 119) : z_CI E l mX5_readCommand 5 [.ref d, .ref (d + 3)] G I sz (rc_P I d T n k o) := by
  obtain ⟨tn, tl, tc⟩ := id hT
  obtain ⟨t1, t2⟩ := tc k hk
  have h6 := hR.1.1
  have ec : p_cmd T n k = p_onen T n 1 60 2 (k + 1) := by
    unfold p_cmd
    repeat' first | rfl | omega | split
  rcases hr1 : p_rn T n 1 60 2 0 (k + 1) with ⟨_ | u, k1⟩
  · have hv : p_cmd T n k = (none, k1) := by rw [ec, p_onen, hr1]
    refine z_Ct.of hl pn_X5 [some (.ref d), some (.ref (d + 3)), none, none, none] rfl (Nat.le_of_ble_eq_true rfl) ?_
    refine v_aload_n (pc' := 1) dX5_readCommand_0 rfl rfl ?_
    refine g_X5_7 (pc' := 4) rfl dX5_readCommand_1 (by assumption) rfl ?_
    refine v_aload_n (pc' := 5) dX5_readCommand_4 rfl rfl ?_
    refine g_X5_102 (pc' := 8) rfl dX5_readCommand_5 (by assumption) rfl ?_
    rw [hsp]
    refine v_iald (pc' := 9) dX5_readCommand_8 (k) rfl kT (by omega) (by decide) rfl ?_
    rw [t2]
    refine v_istore_n2 (pc' := 10) dX5_readCommand_9 (by decide) rfl rfl ?_
    refine v_aload_n (pc' := 11) dX5_readCommand_10 rfl rfl ?_
    refine v_dup (pc' := 12) dX5_readCommand_11 rfl rfl ?_
    refine g_X5_102 (pc' := 15) rfl dX5_readCommand_12 (by assumption) rfl ?_
    rw [hsp]
    refine v_iconst (pc' := 16) dX5_readCommand_15 kc_1 rfl ?_
    refine v_iadd (pc' := 17) dX5_readCommand_16 rfl ?_
    rw [nI_1]
    refine p_X5_102 (pc' := 20) rfl dX5_readCommand_17 (by assumption) rfl ?_
    generalize hI1 : z_up I d 9 (nI (k + 1)) = I1
    have hT1 : MT I1 d T n := by rw [← hI1]; exact hT.cg (by rw [z_up_row, z_row_at, pk_un (by omega)]) (z_up_ne _ _ _ _ (by omega))
    have sp1 : I1 d 9 = nI (k + 1) := by rw [← hI1, z_up_row, z_row_at, pk_us]
    have up1 : ∀ x, z_up I1 d 9 x = z_up I d 9 x := fun x => by rw [← hI1, z_up_up]
    have rr1 : ∀ x, z_up I d 9 x (d + 3) = I (d + 3) := fun x => z_up_ne _ _ _ _ (by omega)
    refine v_iload_n (pc' := 21) dX5_readCommand_20 rfl rfl ?_
    refine v_lookup (tgt := 339) (off := 318) dX5_readCommand_21 rfl (by rw [nI_toInt (by omega)]; simp only [Array.toList, Op.lookupswitch.offset]; repeat' first | omega | split) (by decide) ?_
    refine v_aload_n (pc' := 340) dX5_readCommand_339 rfl rfl ?_
    refine v_iconst (pc' := 341) dX5_readCommand_340 kc_0 rfl ?_
    refine v_iconst (pc' := 342) dX5_readCommand_341 kc_2 rfl ?_
    refine v_iconst (pc' := 343) dX5_readCommand_342 kc_1 rfl ?_
    refine v_bipush (pc' := 345) dX5_readCommand_343 kb_60 rfl ?_
    refine v_cVI (pc' := 348) (m_figures2 hl k0 kT hT1 0 (by decide) 1 60 (k + 1) (by omega) (by omega) (by omega) sp1 rfl rfl rfl) dX5_readCommand_345 lk_X5_108 mwX5_figures miX5_figures k0 rfl rfl rfl rfl (by decide) (Nat.le_of_ble_eq_true rfl) rfl ?_
    rintro _ _ ⟨rfl, rfl⟩
    rw [hr1]
    simp only [up1]
    refine v_istore_n3 (pc' := 349) dX5_readCommand_348 (by decide) rfl rfl ?_
    refine v_iload_n (pc' := 350) dX5_readCommand_349 rfl rfl ?_
    refine v_iconst (pc' := 351) dX5_readCommand_350 kc_m1 rfl ?_
    refine v_icmp_eq (tgt := 378) (pc' := 354) dX5_readCommand_351 (by decide) rfl (fun c_351 => ?_) (fun c_351 => ?_)
    · refine v_iconst (pc' := 379) dX5_readCommand_378 kc_0 rfl ?_
      exact v_zret dX5_readCommand_379 rfl (Nat.le_refl _) (Nat.le_refl _) rfl ⟨_, rfl, rfl, rfl, rc_none hv rfl rfl⟩
    · exact absurd rfl c_351
  · have hv : p_cmd T n k = (some (u, 0), k1) := by rw [ec, p_onen, hr1]
    have hu := p_rn_rng (T := T) (n := n) (lo := 1) (hi := 60) (x := u) 1 0 (k + 1) (by rw [hr1])
    refine z_Ct.of hl pn_X5 [some (.ref d), some (.ref (d + 3)), none, none, none] rfl (Nat.le_of_ble_eq_true rfl) ?_
    refine v_aload_n (pc' := 1) dX5_readCommand_0 rfl rfl ?_
    refine g_X5_7 (pc' := 4) rfl dX5_readCommand_1 (by assumption) rfl ?_
    refine v_aload_n (pc' := 5) dX5_readCommand_4 rfl rfl ?_
    refine g_X5_102 (pc' := 8) rfl dX5_readCommand_5 (by assumption) rfl ?_
    rw [hsp]
    refine v_iald (pc' := 9) dX5_readCommand_8 (k) rfl kT (by omega) (by decide) rfl ?_
    rw [t2]
    refine v_istore_n2 (pc' := 10) dX5_readCommand_9 (by decide) rfl rfl ?_
    refine v_aload_n (pc' := 11) dX5_readCommand_10 rfl rfl ?_
    refine v_dup (pc' := 12) dX5_readCommand_11 rfl rfl ?_
    refine g_X5_102 (pc' := 15) rfl dX5_readCommand_12 (by assumption) rfl ?_
    rw [hsp]
    refine v_iconst (pc' := 16) dX5_readCommand_15 kc_1 rfl ?_
    refine v_iadd (pc' := 17) dX5_readCommand_16 rfl ?_
    rw [nI_1]
    refine p_X5_102 (pc' := 20) rfl dX5_readCommand_17 (by assumption) rfl ?_
    generalize hI1 : z_up I d 9 (nI (k + 1)) = I1
    have hT1 : MT I1 d T n := by rw [← hI1]; exact hT.cg (by rw [z_up_row, z_row_at, pk_un (by omega)]) (z_up_ne _ _ _ _ (by omega))
    have sp1 : I1 d 9 = nI (k + 1) := by rw [← hI1, z_up_row, z_row_at, pk_us]
    have up1 : ∀ x, z_up I1 d 9 x = z_up I d 9 x := fun x => by rw [← hI1, z_up_up]
    have rr1 : ∀ x, z_up I d 9 x (d + 3) = I (d + 3) := fun x => z_up_ne _ _ _ _ (by omega)
    refine v_iload_n (pc' := 21) dX5_readCommand_20 rfl rfl ?_
    refine v_lookup (tgt := 339) (off := 318) dX5_readCommand_21 rfl (by rw [nI_toInt (by omega)]; simp only [Array.toList, Op.lookupswitch.offset]; repeat' first | omega | split) (by decide) ?_
    refine v_aload_n (pc' := 340) dX5_readCommand_339 rfl rfl ?_
    refine v_iconst (pc' := 341) dX5_readCommand_340 kc_0 rfl ?_
    refine v_iconst (pc' := 342) dX5_readCommand_341 kc_2 rfl ?_
    refine v_iconst (pc' := 343) dX5_readCommand_342 kc_1 rfl ?_
    refine v_bipush (pc' := 345) dX5_readCommand_343 kb_60 rfl ?_
    refine v_cVI (pc' := 348) (m_figures2 hl k0 kT hT1 0 (by decide) 1 60 (k + 1) (by omega) (by omega) (by omega) sp1 rfl rfl rfl) dX5_readCommand_345 lk_X5_108 mwX5_figures miX5_figures k0 rfl rfl rfl rfl (by decide) (Nat.le_of_ble_eq_true rfl) rfl ?_
    rintro _ _ ⟨rfl, rfl⟩
    rw [hr1]
    simp only [up1]
    show z_V _ _ _ _ _ _ _ _ _ _ _ _ _ _ (.int (nI u) :: _)
    refine v_istore_n3 (pc' := 349) dX5_readCommand_348 (by decide) rfl rfl ?_
    refine v_iload_n (pc' := 350) dX5_readCommand_349 rfl rfl ?_
    refine v_iconst (pc' := 351) dX5_readCommand_350 kc_m1 rfl ?_
    refine v_icmp_eq (tgt := 378) (pc' := 354) dX5_readCommand_351 (by decide) rfl (fun c_351 => ?_) (fun c_351 => ?_)
    · exact absurd c_351 (nI_m1 (by omega))
    · skip
      obtain ⟨w9, hw9, ew9⟩ := run_val (n := u) hR
      have z9 : z_in (nI u) 1 60 = true := z_in_of (lo := 1) (hi := 60) (by omega) (by omega) (by omega)
      refine v_aload_n (pc' := 355) dX5_readCommand_354 rfl rfl ?_
      refine v_aload_n (pc' := 356) dX5_readCommand_355 rfl rfl ?_
      refine v_iload_n (pc' := 357) dX5_readCommand_356 rfl rfl ?_
      refine v_cSI (pc' := 360) (c5_runOn hl kR (by rw [rr1]; exact hR) u (by omega) rfl) dX5_readCommand_357 lk_X5_138 mwX5_runOn msX5_runOn rfl rfl (by decide) (Nat.le_of_ble_eq_true rfl) rfl ?_
      rintro _ _ ⟨rfl, rfl⟩
      rw [rr1, ew9]
      refine v_if_lt (tgt := 367) (pc' := 363) dX5_readCommand_360 (by decide) rfl (fun c_360 => ?_) (fun c_360 => ?_)
      · exact absurd c_360 (nI_pos (by omega))
      · refine v_iconst (pc' := 364) dX5_readCommand_363 kc_1 rfl ?_
        refine v_goto (tgt := 368) dX5_readCommand_364 (by decide) ?_
        first
          | (refine v_cVI (pc' := 371) (m_done hl k0 true) dX5_readCommand_368 lk_X5_115 mwX5_done miX5_done k0 rfl rfl rfl rfl (by decide) (Nat.le_of_ble_eq_true rfl) rfl ?_
             rintro _ _ ⟨rfl, rfl⟩
             refine v_if_eq (tgt := 378) (pc' := 374) dX5_readCommand_371 (by decide) rfl (fun c_371 => ?_) (fun c_371 => ?_)
             · exact absurd c_371 (by decide)
             · refine v_iconst (pc' := 375) dX5_readCommand_374 kc_1 rfl ?_
               refine v_goto (tgt := 379) dX5_readCommand_375 (by decide) ?_
               exact v_zret dX5_readCommand_379 rfl (Nat.le_refl _) (Nat.le_refl _) rfl ⟨_, rfl, rfl, rfl, rc_some hv rfl (by
                 have e10 : ∀ x, z_up I d 9 x d 10 = nI o := fun x => by rw [z_up_row, z_row_at, pk_un (by omega)]; exact ho
                 unfold rc_m
                 have hb : p_obeyb (I (d + 3)) (T k) u 0 = true := by rw [hc]; exact z9
                 have hob : p_obey (I (d + 3)) (T k) u 0 = p_run u (I (d + 3)) := by rw [hc]; exact (by show t_run _ _ = _; rw [t_run, if_pos z9, nI_clamp (by omega)])
                 simp only [hb, hob, if_true, rr1]
                 rw [z_row_ne _ _ _ (show d ≠ d + 3 by omega), e10, Int32.add_zero])⟩)
          | (refine v_cVI (pc' := 371) (m_done hl k0 false) dX5_readCommand_368 lk_X5_115 mwX5_done miX5_done k0 rfl rfl rfl rfl (by decide) (Nat.le_of_ble_eq_true rfl) rfl ?_
             rintro _ _ ⟨rfl, rfl⟩
             refine v_if_eq (tgt := 378) (pc' := 374) dX5_readCommand_371 (by decide) rfl (fun c_371 => ?_) (fun c_371 => ?_)
             · exact absurd c_371 (by decide)
             · refine v_iconst (pc' := 375) dX5_readCommand_374 kc_1 rfl ?_
               refine v_goto (tgt := 379) dX5_readCommand_375 (by decide) ?_
               exact v_zret dX5_readCommand_379 rfl (Nat.le_refl _) (Nat.le_refl _) rfl ⟨_, rfl, rfl, rfl, rc_some hv rfl (by
                 have e10 : ∀ x, z_up I d 9 x d 10 = nI o := fun x => by rw [z_up_row, z_row_at, pk_un (by omega)]; exact ho
                 unfold rc_m
                 skip)⟩)

set_option maxRecDepth 20000 in
set_option maxHeartbeats 4000000 in
theorem m_rc_x (hl : l.stackTraces = false) (k0 : (d, sMd d) ∈ G) (kT : (d + 1, sI E 0 120) ∈ G) (kR : (d + 3, sI E 0 65) ∈ G) (hT : MT I d T n) (hR : WF (I (d + 3))) (k o : Nat) (hk : k < n) (hsp : I d 9 = nI k) (ho : I d 10 = nI o) (hc : ¬ T k = 116 ∧ ¬ T k = 108 ∧ ¬ T k = 98 ∧ ¬ T k = 103 ∧ ¬ T k = 115 ∧ ¬ T k = 119) : z_CI E l mX5_readCommand 5 [.ref d, .ref (d + 3)] G I sz (rc_P I d T n k o) := by
  obtain ⟨tn, tl, tc⟩ := id hT
  obtain ⟨t1, t2⟩ := tc k hk
  have hv : p_cmd T n k = (none, k) := by
    unfold p_cmd
    repeat' first | rfl | omega | split
  refine z_Ct.of hl pn_X5 [some (.ref d), some (.ref (d + 3)), none, none, none] rfl (Nat.le_of_ble_eq_true rfl) ?_
  refine v_aload_n (pc' := 1) dX5_readCommand_0 rfl rfl ?_
  refine g_X5_7 (pc' := 4) rfl dX5_readCommand_1 (by assumption) rfl ?_
  refine v_aload_n (pc' := 5) dX5_readCommand_4 rfl rfl ?_
  refine g_X5_102 (pc' := 8) rfl dX5_readCommand_5 (by assumption) rfl ?_
  rw [hsp]
  refine v_iald (pc' := 9) dX5_readCommand_8 (k) rfl kT (by omega) (by decide) rfl ?_
  rw [t2]
  refine v_istore_n2 (pc' := 10) dX5_readCommand_9 (by decide) rfl rfl ?_
  refine v_aload_n (pc' := 11) dX5_readCommand_10 rfl rfl ?_
  refine v_dup (pc' := 12) dX5_readCommand_11 rfl rfl ?_
  refine g_X5_102 (pc' := 15) rfl dX5_readCommand_12 (by assumption) rfl ?_
  rw [hsp]
  refine v_iconst (pc' := 16) dX5_readCommand_15 kc_1 rfl ?_
  refine v_iadd (pc' := 17) dX5_readCommand_16 rfl ?_
  rw [nI_1]
  refine p_X5_102 (pc' := 20) rfl dX5_readCommand_17 (by assumption) rfl ?_
  generalize hI1 : z_up I d 9 (nI (k + 1)) = I1
  have hT1 : MT I1 d T n := by rw [← hI1]; exact hT.cg (by rw [z_up_row, z_row_at, pk_un (by omega)]) (z_up_ne _ _ _ _ (by omega))
  have sp1 : I1 d 9 = nI (k + 1) := by rw [← hI1, z_up_row, z_row_at, pk_us]
  have up1 : ∀ x, z_up I1 d 9 x = z_up I d 9 x := fun x => by rw [← hI1, z_up_up]
  have rr1 : ∀ x, z_up I d 9 x (d + 3) = I (d + 3) := fun x => z_up_ne _ _ _ _ (by omega)
  refine v_iload_n (pc' := 21) dX5_readCommand_20 rfl rfl ?_
  refine v_lookup (tgt := 380) (off := 359) dX5_readCommand_21 rfl (by rw [nI_toInt (by omega)]; simp only [Array.toList, Op.lookupswitch.offset]; repeat' first | omega | split) (by decide) ?_
  refine v_aload_n (pc' := 381) dX5_readCommand_380 rfl rfl ?_
  refine v_dup (pc' := 382) dX5_readCommand_381 rfl rfl ?_
  refine g_X5_102 (pc' := 385) rfl dX5_readCommand_382 (by assumption) rfl ?_
  rw [sp1]
  refine v_iconst (pc' := 386) dX5_readCommand_385 kc_1 rfl ?_
  refine v_isub (pc' := 387) dX5_readCommand_386 rfl ?_
  rw [show (nI (k + 1) - 1 : Int32) = nI k from nI_pred k]
  refine p_X5_102 (pc' := 390) rfl dX5_readCommand_387 (by assumption) rfl ?_
  refine v_iconst (pc' := 391) dX5_readCommand_390 kc_0 rfl ?_
  exact v_zret dX5_readCommand_391 rfl (Nat.le_refl _) (Nat.le_refl _) rfl ⟨_, rfl, rfl, rfl, rc_none hv rfl (up1 _)⟩
end MOD9
