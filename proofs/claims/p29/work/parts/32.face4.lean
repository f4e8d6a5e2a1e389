/-! THE CLASS's load (written by wip/whole/gen_face4.py) -/
section FACE4
variable {E : zE} {l : Launch} {G : zG} {I : zI} {sz c : Nat} {S : zS}
set_option maxRecDepth 20000 in
set_option maxHeartbeats 4000000 in
theorem k_loadL (hl : l.stackTraces = false) (hK : ShK E G c) (hA : AbsK I c S) (T : Nat → Nat) (n : Nat) (hT : S.2.2.1 = (T, n)) (hk0 : ex [nISE] (e_load S) = none) : ∀ (f i k o : Nat) (r1 : zR) (I1 : zI), 120 = i + f → AbsK I1 c (r1, (0, S.2.1.2), S.2.2.1, (S.2.2.2.1, fun _ => false)) → FrK I I1 c → I1 (c + 1) 2 = nI k → I1 (c + 1) 3 = 0 → k ≤ n → p_err T n f k = none → o ≤ i → p_rd T n f k r1 o = p_rd S.2.2.1.1 S.2.2.1.2 120 1 p_new 0 → z_V E l mX4_load (z_rm 8 1 6) 1 6 (z_fq G sz (ex [nISE] (e_load S)) (fun y9 I' => y9 = v_load S ∧ AbsK I' c (s_load S) ∧ FrK I I' c) (fun I' => AbsK I' c S ∧ FrK I I' c)) 0 0 G I1 sz 64 [some (.ref c), some (.int (nI o)), some (.int (nI i))] [] := by
  obtain ⟨k0, kT, kN, kTr, kH, kSl, kF, kS⟩ := id hK
  obtain ⟨aX, aN, aW, aH, aF, aS⟩ := id hA
  intro f
  induction f with
  | zero =>
    intro i k o r1 I1 hi hA1 hF1 hat1 hw1 hk he ho hp
    refine v_iload_n (pc' := 65) dX4_load_64 rfl rfl ?_
    refine v_bipush (pc' := 67) dX4_load_65 kb_120 rfl ?_
    refine v_icmp_ge (tgt := 120) (pc' := 70) dX4_load_67 (by decide) rfl (fun c_67 => ?_) (fun c_67 => ?_)
    · refine v_iload_n (pc' := 121) dX4_load_120 rfl rfl ?_
      exact v_iret dX4_load_121 rfl (by decide) (by decide) ⟨rfl, Nat.le_refl _, hk0, _, rfl, by rw [v_load, ← hp]; rfl, by rw [s_load, ← hp]; exact hA1, hF1⟩
    · exact absurd (nI_le (a := 120) (by omega) (by omega)) c_67
  | succ f ih =>
    intro i k o r1 I1 hi hA1 hF1 hat1 hw1 hk he ho hp
    have aX1 : AbsX I1 (c + 1) T n := by have := hA1.1; rw [hT] at this; exact this
    by_cases hk2 : k < n
    · obtain ⟨w, hs⟩ : ∃ w, (p_cmd T n k).1 = some w := by
        rw [p_err, if_pos hk2] at he
        cases h9 : (p_cmd T n k).1 with
        | some w => exact ⟨w, rfl⟩
        | none => rw [h9] at he; cases he
      refine v_iload_n (pc' := 65) dX4_load_64 rfl rfl ?_
      refine v_bipush (pc' := 67) dX4_load_65 kb_120 rfl ?_
      refine v_icmp_ge (tgt := 120) (pc' := 70) dX4_load_67 (by decide) rfl (fun c_67 => ?_) (fun c_67 => ?_)
      · exact absurd c_67 (nI_ge (b := 120) (by omega) (by omega))
      · refine v_aload_n (pc' := 71) dX4_load_70 rfl rfl ?_
        refine g_X4_10 (pc' := 74) rfl dX4_load_71 (by assumption) rfl ?_
        refine v_cVI (pc' := 77) (c3_readCommand hl kT aX1 hw1 k hk2 hat1) dX4_load_74 lk_X4_75 mwX3_readCommand miX3_readCommand kT.1 rfl rfl rfl rfl (by decide) (Nat.le_of_ble_eq_true rfl) rfl ?_
        rintro _ I2 ⟨hF2, at2, w2, rfl, hcm⟩
        rw [hs] at w2 ⊢
        obtain ⟨l4, l5, l6⟩ := hcm w.1 w.2 hs
        have hA2 : AbsK I2 c (r1, (0, S.2.1.2), S.2.2.1, (S.2.2.2.1, fun _ => false)) := hA1.text (show AbsX I2 (c + 1) S.2.2.1.1 S.2.2.1.2 by rw [hT]; exact aX1.fr hF2) (fun q h1 h2 => hF2.1 q h1)
        obtain ⟨bX, bN, bW, bH, bF, bS⟩ := id hA2
        obtain ⟨hlt, h116, -⟩ := p_cmd_rng hs
        refine v_if_eq (tgt := 120) (pc' := 80) dX4_load_77 (by decide) rfl (fun c_77 => ?_) (fun c_77 => ?_)
        · exact absurd c_77 (show ¬ z_b true = 0 by decide)
        · refine v_aload_n (pc' := 81) dX4_load_80 rfl rfl ?_
          refine g_X4_19 (pc' := 84) rfl dX4_load_81 (by assumption) rfl ?_
          refine v_aload_n (pc' := 85) dX4_load_84 rfl rfl ?_
          refine g_X4_10 (pc' := 88) rfl dX4_load_85 (by assumption) rfl ?_
          refine g_X4_78 (pc' := 91) rfl dX4_load_88 kT.1 rfl ?_
          rw [l4]
          refine v_aload_n (pc' := 92) dX4_load_91 rfl rfl ?_
          refine g_X4_10 (pc' := 95) rfl dX4_load_92 (by assumption) rfl ?_
          refine g_X4_82 (pc' := 98) rfl dX4_load_95 kT.1 rfl ?_
          rw [l5]
          refine v_aload_n (pc' := 99) dX4_load_98 rfl rfl ?_
          refine g_X4_10 (pc' := 102) rfl dX4_load_99 (by assumption) rfl ?_
          refine g_X4_85 (pc' := 105) rfl dX4_load_102 kT.1 rfl ?_
          refine v_cSI (pc' := 108) (c4_obey hl kN bN bW (T k) w.1 w.2 _ l6 hlt) dX4_load_105 lk_X4_88 mwX4_obeyTextCommand msX4_obeyTextCommand rfl rfl (by decide) (Nat.le_of_ble_eq_true rfl) rfl ?_
          rintro _ I3 ⟨rfl, hA3, hF3⟩
          have hA4 := hA2.now hA3 (WF_obey bW h116) hF3
          have e2 : I3 (c + 1) 2 = nI (p_cmd T n k).2 := by rw [hF3 (c + 1) (by omega)]; exact at2
          have e3 : I3 (c + 1) 3 = 0 := by rw [hF3 (c + 1) (by omega)]; exact w2
          have hF4 : FrK I I3 c := (hF1.tr (FrK.tx hF2)).tr (FrK.fr hF3 (by omega))
          refine v_if_ne (tgt := 114) (pc' := 111) dX4_load_108 (by decide) rfl (fun c_108 => ?_) (fun c_108 => ?_)
          · first | rw [z_b_ne0] at c_108 | rw [z_b_eq0] at c_108
            refine v_iinc2 (pc' := 117) dX4_load_114 (by decide) rfl kc_1 (nI_1 i) rfl ?_
            refine v_goto (tgt := 64) dX4_load_117 (by decide) ?_
            refine ih (i + 1) _ _ _ I3 (by omega) hA4 hF4 e2 e3 (p_cmd_le hk2).2.1 ?_ ?_ ?_
            · rw [p_err, if_pos hk2, if_pos (by rw [hs]; rfl)] at he
              exact he
            · omega
            · rw [← hp, p_rd, if_pos hk2]
              simp only [hs]
              rw [c_108]
              rfl
          · first | rw [z_b_ne0] at c_108 | rw [z_b_eq0] at c_108
            refine v_iinc1 (pc' := 114) dX4_load_111 (by decide) rfl kc_1 (nI_1 o) rfl ?_
            refine v_iinc2 (pc' := 117) dX4_load_114 (by decide) rfl kc_1 (nI_1 i) rfl ?_
            refine v_goto (tgt := 64) dX4_load_117 (by decide) ?_
            refine ih (i + 1) _ _ _ I3 (by omega) hA4 hF4 e2 e3 (p_cmd_le hk2).2.1 ?_ ?_ ?_
            · rw [p_err, if_pos hk2, if_pos (by rw [hs]; rfl)] at he
              exact he
            · omega
            · rw [← hp, p_rd, if_pos hk2]
              simp only [hs]
              rw [c_108]
              rfl
    · refine v_iload_n (pc' := 65) dX4_load_64 rfl rfl ?_
      refine v_bipush (pc' := 67) dX4_load_65 kb_120 rfl ?_
      refine v_icmp_ge (tgt := 120) (pc' := 70) dX4_load_67 (by decide) rfl (fun c_67 => ?_) (fun c_67 => ?_)
      · exact absurd c_67 (nI_ge (b := 120) (by omega) (by omega))
      · refine v_aload_n (pc' := 71) dX4_load_70 rfl rfl ?_
        refine g_X4_10 (pc' := 74) rfl dX4_load_71 (by assumption) rfl ?_
        refine v_cVI (pc' := 77) (c3_readCommandE hl kT aX1 hw1 k hk hk2 hat1) dX4_load_74 lk_X4_75 mwX3_readCommand miX3_readCommand kT.1 rfl rfl rfl rfl (by decide) (Nat.le_of_ble_eq_true rfl) rfl ?_
        rintro _ _ ⟨rfl, rfl⟩
        refine v_if_eq (tgt := 120) (pc' := 80) dX4_load_77 (by decide) rfl (fun c_77 => ?_) (fun c_77 => ?_)
        · refine v_iload_n (pc' := 121) dX4_load_120 rfl rfl ?_
          exact v_iret dX4_load_121 rfl (by decide) (by decide) ⟨rfl, Nat.le_refl _, hk0, _, rfl, by rw [v_load, ← hp, p_rd, if_neg hk2], by rw [s_load, ← hp, p_rd, if_neg hk2]; exact hA1, hF1⟩
        · exact absurd rfl c_77

set_option maxRecDepth 20000 in
set_option maxHeartbeats 4000000 in
theorem k_load (hl : l.stackTraces = false) (hK : ShK E G c) (hA : AbsK I c S) : z_CK E l mX4_load [.ref c] G I sz c [nISE] (e_load S) (v_load S) S (s_load S) := by
  obtain ⟨k0, kT, kN, kTr, kH, kSl, kF, kS⟩ := id hK
  obtain ⟨aX, aN, aW, aH, aF, aS⟩ := id hA
  have rest : ∀ I2 I3 : zI, AbsK I2 c S → FrT I I2 (c + 1) → Abs I3 (c + 3) p_new → Fr I2 I3 (c + 3) → p_ep S.2.2.1.1 S.2.2.1.2 = none → ex [nISE] (e_load S) = none → z_V E l mX4_load (z_rm 8 1 6) 1 6 (z_fq G sz (ex [nISE] (e_load S)) (fun y9 I' => y9 = v_load S ∧ AbsK I' c (s_load S) ∧ FrK I I' c) (fun I' => AbsK I' c S ∧ FrK I I' c)) 0 0 G (z_up I3 (c + 23) 2 0) sz 35 [some (.ref c), some (.int 0), none] [] := by
    intro I2 I3 hA2 hF2 hA3 hF3 c_8 hk0
    have hw : p_wrong S.2.2.1.1 S.2.2.1.2 = false := by
      cases h9 : p_wrong S.2.2.1.1 S.2.2.1.2 with
      | false => rfl
      | true => rw [p_ep, h9] at c_8; cases c_8
    have hn1 : 1 ≤ S.2.2.1.2 := by
      rcases Nat.eq_zero_or_pos S.2.2.1.2 with q | q
      · simp [p_wrong, q] at hw
      · exact q
    have he : p_err S.2.2.1.1 S.2.2.1.2 120 1 = none := by rw [p_ep, hw] at c_8; exact c_8
    refine v_iload_n (pc' := 36) dX4_load_35 rfl rfl ?_
    refine v_iconst (pc' := 37) dX4_load_36 kc_2 rfl ?_
    refine v_icmp_ge (tgt := 53) (pc' := 40) dX4_load_37 (by decide) rfl (fun c_37 => ?_) (fun c_37 => ?_)
    · exact absurd c_37 (by decide)
    · refine v_aload_n (pc' := 41) dX4_load_40 rfl rfl ?_
      refine g_X4_37 (pc' := 44) rfl dX4_load_41 (by assumption) rfl ?_
      refine v_iload_n (pc' := 45) dX4_load_44 rfl rfl ?_
      refine v_iconst (pc' := 46) dX4_load_45 kc_0 rfl ?_
      refine v_zast (pc' := 47) dX4_load_46 (0) rfl kF (by omega) (by decide) rfl rfl ?_
      refine v_iinc1 (pc' := 50) dX4_load_47 (by decide) rfl kc_1 (show (0 : Int32) + 1 = 1 from rfl) rfl ?_
      refine v_goto (tgt := 35) dX4_load_50 (by decide) ?_
      refine v_iload_n (pc' := 36) dX4_load_35 rfl rfl ?_
      refine v_iconst (pc' := 37) dX4_load_36 kc_2 rfl ?_
      refine v_icmp_ge (tgt := 53) (pc' := 40) dX4_load_37 (by decide) rfl (fun c_37 => ?_) (fun c_37 => ?_)
      · exact absurd c_37 (by decide)
      · refine v_aload_n (pc' := 41) dX4_load_40 rfl rfl ?_
        refine g_X4_37 (pc' := 44) rfl dX4_load_41 (by assumption) rfl ?_
        refine v_iload_n (pc' := 45) dX4_load_44 rfl rfl ?_
        refine v_iconst (pc' := 46) dX4_load_45 kc_0 rfl ?_
        refine v_zast (pc' := 47) dX4_load_46 (1) rfl kF (by omega) (by decide) rfl rfl ?_
        refine v_iinc1 (pc' := 50) dX4_load_47 (by decide) rfl kc_1 (show (1 : Int32) + 1 = 2 from rfl) rfl ?_
        refine v_goto (tgt := 35) dX4_load_50 (by decide) ?_
        have hA5 : AbsK (z_up (z_up (z_up I3 (c + 23) 2 0) (c + 166) 0 0) (c + 166) 1 0) c (p_new, (0, S.2.1.2), S.2.2.1, (S.2.2.2.1, fun _ => false)) := by
          have ag : ∀ q9, q9 ≠ c + 23 → q9 ≠ c + 166 → (q9 < c + 3 ∨ c + 3 + 10 ≤ q9) → (z_up (z_up (z_up I3 (c + 23) 2 0) (c + 166) 0 0) (c + 166) 1 0) q9 = I2 q9 := fun q9 e1 e2 e3 => by rw [z_up_ne _ _ _ _ e2, z_up_ne _ _ _ _ e2, z_up_ne _ _ _ _ e1]; exact hF3 q9 e3
          obtain ⟨bX, bN, bW, bH, bF, bS⟩ := id hA2
          obtain ⟨ao, aho, ag1, ag2, ah14, ahst⟩ := bH
          refine ⟨bX.agree (fun q9 e1 e2 => ag q9 (by omega) (by omega) (by omega)), hA3.agree (WF_new).1.1 (fun q9 e1 e2 => by rw [z_up_ne _ _ _ _ (by omega), z_up_ne _ _ _ _ (by omega), z_up_ne _ _ _ _ (by omega)]), WF_new, ⟨ao, aho, by rw [z_up_ne _ _ _ _ (by omega), z_up_ne _ _ _ _ (by omega), z_up_row, z_row_at, pk_un (by omega), hF3 _ (by omega)]; exact ag1, by rw [z_up_ne _ _ _ _ (by omega), z_up_ne _ _ _ _ (by omega), z_up_row, z_row_at, pk_us]; rfl, Nat.zero_le _, fun i hi => absurd hi (Nat.not_lt_zero i)⟩, fun j hj => ?_, fun j hj hf => by cases hf⟩
          rw [z_up_row, z_row_at, z_up_row, z_row_at]
          rcases (by omega : j = 0 ∨ j = 1) with rfl | rfl
          · rw [pk_un (by omega), pk_us]; rfl
          · rw [pk_us]; rfl
        have hF5 : FrK I (z_up (z_up (z_up I3 (c + 23) 2 0) (c + 166) 0 0) (c + 166) 1 0) c := (((FrK.tx hF2).tr (FrK.fr hF3 (by omega))).tr (FrK.up (by omega))).tr ((FrK.up (by omega)).tr (FrK.up (by omega)))
        refine v_iload_n (pc' := 36) dX4_load_35 rfl rfl ?_
        refine v_iconst (pc' := 37) dX4_load_36 kc_2 rfl ?_
        refine v_icmp_ge (tgt := 53) (pc' := 40) dX4_load_37 (by decide) rfl (fun c_37 => ?_) (fun c_37 => ?_)
        · refine v_iconst (pc' := 54) dX4_load_53 kc_0 rfl ?_
          refine v_istore_n1 (pc' := 55) dX4_load_54 (by decide) rfl rfl ?_
          refine v_aload_n (pc' := 56) dX4_load_55 rfl rfl ?_
          refine g_X4_10 (pc' := 59) rfl dX4_load_56 (by assumption) rfl ?_
          refine v_cVV (pc' := 62) (c3_beginReading hl kT hA5.1) dX4_load_59 lk_X4_72 mwX3_beginReading miX3_beginReading kT.1 rfl rfl rfl rfl (by decide) (Nat.le_of_ble_eq_true rfl) rfl ?_
          rintro I6 ⟨hF6, at6, w6⟩
          rw [p_at0, hw] at at6
          rw [hw] at w6
          refine v_iconst (pc' := 63) dX4_load_62 kc_0 rfl ?_
          refine v_istore_n2 (pc' := 64) dX4_load_63 (by decide) rfl rfl ?_
          exact k_loadL hl hK hA S.2.2.1.1 S.2.2.1.2 rfl hk0 120 0 1 0 p_new I6 (by omega) (hA5.text (hA5.1.fr hF6) (fun q h1 h2 => hF6.1 q h1)) (hF5.tr (FrK.tx hF6)) at6 w6 hn1 he (by omega) rfl
        · exact absurd (by decide) c_37
  refine z_Cx.of hl pn_X4 [some (.ref c), none, none] rfl (Nat.le_of_ble_eq_true rfl) ?_
  refine v_aload_n (pc' := 1) dX4_load_0 rfl rfl ?_
  refine g_X4_10 (pc' := 4) rfl dX4_load_1 (by assumption) rfl ?_
  refine v_cVI (pc' := 7) (c3_firstError hl kT aX) dX4_load_4 lk_X4_63 mwX3_firstError miX3_firstError kT.1 rfl rfl rfl rfl (by decide) (Nat.le_of_ble_eq_true rfl) rfl ?_
  rintro _ I2 ⟨rfl, hF2⟩
  have hA2 : AbsK I2 c S := hA.text (aX.fr hF2) (fun q h1 h2 => hF2.1 q h1)
  refine v_iconst (pc' := 8) dX4_load_7 kc_m1 rfl ?_
  refine v_icmp_eq (tgt := 19) (pc' := 11) dX4_load_8 (by decide) rfl (fun c_8 => ?_) (fun c_8 => ?_)
  · rw [rv_none (fun v hv => by have := p_ep_lt hv; have := aX.1; omega)] at c_8
    have hk0 : ex [nISE] (e_load S) = none := by rw [e_load, if_pos c_8]; rfl
    refine v_aload_n (pc' := 20) dX4_load_19 rfl rfl ?_
    refine g_X4_19 (pc' := 23) rfl dX4_load_20 (by assumption) rfl ?_
    refine v_cVV (pc' := 26) (c1_reset hl kN) dX4_load_23 lk_X4_66 mwX1_reset miX1_reset kN.1 rfl rfl rfl rfl (by decide) (Nat.le_of_ble_eq_true rfl) rfl ?_
    rintro I3 ⟨hA3, hF3⟩
    refine v_aload_n (pc' := 27) dX4_load_26 rfl rfl ?_
    refine g_X4_29 (pc' := 30) rfl dX4_load_27 (by assumption) rfl ?_
    refine v_cVV (pc' := 33) (c0_forgetAll hl kH.1) dX4_load_30 lk_X4_69 mwX0_forgetAll miX0_forgetAll kH.1 rfl rfl rfl rfl (by decide) (Nat.le_of_ble_eq_true rfl) rfl ?_
    rintro _ rfl
    refine v_iconst (pc' := 34) dX4_load_33 kc_0 rfl ?_
    refine v_istore_n1 (pc' := 35) dX4_load_34 (by decide) rfl rfl ?_
    exact rest _ _ hA2 hF2 hA3 hF3 c_8 hk0
  · rw [rv_none (fun v hv => by have := p_ep_lt hv; have := aX.1; omega)] at c_8
    exact v_ise rfl rfl dX4_load_11 dX4_load_14 dX4_load_15 dX4_load_18 (by decide) (by decide) (fun sz' h9 => ⟨rfl, h9, by rw [e_load, if_neg c_8]; rfl, hA2, FrK.tx hF2⟩)
end FACE4
