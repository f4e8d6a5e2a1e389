/-! THE REFERENCE's reading: figures (written by wip/whole/gen_mod8.py) -/
theorem z_up_self (I : zI) (a k : Nat) : z_up I a k (I a k) = I := by rw [z_up_row, upd_self, z_row_self]
theorem z_up_up (I : zI) (a k : Nat) (x y : Int32) : z_up (z_up I a k x) a k y = z_up I a k y := by rw [z_up_row, z_up_row, z_row_row, z_row_at, upd_upd, z_up_row]
def un : Nat → Nat
  | 0 => 0
  | n + 1 => 10 ^ n
theorem dig_none {T : Nat → Nat} {n k : Nat} (h : p_dig T n k = none) (hk : k < n) (hT : T k < 256) : z_in (nI (T k) - 48) 0 9 = false := by
  cases h9 : z_in (nI (T k) - 48) 0 9 with
  | false => rfl
  | true =>
    exfalso
    obtain ⟨c, c1, c2, e⟩ := z_in_nI (lo := 0) (hi := 9) (by omega) (by omega) h9
    have h8 : (nI (T k) - 48 : Int32).toInt = (T k : Int) - 48 := pk_sub_toInt (b := 48) (by omega) (by omega)
    rw [e, nI_toInt (by omega)] at h8
    rw [p_dig, if_pos ⟨hk, by omega, by omega⟩] at h
    cases h
section MOD8
variable {E : zE} {l : Launch} {G : zG} {I : zI} {sz d n : Nat} {S : zS} {T : Nat → Nat}
set_option maxRecDepth 20000 in
set_option maxHeartbeats 4000000 in
theorem m_done (hl : l.stackTraces = false) (k0 : (d, sMd d) ∈ G) (b : Bool) : z_CI E l mX5_done 0 [.ref d, .int (z_b b)] G I sz (fun y9 I' => y9 = 1 ∧ I' = z_up I d 10 (I d 10 + if b then 0 else 1)) := by
  refine z_Ct.of hl pn_X5 [some (.ref d), some (.int (z_b b))] rfl (Nat.le_of_ble_eq_true rfl) ?_
  refine v_aload_n (pc' := 1) dX5_done_0 rfl rfl ?_
  refine v_dup (pc' := 2) dX5_done_1 rfl rfl ?_
  refine g_X5_105 (pc' := 5) rfl dX5_done_2 (by assumption) rfl ?_
  refine v_iload_n (pc' := 6) dX5_done_5 rfl rfl ?_
  refine v_if_eq (tgt := 13) (pc' := 9) dX5_done_6 (by decide) rfl (fun c_6 => ?_) (fun c_6 => ?_)
  · rw [z_b_eq0] at c_6
    refine v_iconst (pc' := 14) dX5_done_13 kc_1 rfl ?_
    refine v_iadd (pc' := 15) dX5_done_14 rfl ?_
    refine p_X5_105 (pc' := 18) rfl dX5_done_15 (by assumption) rfl ?_
    refine v_iconst (pc' := 19) dX5_done_18 kc_1 rfl ?_
    exact v_zret dX5_done_19 rfl (Nat.le_refl _) (Nat.le_refl _) rfl ⟨_, rfl, rfl, rfl, rfl, by rw [c_6]; rfl⟩
  · rw [z_b_ne0] at c_6
    refine v_iconst (pc' := 10) dX5_done_9 kc_0 rfl ?_
    refine v_goto (tgt := 14) dX5_done_10 (by decide) ?_
    refine v_iadd (pc' := 15) dX5_done_14 rfl ?_
    refine p_X5_105 (pc' := 18) rfl dX5_done_15 (by assumption) rfl ?_
    refine v_iconst (pc' := 19) dX5_done_18 kc_1 rfl ?_
    exact v_zret dX5_done_19 rfl (Nat.le_refl _) (Nat.le_refl _) rfl ⟨_, rfl, rfl, rfl, rfl, by rw [c_6]; rfl⟩
set_option maxRecDepth 20000 in
set_option maxHeartbeats 4000000 in
theorem m_figL (hl : l.stackTraces = false) (k0 : (d, sMd d) ∈ G) (kT : (d + 1, sI E 0 120) ∈ G) (hT : MT I d T n) (ah : Int32) (hah : ¬ ah = -1) (g0 lo hi k : Nat) (hlo : lo ≤ 1000) (hhi : hi ≤ 996) : ∀ (n9 v k1 : Nat) (o7 o8 : Option Value), z_c1 o7 = true → z_c1 o8 = true → n9 ≤ 3 → v ≤ 1000 → k1 ≤ n → p_rn T n lo hi n9 v k1 = p_rn T n lo hi g0 0 k → z_V E l mX5_figures (z_rm 2 0 0) 0 0 (z_q (fun v' G' I' sz' => ∃ y9, v' = some (.int y9) ∧ G' = G ∧ sz' = sz ∧ (y9 = rv (p_rn T n lo hi g0 0 k).1 ∧ I' = z_up I d 9 (nI (p_rn T n lo hi g0 0 k).2)))) 0 0 G (z_up I d 9 (nI k1)) sz 26 [some (.ref d), some (.int ah), some (.int (nI g0)), some (.int (nI lo)), some (.int (nI hi)), some (.int (nI (v * 10 ^ n9))), some (.int (nI (un n9))), o7, o8] [] := by
  obtain ⟨tn, tl, tc⟩ := id hT
  intro n9
  induction n9 with
  | zero =>
    intro v k1 o7 o8 ho7 ho8 hn9 hv hk1 hp
    · refine v_iload (pc' := 28) dX5_figures_26 rfl rfl ?_
      refine v_if_le (tgt := 132) (pc' := 31) dX5_figures_28 (by decide) rfl (fun c_28 => ?_) (fun c_28 => ?_)
      · refine v_iload_n (pc' := 133) dX5_figures_132 rfl rfl ?_
        refine v_iconst (pc' := 134) dX5_figures_133 kc_m1 rfl ?_
        refine v_icmp_ne (tgt := 141) (pc' := 137) dX5_figures_134 (by decide) rfl (fun c_134 => ?_) (fun c_134 => ?_)
        · refine v_iload (pc' := 143) dX5_figures_141 rfl rfl ?_
          exact v_iret dX5_figures_143 rfl (Nat.le_refl _) (Nat.le_refl _) ⟨_, rfl, rfl, rfl, by rw [← hp]; show _ = nI v; rw [Nat.pow_zero, Nat.mul_one], by rw [← hp]; rfl⟩
        · exact absurd c_134 hah
      · exact absurd (by decide) c_28
  | succ n9 ih =>
    intro v k1 o7 o8 ho7 ho8 hn9 hv hk1 hp
    have pw : 10 ^ n9 ≤ 100 := Nat.pow_le_pow_right (n := 10) (by omega) (show n9 ≤ 2 by omega)
    have pw1 : 1 ≤ 10 ^ n9 := Nat.pow_pos (by omega)
    cases hg : p_dig T n k1 with
    | none =>
      by_cases hkn : k1 < n
      · refine v_iload (pc' := 28) dX5_figures_26 rfl rfl ?_
        refine v_if_le (tgt := 132) (pc' := 31) dX5_figures_28 (by decide) rfl (fun c_28 => ?_) (fun c_28 => ?_)
        · exact absurd c_28 (nI_nle (by show 0 < 10 ^ n9; omega) (by show 10 ^ n9 < 2 ^ 31; omega))
        · refine v_iload_n (pc' := 32) dX5_figures_31 rfl rfl ?_
          refine v_iconst (pc' := 33) dX5_figures_32 kc_m1 rfl ?_
          refine v_icmp_eq (tgt := 132) (pc' := 36) dX5_figures_33 (by decide) rfl (fun c_33 => ?_) (fun c_33 => ?_)
          · exact absurd c_33 hah
          · refine v_aload_n (pc' := 37) dX5_figures_36 rfl rfl ?_
            refine g_X5_102 (pc' := 40) rfl dX5_figures_37 (by assumption) rfl ?_
            rw [show z_up I d 9 (nI k1) d 9 = nI k1 by rw [z_up_row, z_row_at, pk_us]]
            refine v_aload_n (pc' := 41) dX5_figures_40 rfl rfl ?_
            refine g_X5_96 (pc' := 44) rfl dX5_figures_41 (by assumption) rfl ?_
            rw [show z_up I d 9 (nI k1) d 2 = nI n by rw [z_up_row, z_row_at, pk_un (by omega)]; exact tl]
            refine v_icmp_ge (tgt := 62) (pc' := 47) dX5_figures_44 (by decide) rfl (fun c_44 => ?_) (fun c_44 => ?_)
            · exact absurd c_44 (nI_ge hkn (by omega))
            · refine v_aload_n (pc' := 48) dX5_figures_47 rfl rfl ?_
              refine g_X5_7 (pc' := 51) rfl dX5_figures_48 (by assumption) rfl ?_
              refine v_aload_n (pc' := 52) dX5_figures_51 rfl rfl ?_
              refine g_X5_102 (pc' := 55) rfl dX5_figures_52 (by assumption) rfl ?_
              rw [show z_up I d 9 (nI k1) d 9 = nI k1 by rw [z_up_row, z_row_at, pk_us]]
              refine v_iald (pc' := 56) dX5_figures_55 (k1) rfl kT (by omega) (by decide) rfl ?_
              rw [z_up_ne _ _ _ _ (by omega), (tc k1 hkn).2]
              refine v_bipush (pc' := 58) dX5_figures_56 kb_48 rfl ?_
              refine v_isub (pc' := 59) dX5_figures_58 rfl ?_
              refine v_goto (tgt := 63) dX5_figures_59 (by decide) ?_
              refine v_istore7 (pc' := 65) dX5_figures_63 (by decide) rfl rfl ?_
              refine v_iload (pc' := 67) dX5_figures_65 rfl rfl ?_
              refine v_iload (pc' := 69) dX5_figures_67 rfl rfl ?_
              refine v_iload (pc' := 71) dX5_figures_69 rfl rfl ?_
              refine v_imul (pc' := 72) dX5_figures_71 rfl ?_
              refine v_iadd (pc' := 73) dX5_figures_72 rfl ?_
              refine v_istore8 (pc' := 75) dX5_figures_73 (by decide) rfl rfl ?_
              refine v_iload (pc' := 77) dX5_figures_75 rfl rfl ?_
              refine v_i2l (pc' := 78) dX5_figures_77 rfl ?_
              refine v_lconst (pc' := 79) dX5_figures_78 kl_0 rfl ?_
              refine v_ldc2 (pc' := 82) dX5_figures_79 cn_X5_88 rfl ?_
              refine v_cSR (pc' := 85) (c5_in32 hl (nI (T k1) - 48) 0 9 rfl rfl rfl) dX5_figures_82 lk_X5_37 mwX5_in msX5_in rfl rfl (by decide) (Nat.le_of_ble_eq_true rfl) rfl ?_
              rw [dig_none hg hkn (tc k1 hkn).1]
              refine v_if_eq (tgt := 106) (pc' := 88) dX5_figures_85 (by decide) rfl (fun c_85 => ?_) (fun c_85 => ?_)
              · refine v_iconst (pc' := 107) dX5_figures_106 kc_m1 rfl ?_
                exact v_iret dX5_figures_107 rfl (Nat.le_refl _) (Nat.le_refl _) ⟨_, rfl, rfl, rfl, by rw [← hp, p_rn, hg]; rfl, by rw [← hp, p_rn, hg]⟩
              · exact absurd rfl c_85
      · refine v_iload (pc' := 28) dX5_figures_26 rfl rfl ?_
        refine v_if_le (tgt := 132) (pc' := 31) dX5_figures_28 (by decide) rfl (fun c_28 => ?_) (fun c_28 => ?_)
        · exact absurd c_28 (nI_nle (by show 0 < 10 ^ n9; omega) (by show 10 ^ n9 < 2 ^ 31; omega))
        · refine v_iload_n (pc' := 32) dX5_figures_31 rfl rfl ?_
          refine v_iconst (pc' := 33) dX5_figures_32 kc_m1 rfl ?_
          refine v_icmp_eq (tgt := 132) (pc' := 36) dX5_figures_33 (by decide) rfl (fun c_33 => ?_) (fun c_33 => ?_)
          · exact absurd c_33 hah
          · refine v_aload_n (pc' := 37) dX5_figures_36 rfl rfl ?_
            refine g_X5_102 (pc' := 40) rfl dX5_figures_37 (by assumption) rfl ?_
            rw [show z_up I d 9 (nI k1) d 9 = nI k1 by rw [z_up_row, z_row_at, pk_us]]
            refine v_aload_n (pc' := 41) dX5_figures_40 rfl rfl ?_
            refine g_X5_96 (pc' := 44) rfl dX5_figures_41 (by assumption) rfl ?_
            rw [show z_up I d 9 (nI k1) d 2 = nI n by rw [z_up_row, z_row_at, pk_un (by omega)]; exact tl]
            refine v_icmp_ge (tgt := 62) (pc' := 47) dX5_figures_44 (by decide) rfl (fun c_44 => ?_) (fun c_44 => ?_)
            · refine v_iconst (pc' := 63) dX5_figures_62 kc_m1 rfl ?_
              refine v_istore7 (pc' := 65) dX5_figures_63 (by decide) rfl rfl ?_
              refine v_iload (pc' := 67) dX5_figures_65 rfl rfl ?_
              refine v_iload (pc' := 69) dX5_figures_67 rfl rfl ?_
              refine v_iload (pc' := 71) dX5_figures_69 rfl rfl ?_
              refine v_imul (pc' := 72) dX5_figures_71 rfl ?_
              refine v_iadd (pc' := 73) dX5_figures_72 rfl ?_
              refine v_istore8 (pc' := 75) dX5_figures_73 (by decide) rfl rfl ?_
              refine v_iload (pc' := 77) dX5_figures_75 rfl rfl ?_
              refine v_i2l (pc' := 78) dX5_figures_77 rfl ?_
              refine v_lconst (pc' := 79) dX5_figures_78 kl_0 rfl ?_
              refine v_ldc2 (pc' := 82) dX5_figures_79 cn_X5_88 rfl ?_
              refine v_cSR (pc' := 85) (c5_in32 hl (-1) 0 9 rfl rfl rfl) dX5_figures_82 lk_X5_37 mwX5_in msX5_in rfl rfl (by decide) (Nat.le_of_ble_eq_true rfl) rfl ?_
              refine v_if_eq (tgt := 106) (pc' := 88) dX5_figures_85 (by decide) rfl (fun c_85 => ?_) (fun c_85 => ?_)
              · refine v_iconst (pc' := 107) dX5_figures_106 kc_m1 rfl ?_
                exact v_iret dX5_figures_107 rfl (Nat.le_refl _) (Nat.le_refl _) ⟨_, rfl, rfl, rfl, by rw [← hp, p_rn, hg]; rfl, by rw [← hp, p_rn, hg]⟩
              · exact absurd rfl c_85
            · exact absurd (nI_le (by omega) (by omega)) c_44
    | some g =>
      obtain ⟨hkn, g9⟩ := p_dig_lt hg
      have eg : T k1 - 48 = g := by
        unfold p_dig at hg
        split at hg
        · cases hg; rfl
        · cases hg
      have eg2 : 48 ≤ T k1 := by
        unfold p_dig at hg
        split at hg
        · rename_i q; exact q.2.1
        · cases hg
      have htc := (tc k1 hkn).1
      have b1 : (v * 10 + g) * 10 ^ n9 ≤ 100000 * 100 := Nat.mul_le_mul (by omega) pw
      have b2 : (v * 10 + g + 1) * 10 ^ n9 ≤ 100000 * 100 := Nat.mul_le_mul (by omega) pw
      have b3 : 1 ≤ (v * 10 + g + 1) * 10 ^ n9 := Nat.mul_pos (by omega) pw1
      have e1 : v * 10 ^ (n9 + 1) + g * 10 ^ n9 = (v * 10 + g) * 10 ^ n9 := by rw [Nat.pow_succ, Nat.add_mul, Nat.mul_assoc, Nat.mul_comm 10]
      have e2 : (v * 10 + g) * 10 ^ n9 + un (n9 + 1) = (v * 10 + g + 1) * 10 ^ n9 := by
        show (v * 10 + g) * 10 ^ n9 + 10 ^ n9 = _
        rw [Nat.add_mul (v * 10 + g) 1, Nat.one_mul]
      have eu : (nI (un (n9 + 1)) / 10 : Int32) = nI (un n9) := by
        show (nI (10 ^ n9) / nI 10) = _
        rw [pk_div (by omega) (by omega) (by omega)]
        cases n9 with
        | zero => rfl
        | succ n8 => rw [Nat.pow_succ, Nat.mul_div_cancel _ (by omega)]; rfl
      refine v_iload (pc' := 28) dX5_figures_26 rfl rfl ?_
      refine v_if_le (tgt := 132) (pc' := 31) dX5_figures_28 (by decide) rfl (fun c_28 => ?_) (fun c_28 => ?_)
      · exact absurd c_28 (nI_nle (by show 0 < 10 ^ n9; omega) (by show 10 ^ n9 < 2 ^ 31; omega))
      · refine v_iload_n (pc' := 32) dX5_figures_31 rfl rfl ?_
        refine v_iconst (pc' := 33) dX5_figures_32 kc_m1 rfl ?_
        refine v_icmp_eq (tgt := 132) (pc' := 36) dX5_figures_33 (by decide) rfl (fun c_33 => ?_) (fun c_33 => ?_)
        · exact absurd c_33 hah
        · refine v_aload_n (pc' := 37) dX5_figures_36 rfl rfl ?_
          refine g_X5_102 (pc' := 40) rfl dX5_figures_37 (by assumption) rfl ?_
          rw [show z_up I d 9 (nI k1) d 9 = nI k1 by rw [z_up_row, z_row_at, pk_us]]
          refine v_aload_n (pc' := 41) dX5_figures_40 rfl rfl ?_
          refine g_X5_96 (pc' := 44) rfl dX5_figures_41 (by assumption) rfl ?_
          rw [show z_up I d 9 (nI k1) d 2 = nI n by rw [z_up_row, z_row_at, pk_un (by omega)]; exact tl]
          refine v_icmp_ge (tgt := 62) (pc' := 47) dX5_figures_44 (by decide) rfl (fun c_44 => ?_) (fun c_44 => ?_)
          · exact absurd c_44 (nI_ge hkn (by omega))
          · refine v_aload_n (pc' := 48) dX5_figures_47 rfl rfl ?_
            refine g_X5_7 (pc' := 51) rfl dX5_figures_48 (by assumption) rfl ?_
            refine v_aload_n (pc' := 52) dX5_figures_51 rfl rfl ?_
            refine g_X5_102 (pc' := 55) rfl dX5_figures_52 (by assumption) rfl ?_
            rw [show z_up I d 9 (nI k1) d 9 = nI k1 by rw [z_up_row, z_row_at, pk_us]]
            refine v_iald (pc' := 56) dX5_figures_55 (k1) rfl kT (by omega) (by decide) rfl ?_
            rw [z_up_ne _ _ _ _ (by omega), (tc k1 hkn).2]
            refine v_bipush (pc' := 58) dX5_figures_56 kb_48 rfl ?_
            refine v_isub (pc' := 59) dX5_figures_58 rfl ?_
            rw [show (nI (T k1) - 48 : Int32) = nI g by rw [← eg]; exact pk_sub (b := 48) (by omega)]
            refine v_goto (tgt := 63) dX5_figures_59 (by decide) ?_
            refine v_istore7 (pc' := 65) dX5_figures_63 (by decide) rfl rfl ?_
            refine v_iload (pc' := 67) dX5_figures_65 rfl rfl ?_
            refine v_iload (pc' := 69) dX5_figures_67 rfl rfl ?_
            refine v_iload (pc' := 71) dX5_figures_69 rfl rfl ?_
            refine v_imul (pc' := 72) dX5_figures_71 rfl ?_
            rw [show nI g * nI (un (n9 + 1)) = nI (g * 10 ^ n9) from pk_mul _ _]
            refine v_iadd (pc' := 73) dX5_figures_72 rfl ?_
            rw [nI_add, e1]
            refine v_istore8 (pc' := 75) dX5_figures_73 (by decide) rfl rfl ?_
            refine v_iload (pc' := 77) dX5_figures_75 rfl rfl ?_
            refine v_i2l (pc' := 78) dX5_figures_77 rfl ?_
            refine v_lconst (pc' := 79) dX5_figures_78 kl_0 rfl ?_
            refine v_ldc2 (pc' := 82) dX5_figures_79 cn_X5_88 rfl ?_
            refine v_cSR (pc' := 85) (c5_in32 hl (nI g) 0 9 rfl rfl rfl) dX5_figures_82 lk_X5_37 mwX5_in msX5_in rfl rfl (by decide) (Nat.le_of_ble_eq_true rfl) rfl ?_
            refine v_if_eq (tgt := 106) (pc' := 88) dX5_figures_85 (by decide) rfl (fun c_85 => ?_) (fun c_85 => ?_)
            · exact absurd (z_b_eq0.mp c_85) (by rw [show z_in (nI g) 0 9 = true from z_in_of (lo := 0) (hi := 9) (by omega) (by omega) (by omega)]; decide)
            · refine v_iload (pc' := 90) dX5_figures_88 rfl rfl ?_
              refine v_iload (pc' := 92) dX5_figures_90 rfl rfl ?_
              refine v_icmp_gt (tgt := 106) (pc' := 95) dX5_figures_92 (by decide) rfl (fun c_92 => ?_) (fun c_92 => ?_)
              · rw [nI_ltI (by omega) (by omega)] at c_92
                have cc := Or.inl (b := (v * 10 + g + 1) * 10 ^ n9 ≤ lo) c_92
                have c_103 := True.intro
                refine v_iconst (pc' := 107) dX5_figures_106 kc_m1 rfl ?_
                exact v_iret dX5_figures_107 rfl (Nat.le_refl _) (Nat.le_refl _) ⟨_, rfl, rfl, rfl, by rw [← hp, p_rn, hg]; simp only; rw [if_pos (cc)]; rfl, by rw [← hp, p_rn, hg]; simp only; rw [if_pos (cc)]⟩
              · rw [nI_ltI (by omega) (by omega)] at c_92
                refine v_iload (pc' := 97) dX5_figures_95 rfl rfl ?_
                refine v_iload (pc' := 99) dX5_figures_97 rfl rfl ?_
                refine v_iadd (pc' := 100) dX5_figures_99 rfl ?_
                rw [show nI ((v * 10 + g) * 10 ^ n9) + nI (un (n9 + 1)) = nI ((v * 10 + g + 1) * 10 ^ n9) by rw [nI_add]; exact congrArg nI e2]
                refine v_iconst (pc' := 101) dX5_figures_100 kc_1 rfl ?_
                refine v_isub (pc' := 102) dX5_figures_101 rfl ?_
                rw [show (nI ((v * 10 + g + 1) * 10 ^ n9) - 1 : Int32) = nI ((v * 10 + g + 1) * 10 ^ n9 - 1) from pk_sub (b := 1) (by omega)]
                refine v_iload_n (pc' := 103) dX5_figures_102 rfl rfl ?_
                refine v_icmp_ge (tgt := 108) (pc' := 106) dX5_figures_103 (by decide) rfl (fun c_103 => ?_) (fun c_103 => ?_)
                · rw [nI_leI (by omega) (by omega)] at c_103
                  have cn : ¬ ((v * 10 + g) * 10 ^ n9 > hi ∨ (v * 10 + g + 1) * 10 ^ n9 ≤ lo) := by omega
                  refine v_iload (pc' := 110) dX5_figures_108 rfl rfl ?_
                  refine v_istore5 (pc' := 112) dX5_figures_110 (by decide) rfl rfl ?_
                  refine v_aload_n (pc' := 113) dX5_figures_112 rfl rfl ?_
                  refine v_dup (pc' := 114) dX5_figures_113 rfl rfl ?_
                  refine g_X5_102 (pc' := 117) rfl dX5_figures_114 (by assumption) rfl ?_
                  rw [show z_up I d 9 (nI k1) d 9 = nI k1 by rw [z_up_row, z_row_at, pk_us]]
                  refine v_iconst (pc' := 118) dX5_figures_117 kc_1 rfl ?_
                  refine v_iadd (pc' := 119) dX5_figures_118 rfl ?_
                  rw [nI_1]
                  refine p_X5_102 (pc' := 122) rfl dX5_figures_119 (by assumption) rfl ?_
                  refine v_iload (pc' := 124) dX5_figures_122 rfl rfl ?_
                  refine v_bipush (pc' := 126) dX5_figures_124 kb_10 rfl ?_
                  refine v_idiv (pc' := 127) dX5_figures_126 (by decide) rfl ?_
                  rw [eu]
                  rw [z_up_up]
                  refine v_istore6 (pc' := 129) dX5_figures_127 (by decide) rfl rfl ?_
                  refine v_goto (tgt := 26) dX5_figures_129 (by decide) ?_
                  exact ih (v * 10 + g) (k1 + 1) _ _ rfl rfl (by omega) (Nat.le_trans (Nat.le_mul_of_pos_right _ (Nat.pow_pos (by omega))) (by omega : (v * 10 + g) * 10 ^ n9 ≤ 1000)) (by omega) (by rw [← hp, p_rn, hg]; simp only; rw [if_neg cn])
                · rw [nI_leI (by omega) (by omega)] at c_103
                  have cc := Or.inr (a := (v * 10 + g) * 10 ^ n9 > hi) (show (v * 10 + g + 1) * 10 ^ n9 ≤ lo by omega)
                  refine v_iconst (pc' := 107) dX5_figures_106 kc_m1 rfl ?_
                  exact v_iret dX5_figures_107 rfl (Nat.le_refl _) (Nat.le_refl _) ⟨_, rfl, rfl, rfl, by rw [← hp, p_rn, hg]; simp only; rw [if_pos (cc)]; rfl, by rw [← hp, p_rn, hg]; simp only; rw [if_pos (cc)]⟩

set_option maxRecDepth 20000 in
set_option maxHeartbeats 4000000 in
theorem m_figures1 (hl : l.stackTraces = false) (k0 : (d, sMd d) ∈ G) (kT : (d + 1, sI E 0 120) ∈ G) (hT : MT I d T n) (ah : Int32) (hah : ¬ ah = -1) (lo hi k : Nat) (hlo : lo ≤ 1000) (hhi : hi ≤ 996) (hk : k ≤ n) (hsp : I d 9 = nI k) {g3 lo3 hi3 : Int32} (hg3 : g3 = nI 1) (hlo3 : lo3 = nI lo) (hhi3 : hi3 = nI hi) : z_CI E l mX5_figures 2 [.ref d, .int ah, .int g3, .int lo3, .int hi3] G I sz (fun y9 I' => (y9 = rv (p_rn T n lo hi 1 0 k).1 ∧ I' = z_up I d 9 (nI (p_rn T n lo hi 1 0 k).2))) := by
  subst hg3; subst hlo3; subst hhi3
  refine z_Ct.of hl pn_X5 [some (.ref d), some (.int ah), some (.int (nI 1)), some (.int (nI lo)), some (.int (nI hi)), none, none, none, none] rfl (Nat.le_of_ble_eq_true rfl) ?_
  refine v_iconst (pc' := 1) dX5_figures_0 kc_0 rfl ?_
  refine v_istore5 (pc' := 3) dX5_figures_1 (by decide) rfl rfl ?_
  refine v_iload_n (pc' := 4) dX5_figures_3 rfl rfl ?_
  refine v_iconst (pc' := 5) dX5_figures_4 kc_3 rfl ?_
  refine v_icmp_ne (tgt := 13) (pc' := 8) dX5_figures_5 (by decide) rfl (fun c_5 => ?_) (fun c_5 => ?_)
  · refine v_iload_n (pc' := 14) dX5_figures_13 rfl rfl ?_
    refine v_iconst (pc' := 15) dX5_figures_14 kc_2 rfl ?_
    refine v_icmp_ne (tgt := 23) (pc' := 18) dX5_figures_15 (by decide) rfl (fun c_15 => ?_) (fun c_15 => ?_)
    · refine v_iconst (pc' := 24) dX5_figures_23 kc_1 rfl ?_
      refine v_istore6 (pc' := 26) dX5_figures_24 (by decide) rfl rfl ?_
      have h9 := m_figL (sz := sz) hl k0 kT hT ah hah 1 lo hi k hlo hhi 1 0 k none none rfl rfl (by omega) (by omega) hk rfl
      rw [Nat.zero_mul, show z_up I d 9 (nI k) = I by rw [← hsp, z_up_self]] at h9
      exact h9
    · exact absurd c_15 (by decide)
  · exact absurd c_5 (by decide)
set_option maxRecDepth 20000 in
set_option maxHeartbeats 4000000 in
theorem m_figuresW1 (hl : l.stackTraces = false) (k0 : (d, sMd d) ∈ G) (kT : (d + 1, sI E 0 120) ∈ G) (hT : MT I d T n) (lo3 hi3 : Int32) {g3 : Int32} (hg3 : g3 = nI 1) : z_CI E l mX5_figures 2 [.ref d, .int (-1), .int g3, .int lo3, .int hi3] G I sz (fun y9 I' => y9 = -1 ∧ I' = I) := by
  subst hg3
  refine z_Ct.of hl pn_X5 [some (.ref d), some (.int (-1)), some (.int (nI 1)), some (.int lo3), some (.int hi3), none, none, none, none] rfl (Nat.le_of_ble_eq_true rfl) ?_
  refine v_iconst (pc' := 1) dX5_figures_0 kc_0 rfl ?_
  refine v_istore5 (pc' := 3) dX5_figures_1 (by decide) rfl rfl ?_
  refine v_iload_n (pc' := 4) dX5_figures_3 rfl rfl ?_
  refine v_iconst (pc' := 5) dX5_figures_4 kc_3 rfl ?_
  refine v_icmp_ne (tgt := 13) (pc' := 8) dX5_figures_5 (by decide) rfl (fun c_5 => ?_) (fun c_5 => ?_)
  · refine v_iload_n (pc' := 14) dX5_figures_13 rfl rfl ?_
    refine v_iconst (pc' := 15) dX5_figures_14 kc_2 rfl ?_
    refine v_icmp_ne (tgt := 23) (pc' := 18) dX5_figures_15 (by decide) rfl (fun c_15 => ?_) (fun c_15 => ?_)
    · refine v_iconst (pc' := 24) dX5_figures_23 kc_1 rfl ?_
      refine v_istore6 (pc' := 26) dX5_figures_24 (by decide) rfl rfl ?_
      refine v_iload (pc' := 28) dX5_figures_26 rfl rfl ?_
      refine v_if_le (tgt := 132) (pc' := 31) dX5_figures_28 (by decide) rfl (fun c_28 => ?_) (fun c_28 => ?_)
      · refine v_iload_n (pc' := 133) dX5_figures_132 rfl rfl ?_
        refine v_iconst (pc' := 134) dX5_figures_133 kc_m1 rfl ?_
        refine v_icmp_ne (tgt := 141) (pc' := 137) dX5_figures_134 (by decide) rfl (fun c_134 => ?_) (fun c_134 => ?_)
        · exact absurd rfl c_134
        · refine v_iconst (pc' := 138) dX5_figures_137 kc_m1 rfl ?_
          refine v_goto (tgt := 143) dX5_figures_138 (by decide) ?_
          exact v_iret dX5_figures_143 rfl (Nat.le_refl _) (Nat.le_refl _) ⟨_, rfl, rfl, rfl, rfl, rfl⟩
      · refine v_iload_n (pc' := 32) dX5_figures_31 rfl rfl ?_
        refine v_iconst (pc' := 33) dX5_figures_32 kc_m1 rfl ?_
        refine v_icmp_eq (tgt := 132) (pc' := 36) dX5_figures_33 (by decide) rfl (fun c_33 => ?_) (fun c_33 => ?_)
        · refine v_iload_n (pc' := 133) dX5_figures_132 rfl rfl ?_
          refine v_iconst (pc' := 134) dX5_figures_133 kc_m1 rfl ?_
          refine v_icmp_ne (tgt := 141) (pc' := 137) dX5_figures_134 (by decide) rfl (fun c_134 => ?_) (fun c_134 => ?_)
          · exact absurd rfl c_134
          · refine v_iconst (pc' := 138) dX5_figures_137 kc_m1 rfl ?_
            refine v_goto (tgt := 143) dX5_figures_138 (by decide) ?_
            exact v_iret dX5_figures_143 rfl (Nat.le_refl _) (Nat.le_refl _) ⟨_, rfl, rfl, rfl, rfl, rfl⟩
        · exact absurd rfl c_33
    · exact absurd c_15 (by decide)
  · exact absurd c_5 (by decide)
set_option maxRecDepth 20000 in
set_option maxHeartbeats 4000000 in
theorem m_figures2 (hl : l.stackTraces = false) (k0 : (d, sMd d) ∈ G) (kT : (d + 1, sI E 0 120) ∈ G) (hT : MT I d T n) (ah : Int32) (hah : ¬ ah = -1) (lo hi k : Nat) (hlo : lo ≤ 1000) (hhi : hi ≤ 996) (hk : k ≤ n) (hsp : I d 9 = nI k) {g3 lo3 hi3 : Int32} (hg3 : g3 = nI 2) (hlo3 : lo3 = nI lo) (hhi3 : hi3 = nI hi) : z_CI E l mX5_figures 2 [.ref d, .int ah, .int g3, .int lo3, .int hi3] G I sz (fun y9 I' => (y9 = rv (p_rn T n lo hi 2 0 k).1 ∧ I' = z_up I d 9 (nI (p_rn T n lo hi 2 0 k).2))) := by
  subst hg3; subst hlo3; subst hhi3
  refine z_Ct.of hl pn_X5 [some (.ref d), some (.int ah), some (.int (nI 2)), some (.int (nI lo)), some (.int (nI hi)), none, none, none, none] rfl (Nat.le_of_ble_eq_true rfl) ?_
  refine v_iconst (pc' := 1) dX5_figures_0 kc_0 rfl ?_
  refine v_istore5 (pc' := 3) dX5_figures_1 (by decide) rfl rfl ?_
  refine v_iload_n (pc' := 4) dX5_figures_3 rfl rfl ?_
  refine v_iconst (pc' := 5) dX5_figures_4 kc_3 rfl ?_
  refine v_icmp_ne (tgt := 13) (pc' := 8) dX5_figures_5 (by decide) rfl (fun c_5 => ?_) (fun c_5 => ?_)
  · refine v_iload_n (pc' := 14) dX5_figures_13 rfl rfl ?_
    refine v_iconst (pc' := 15) dX5_figures_14 kc_2 rfl ?_
    refine v_icmp_ne (tgt := 23) (pc' := 18) dX5_figures_15 (by decide) rfl (fun c_15 => ?_) (fun c_15 => ?_)
    · exact absurd rfl c_15
    · refine v_bipush (pc' := 20) dX5_figures_18 kb_10 rfl ?_
      refine v_goto (tgt := 24) dX5_figures_20 (by decide) ?_
      refine v_istore6 (pc' := 26) dX5_figures_24 (by decide) rfl rfl ?_
      have h9 := m_figL (sz := sz) hl k0 kT hT ah hah 2 lo hi k hlo hhi 2 0 k none none rfl rfl (by omega) (by omega) hk rfl
      rw [Nat.zero_mul, show z_up I d 9 (nI k) = I by rw [← hsp, z_up_self]] at h9
      exact h9
  · exact absurd c_5 (by decide)
set_option maxRecDepth 20000 in
set_option maxHeartbeats 4000000 in
theorem m_figuresW2 (hl : l.stackTraces = false) (k0 : (d, sMd d) ∈ G) (kT : (d + 1, sI E 0 120) ∈ G) (hT : MT I d T n) (lo3 hi3 : Int32) {g3 : Int32} (hg3 : g3 = nI 2) : z_CI E l mX5_figures 2 [.ref d, .int (-1), .int g3, .int lo3, .int hi3] G I sz (fun y9 I' => y9 = -1 ∧ I' = I) := by
  subst hg3
  refine z_Ct.of hl pn_X5 [some (.ref d), some (.int (-1)), some (.int (nI 2)), some (.int lo3), some (.int hi3), none, none, none, none] rfl (Nat.le_of_ble_eq_true rfl) ?_
  refine v_iconst (pc' := 1) dX5_figures_0 kc_0 rfl ?_
  refine v_istore5 (pc' := 3) dX5_figures_1 (by decide) rfl rfl ?_
  refine v_iload_n (pc' := 4) dX5_figures_3 rfl rfl ?_
  refine v_iconst (pc' := 5) dX5_figures_4 kc_3 rfl ?_
  refine v_icmp_ne (tgt := 13) (pc' := 8) dX5_figures_5 (by decide) rfl (fun c_5 => ?_) (fun c_5 => ?_)
  · refine v_iload_n (pc' := 14) dX5_figures_13 rfl rfl ?_
    refine v_iconst (pc' := 15) dX5_figures_14 kc_2 rfl ?_
    refine v_icmp_ne (tgt := 23) (pc' := 18) dX5_figures_15 (by decide) rfl (fun c_15 => ?_) (fun c_15 => ?_)
    · exact absurd rfl c_15
    · refine v_bipush (pc' := 20) dX5_figures_18 kb_10 rfl ?_
      refine v_goto (tgt := 24) dX5_figures_20 (by decide) ?_
      refine v_istore6 (pc' := 26) dX5_figures_24 (by decide) rfl rfl ?_
      refine v_iload (pc' := 28) dX5_figures_26 rfl rfl ?_
      refine v_if_le (tgt := 132) (pc' := 31) dX5_figures_28 (by decide) rfl (fun c_28 => ?_) (fun c_28 => ?_)
      · refine v_iload_n (pc' := 133) dX5_figures_132 rfl rfl ?_
        refine v_iconst (pc' := 134) dX5_figures_133 kc_m1 rfl ?_
        refine v_icmp_ne (tgt := 141) (pc' := 137) dX5_figures_134 (by decide) rfl (fun c_134 => ?_) (fun c_134 => ?_)
        · exact absurd rfl c_134
        · refine v_iconst (pc' := 138) dX5_figures_137 kc_m1 rfl ?_
          refine v_goto (tgt := 143) dX5_figures_138 (by decide) ?_
          exact v_iret dX5_figures_143 rfl (Nat.le_refl _) (Nat.le_refl _) ⟨_, rfl, rfl, rfl, rfl, rfl⟩
      · refine v_iload_n (pc' := 32) dX5_figures_31 rfl rfl ?_
        refine v_iconst (pc' := 33) dX5_figures_32 kc_m1 rfl ?_
        refine v_icmp_eq (tgt := 132) (pc' := 36) dX5_figures_33 (by decide) rfl (fun c_33 => ?_) (fun c_33 => ?_)
        · refine v_iload_n (pc' := 133) dX5_figures_132 rfl rfl ?_
          refine v_iconst (pc' := 134) dX5_figures_133 kc_m1 rfl ?_
          refine v_icmp_ne (tgt := 141) (pc' := 137) dX5_figures_134 (by decide) rfl (fun c_134 => ?_) (fun c_134 => ?_)
          · exact absurd rfl c_134
          · refine v_iconst (pc' := 138) dX5_figures_137 kc_m1 rfl ?_
            refine v_goto (tgt := 143) dX5_figures_138 (by decide) ?_
            exact v_iret dX5_figures_143 rfl (Nat.le_refl _) (Nat.le_refl _) ⟨_, rfl, rfl, rfl, rfl, rfl⟩
        · exact absurd rfl c_33
  · exact absurd c_5 (by decide)
set_option maxRecDepth 20000 in
set_option maxHeartbeats 4000000 in
theorem m_figures3 (hl : l.stackTraces = false) (k0 : (d, sMd d) ∈ G) (kT : (d + 1, sI E 0 120) ∈ G) (hT : MT I d T n) (ah : Int32) (hah : ¬ ah = -1) (lo hi k : Nat) (hlo : lo ≤ 1000) (hhi : hi ≤ 996) (hk : k ≤ n) (hsp : I d 9 = nI k) {g3 lo3 hi3 : Int32} (hg3 : g3 = nI 3) (hlo3 : lo3 = nI lo) (hhi3 : hi3 = nI hi) : z_CI E l mX5_figures 2 [.ref d, .int ah, .int g3, .int lo3, .int hi3] G I sz (fun y9 I' => (y9 = rv (p_rn T n lo hi 3 0 k).1 ∧ I' = z_up I d 9 (nI (p_rn T n lo hi 3 0 k).2))) := by
  subst hg3; subst hlo3; subst hhi3
  refine z_Ct.of hl pn_X5 [some (.ref d), some (.int ah), some (.int (nI 3)), some (.int (nI lo)), some (.int (nI hi)), none, none, none, none] rfl (Nat.le_of_ble_eq_true rfl) ?_
  refine v_iconst (pc' := 1) dX5_figures_0 kc_0 rfl ?_
  refine v_istore5 (pc' := 3) dX5_figures_1 (by decide) rfl rfl ?_
  refine v_iload_n (pc' := 4) dX5_figures_3 rfl rfl ?_
  refine v_iconst (pc' := 5) dX5_figures_4 kc_3 rfl ?_
  refine v_icmp_ne (tgt := 13) (pc' := 8) dX5_figures_5 (by decide) rfl (fun c_5 => ?_) (fun c_5 => ?_)
  · exact absurd rfl c_5
  · refine v_bipush (pc' := 10) dX5_figures_8 kb_100 rfl ?_
    refine v_goto (tgt := 24) dX5_figures_10 (by decide) ?_
    refine v_istore6 (pc' := 26) dX5_figures_24 (by decide) rfl rfl ?_
    have h9 := m_figL (sz := sz) hl k0 kT hT ah hah 3 lo hi k hlo hhi 3 0 k none none rfl rfl (by omega) (by omega) hk rfl
    rw [Nat.zero_mul, show z_up I d 9 (nI k) = I by rw [← hsp, z_up_self]] at h9
    exact h9
set_option maxRecDepth 20000 in
set_option maxHeartbeats 4000000 in
theorem m_figuresW3 (hl : l.stackTraces = false) (k0 : (d, sMd d) ∈ G) (kT : (d + 1, sI E 0 120) ∈ G) (hT : MT I d T n) (lo3 hi3 : Int32) {g3 : Int32} (hg3 : g3 = nI 3) : z_CI E l mX5_figures 2 [.ref d, .int (-1), .int g3, .int lo3, .int hi3] G I sz (fun y9 I' => y9 = -1 ∧ I' = I) := by
  subst hg3
  refine z_Ct.of hl pn_X5 [some (.ref d), some (.int (-1)), some (.int (nI 3)), some (.int lo3), some (.int hi3), none, none, none, none] rfl (Nat.le_of_ble_eq_true rfl) ?_
  refine v_iconst (pc' := 1) dX5_figures_0 kc_0 rfl ?_
  refine v_istore5 (pc' := 3) dX5_figures_1 (by decide) rfl rfl ?_
  refine v_iload_n (pc' := 4) dX5_figures_3 rfl rfl ?_
  refine v_iconst (pc' := 5) dX5_figures_4 kc_3 rfl ?_
  refine v_icmp_ne (tgt := 13) (pc' := 8) dX5_figures_5 (by decide) rfl (fun c_5 => ?_) (fun c_5 => ?_)
  · exact absurd rfl c_5
  · refine v_bipush (pc' := 10) dX5_figures_8 kb_100 rfl ?_
    refine v_goto (tgt := 24) dX5_figures_10 (by decide) ?_
    refine v_istore6 (pc' := 26) dX5_figures_24 (by decide) rfl rfl ?_
    refine v_iload (pc' := 28) dX5_figures_26 rfl rfl ?_
    refine v_if_le (tgt := 132) (pc' := 31) dX5_figures_28 (by decide) rfl (fun c_28 => ?_) (fun c_28 => ?_)
    · refine v_iload_n (pc' := 133) dX5_figures_132 rfl rfl ?_
      refine v_iconst (pc' := 134) dX5_figures_133 kc_m1 rfl ?_
      refine v_icmp_ne (tgt := 141) (pc' := 137) dX5_figures_134 (by decide) rfl (fun c_134 => ?_) (fun c_134 => ?_)
      · exact absurd rfl c_134
      · refine v_iconst (pc' := 138) dX5_figures_137 kc_m1 rfl ?_
        refine v_goto (tgt := 143) dX5_figures_138 (by decide) ?_
        exact v_iret dX5_figures_143 rfl (Nat.le_refl _) (Nat.le_refl _) ⟨_, rfl, rfl, rfl, rfl, rfl⟩
    · refine v_iload_n (pc' := 32) dX5_figures_31 rfl rfl ?_
      refine v_iconst (pc' := 33) dX5_figures_32 kc_m1 rfl ?_
      refine v_icmp_eq (tgt := 132) (pc' := 36) dX5_figures_33 (by decide) rfl (fun c_33 => ?_) (fun c_33 => ?_)
      · refine v_iload_n (pc' := 133) dX5_figures_132 rfl rfl ?_
        refine v_iconst (pc' := 134) dX5_figures_133 kc_m1 rfl ?_
        refine v_icmp_ne (tgt := 141) (pc' := 137) dX5_figures_134 (by decide) rfl (fun c_134 => ?_) (fun c_134 => ?_)
        · exact absurd rfl c_134
        · refine v_iconst (pc' := 138) dX5_figures_137 kc_m1 rfl ?_
          refine v_goto (tgt := 143) dX5_figures_138 (by decide) ?_
          exact v_iret dX5_figures_143 rfl (Nat.le_refl _) (Nat.le_refl _) ⟨_, rfl, rfl, rfl, rfl, rfl⟩
      · exact absurd rfl c_33
end MOD8
