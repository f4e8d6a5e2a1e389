/-! THE CLASS: a script's commands; remembered states (written by wip/whole/gen_script.py) -/
def q_gb (r : zR) (how f : Nat) : Bool :=
  if how = 1 then decide (f % 10 = 0) && p_canb r (nI (f / 1000)) (nI (f / 10 % 100))
  else if how = 2 then decide (f / 100 = 0) && z_in (nI (f % 100)) 1 60
  else if how = 3 then decide (f % 100 = 0) && p_isStripe (nI (f / 100))
  else if how = 4 then decide (f % 100 = 0) && p_isStripe (nI (f / 100))
  else if how = 5 then decide (f % 1000 = 0) && p_cans r (nI (f / 1000))
  else if how = 6 then decide (f % 1000 < 10) && (p_isTask r (nI (f / 1000)) && decide (tf r (f / 1000) 4 = nI (f % 10)))
  else if how = 7 then p_isTask r (nI (f / 1000)) && decide (tf r (f / 1000) 1 = nI (f % 1000))
  else if how = 8 then decide (f % 100 ≤ 9) && (p_isStripe (nI (f / 100)) && decide (p_taker r (nI (f / 100)) = if f % 10 = 9 then -1 else nI (f % 10)))
  else if how = 9 then decide (f / 100 = 0) && decide (p_idle r ≤ nI (f % 100))
  else false
def q_g (r : zR) (how f : Nat) : zR :=
  if how = 1 then (if f % 10 = 0 then t_job r (nI (f / 1000)) (nI (f / 10 % 100)) else r)
  else if how = 2 then (if f / 100 = 0 then t_run r (nI (f % 100)) else r)
  else if how = 3 then (if f % 100 = 0 then t_bad r (nI (f / 100)) else r)
  else if how = 4 then (if f % 100 = 0 then t_mend r (nI (f / 100)) else r)
  else if how = 5 then (if f % 1000 = 0 then t_stop r (nI (f / 1000)) else r)
  else r
theorem WF_g {r : zR} (h : WF r) (how f : Nat) : WF (q_g r how f) := by
  unfold q_g
  split
  · split
    · exact WF_tjob h _ _
    · exact h
  split
  · split
    · exact WF_trun h _
    · exact h
  split
  · split
    · exact WF_tbad h _
    · exact h
  split
  · split
    · exact WF_tmend h _
    · exact h
  split
  · split
    · exact WF_tstop h _
    · exact h
  · exact h
theorem nI_is0 {a : Nat} (h : a < 2 ^ 31) : (nI a = 0) = (a = 0) := propext (nI_eq (b := 0) h (by omega))
theorem p_idle_r {r : zR} (h : WF r) : 0 ≤ (p_idle r).toInt ∧ (p_idle r).toInt ≤ 94 := by
  unfold p_idle
  by_cases hj : r 5 = -1
  · rw [if_pos hj, i_0]; omega
  · rw [if_neg hj]
    have j := (h.jb hj).2.2.2.1
    have s := h.2.2.2.2.1.2.1
    split
    · rw [I32_add (by omega) (by omega)]; omega
    · rw [Int32.add_zero]; omega
section SCRIPT
variable {E : zE} {l : Launch} {G : zG} {I : zI} {sz a n : Nat} {r : zR}
set_option maxRecDepth 20000 in
set_option maxHeartbeats 4000000 in
theorem c4_without (hl : l.stackTraces = false) (s k : Nat) (hs : s < 2 ^ 63) (hk : k < 100) {s3 : Int64} (hs3 : s3 = lN s) {k3 : Int32} (hk3 : k3 = nI k) : z_CR E l mX4_withoutLastGroups 0 [.long s3, .int k3] G I sz (.long (lN (s / 100000 ^ k))) := by
  subst hs3; subst hk3
  have loop : ∀ (i j x : Nat), k = j + i → x < 2 ^ 63 → x / 100000 ^ i = s / 100000 ^ k → z_V E l mX4_withoutLastGroups (z_rm 0 0 0) 0 0 (z_q (fun v' G' I' sz' => v' = some (.long (lN (s / 100000 ^ k))) ∧ G' = G ∧ I' = I ∧ sz' = sz)) 0 0 G I sz 5 [some (.long (lN s)), none, some (.int (nI k)), some (.long (lN x)), none, some (.int (nI j))] [] := by
    intro i
    induction i with
    | zero =>
      intro j x hj hx hp
      rw [Nat.pow_zero, Nat.div_one] at hp
      refine v_iload (pc' := 7) dX4_withoutLastGroups_5 rfl rfl ?_
      refine v_iload_n (pc' := 8) dX4_withoutLastGroups_7 rfl rfl ?_
      refine v_icmp_ge (tgt := 23) (pc' := 11) dX4_withoutLastGroups_8 (by decide) rfl (fun c_8 => ?_) (fun c_8 => ?_)
      · refine v_lload_n (pc' := 24) dX4_withoutLastGroups_23 rfl rfl ?_
        exact v_lret dX4_withoutLastGroups_24 rfl (Nat.le_refl _) (Nat.le_refl _) (z_rd (by rw [hp]))
      · exact absurd (nI_le (by omega) (by omega)) c_8
    | succ i ih =>
      intro j x hj hx hp
      refine v_iload (pc' := 7) dX4_withoutLastGroups_5 rfl rfl ?_
      refine v_iload_n (pc' := 8) dX4_withoutLastGroups_7 rfl rfl ?_
      refine v_icmp_ge (tgt := 23) (pc' := 11) dX4_withoutLastGroups_8 (by decide) rfl (fun c_8 => ?_) (fun c_8 => ?_)
      · exact absurd c_8 (nI_ge (by omega) (by omega))
      · refine v_lload_n (pc' := 12) dX4_withoutLastGroups_11 rfl rfl ?_
        refine v_ldc2 (pc' := 15) dX4_withoutLastGroups_12 cn_X4_260 rfl ?_
        refine v_ldiv (pc' := 16) dX4_withoutLastGroups_15 (by decide) rfl ?_
        rw [show (lN x / 100000 : Int64) = lN (x / 100000) from pk_lDiv (b := 100000) (by omega) (by omega) (by omega)]
        refine v_lstore_n3 (pc' := 17) dX4_withoutLastGroups_16 (by decide) rfl rfl ?_
        refine v_iinc5 (pc' := 20) dX4_withoutLastGroups_17 (by decide) rfl kc_1 (nI_1 j) rfl ?_
        refine v_goto (tgt := 5) dX4_withoutLastGroups_20 (by decide) ?_
        exact ih (j + 1) (x / 100000) (by omega) (by omega) (by rw [← hp, Nat.pow_succ, Nat.mul_comm, Nat.div_div_eq_div_mul])
  refine z_Ct.of hl pn_X4 [some (.long (lN s)), none, some (.int (nI k)), none, none, none] rfl (Nat.le_of_ble_eq_true rfl) ?_
  refine v_lload_n (pc' := 1) dX4_withoutLastGroups_0 rfl rfl ?_
  refine v_lstore_n3 (pc' := 2) dX4_withoutLastGroups_1 (by decide) rfl rfl ?_
  refine v_iconst (pc' := 3) dX4_withoutLastGroups_2 kc_0 rfl ?_
  refine v_istore5 (pc' := 5) dX4_withoutLastGroups_3 (by decide) rfl rfl ?_
  exact loop k 0 s (by omega) hs rfl
set_option maxRecDepth 20000 in
set_option maxHeartbeats 4000000 in
theorem c4_grp_1 (hl : l.stackTraces = false) (hS : ShS E G a) (hA : Abs I a r) (hW : WF r) (g : Nat) (hg : g < 100000) (hc : g / 10000 = 1) : z_CI E l mX4_obeyGroup 7 [.ref a, .int (nI g)] G I sz (fun x I' => (x = z_b (q_gb r (g / 10000) (g % 10000)) ∧ Abs I' a (q_g r (g / 10000) (g % 10000)) ∧ Fr I I' a)) := by
  have h0 := hS.1
  refine z_Ct.of hl pn_X4 [some (.ref a), some (.int (nI g)), none, none, none, none, none, none, none] rfl (Nat.le_of_ble_eq_true rfl) ?_
  refine v_iload_n (pc' := 1) dX4_obeyGroup_0 rfl rfl ?_
  refine v_sipush (pc' := 4) dX4_obeyGroup_1 ks_10000 rfl ?_
  skip
  refine v_irem (pc' := 5) dX4_obeyGroup_4 (by decide) rfl ?_
  rw [show nI (g) - nI (g) / (10000 : Int32) * 10000 = nI ((g) % 10000) from pk_rem (d := 10000) (by omega) (by omega) (by omega)]
  refine v_istore_n2 (pc' := 6) dX4_obeyGroup_5 (by decide) rfl rfl ?_
  refine v_iload_n (pc' := 7) dX4_obeyGroup_6 rfl rfl ?_
  refine v_sipush (pc' := 10) dX4_obeyGroup_7 ks_1000 rfl ?_
  refine v_idiv (pc' := 11) dX4_obeyGroup_10 (by decide) rfl ?_
  rw [show nI (g % 10000) / (1000 : Int32) = nI ((g % 10000) / 1000) from pk_div (d := 1000) (by omega) (by omega) (by omega)]
  refine v_istore_n3 (pc' := 12) dX4_obeyGroup_11 (by decide) rfl rfl ?_
  refine v_iload_n (pc' := 13) dX4_obeyGroup_12 rfl rfl ?_
  refine v_bipush (pc' := 15) dX4_obeyGroup_13 kb_10 rfl ?_
  refine v_idiv (pc' := 16) dX4_obeyGroup_15 (by decide) rfl ?_
  rw [show nI (g % 10000) / (10 : Int32) = nI ((g % 10000) / 10) from pk_div (d := 10) (by omega) (by omega) (by omega)]
  refine v_bipush (pc' := 18) dX4_obeyGroup_16 kb_10 rfl ?_
  refine v_irem (pc' := 19) dX4_obeyGroup_18 (by decide) rfl ?_
  rw [show nI (g % 10000 / 10) - nI (g % 10000 / 10) / (10 : Int32) * 10 = nI ((g % 10000 / 10) % 10) from pk_rem (d := 10) (by omega) (by omega) (by omega)]
  refine v_istore4 (pc' := 21) dX4_obeyGroup_19 (by decide) rfl rfl ?_
  refine v_iload_n (pc' := 22) dX4_obeyGroup_21 rfl rfl ?_
  refine v_bipush (pc' := 24) dX4_obeyGroup_22 kb_10 rfl ?_
  refine v_irem (pc' := 25) dX4_obeyGroup_24 (by decide) rfl ?_
  rw [show nI (g % 10000) - nI (g % 10000) / (10 : Int32) * 10 = nI ((g % 10000) % 10) from pk_rem (d := 10) (by omega) (by omega) (by omega)]
  refine v_istore5 (pc' := 27) dX4_obeyGroup_25 (by decide) rfl rfl ?_
  refine v_iload_n (pc' := 28) dX4_obeyGroup_27 rfl rfl ?_
  refine v_bipush (pc' := 30) dX4_obeyGroup_28 kb_100 rfl ?_
  refine v_idiv (pc' := 31) dX4_obeyGroup_30 (by decide) rfl ?_
  rw [show nI (g % 10000) / (100 : Int32) = nI ((g % 10000) / 100) from pk_div (d := 100) (by omega) (by omega) (by omega)]
  refine v_istore6 (pc' := 33) dX4_obeyGroup_31 (by decide) rfl rfl ?_
  refine v_iload_n (pc' := 34) dX4_obeyGroup_33 rfl rfl ?_
  refine v_sipush (pc' := 37) dX4_obeyGroup_34 ks_1000 rfl ?_
  refine v_irem (pc' := 38) dX4_obeyGroup_37 (by decide) rfl ?_
  rw [show nI (g % 10000) - nI (g % 10000) / (1000 : Int32) * 1000 = nI ((g % 10000) % 1000) from pk_rem (d := 1000) (by omega) (by omega) (by omega)]
  refine v_istore7 (pc' := 40) dX4_obeyGroup_38 (by decide) rfl rfl ?_
  refine v_iload_n (pc' := 41) dX4_obeyGroup_40 rfl rfl ?_
  refine v_bipush (pc' := 43) dX4_obeyGroup_41 kb_100 rfl ?_
  refine v_irem (pc' := 44) dX4_obeyGroup_43 (by decide) rfl ?_
  rw [show nI (g % 10000) - nI (g % 10000) / (100 : Int32) * 100 = nI ((g % 10000) % 100) from pk_rem (d := 100) (by omega) (by omega) (by omega)]
  refine v_istore8 (pc' := 46) dX4_obeyGroup_44 (by decide) rfl rfl ?_
  refine v_iload_n (pc' := 47) dX4_obeyGroup_46 rfl rfl ?_
  refine v_sipush (pc' := 50) dX4_obeyGroup_47 ks_10000 rfl ?_
  refine v_idiv (pc' := 51) dX4_obeyGroup_50 (by decide) rfl ?_
  rw [show nI (g) / (10000 : Int32) = nI ((g) / 10000) from pk_div (d := 10000) (by omega) (by omega) (by omega)]
  refine v_tableIn (tgt := 100) 0 dX4_obeyGroup_51 (by rw [nI_toInt (by omega)]; omega) (by decide) rfl (by decide) ?_
  refine v_iload (pc' := 102) dX4_obeyGroup_100 rfl rfl ?_
  refine v_if_ne (tgt := 123) (pc' := 105) dX4_obeyGroup_102 (by decide) rfl (fun c_102 => ?_) (fun c_102 => ?_)
  · rw [nI_is0 (by omega)] at c_102
    refine v_iconst (pc' := 124) dX4_obeyGroup_123 kc_0 rfl ?_
    exact v_zret dX4_obeyGroup_124 rfl (Nat.le_refl _) (Nat.le_refl _) rfl ⟨_, rfl, rfl, rfl, by
      simp only [q_gb, hc]
      first
        | rfl
        | (rw [decide_eq_false c2]; rfl)
        | (simp [z_b, *]; done)
        | (simp_all [z_b]; done), by
      simp only [q_g, hc]
      first
        | exact hA2
        | (simp [*]; done)
        | (simp [*]; exact hA2)
        | (simp [*]; exact hA)
        | (simp_all; done), by first | exact hF2 | exact Fr.rf⟩
  · rw [nI_is0 (by omega)] at c_102
    refine v_aload_n (pc' := 106) dX4_obeyGroup_105 rfl rfl ?_
    refine v_iload_n (pc' := 107) dX4_obeyGroup_106 rfl rfl ?_
    refine v_iload (pc' := 109) dX4_obeyGroup_107 rfl rfl ?_
    refine v_bipush (pc' := 111) dX4_obeyGroup_109 kb_10 rfl ?_
    refine v_idiv (pc' := 112) dX4_obeyGroup_111 (by decide) rfl ?_
    rw [show nI (g % 10000 % 1000) / (10 : Int32) = nI ((g % 10000 % 1000) / 10) from pk_div (d := 10) (by omega) (by omega) (by omega)]
    rw [show (g % 10000 % 1000 / 10) = g % 10000 / 10 % 100 by omega]
    refine v_cVI (pc' := 115) (c1_tjob hl hS hA hW (nI (g % 10000 / 1000)) (nI (g % 10000 / 10 % 100))) dX4_obeyGroup_112 lk_X4_201 mwX1_startJob miX1_startJob h0 rfl rfl rfl rfl (by decide) (Nat.le_of_ble_eq_true rfl) rfl ?_
    rintro x9 I2 ⟨rfl, hA2, hF2⟩
    refine v_iconst (pc' := 116) dX4_obeyGroup_115 kc_m1 rfl ?_
    refine v_icmp_eq (tgt := 123) (pc' := 119) dX4_obeyGroup_116 (by decide) rfl (fun c_116 => ?_) (fun c_116 => ?_)
    · rw [t_jobv_ne hW] at c_116
      refine v_iconst (pc' := 124) dX4_obeyGroup_123 kc_0 rfl ?_
      exact v_zret dX4_obeyGroup_124 rfl (Nat.le_refl _) (Nat.le_refl _) rfl ⟨_, rfl, rfl, rfl, by
        simp only [q_gb, hc]
        first
          | rfl
          | (rw [decide_eq_false c2]; rfl)
          | (simp [z_b, *]; done)
          | (simp_all [z_b]; done), by
        simp only [q_g, hc]
        first
          | exact hA2
          | (simp [*]; done)
          | (simp [*]; exact hA2)
          | (simp [*]; exact hA)
          | (simp_all; done), by first | exact hF2 | exact Fr.rf⟩
    · rw [t_jobv_ne hW] at c_116
      rw [Classical.not_not] at c_116
      refine v_iconst (pc' := 120) dX4_obeyGroup_119 kc_1 rfl ?_
      refine v_goto (tgt := 124) dX4_obeyGroup_120 (by decide) ?_
      exact v_zret dX4_obeyGroup_124 rfl (Nat.le_refl _) (Nat.le_refl _) rfl ⟨_, rfl, rfl, rfl, by
        simp only [q_gb, hc]
        first
          | rfl
          | (rw [decide_eq_false c2]; rfl)
          | (simp [z_b, *]; done)
          | (simp_all [z_b]; done), by
        simp only [q_g, hc]
        first
          | exact hA2
          | (simp [*]; done)
          | (simp [*]; exact hA2)
          | (simp [*]; exact hA)
          | (simp_all; done), by first | exact hF2 | exact Fr.rf⟩
set_option maxRecDepth 20000 in
set_option maxHeartbeats 4000000 in
theorem c4_grp_2 (hl : l.stackTraces = false) (hS : ShS E G a) (hA : Abs I a r) (hW : WF r) (g : Nat) (hg : g < 100000) (hc : g / 10000 = 2) : z_CI E l mX4_obeyGroup 7 [.ref a, .int (nI g)] G I sz (fun x I' => (x = z_b (q_gb r (g / 10000) (g % 10000)) ∧ Abs I' a (q_g r (g / 10000) (g % 10000)) ∧ Fr I I' a)) := by
  have h0 := hS.1
  refine z_Ct.of hl pn_X4 [some (.ref a), some (.int (nI g)), none, none, none, none, none, none, none] rfl (Nat.le_of_ble_eq_true rfl) ?_
  refine v_iload_n (pc' := 1) dX4_obeyGroup_0 rfl rfl ?_
  refine v_sipush (pc' := 4) dX4_obeyGroup_1 ks_10000 rfl ?_
  skip
  refine v_irem (pc' := 5) dX4_obeyGroup_4 (by decide) rfl ?_
  rw [show nI (g) - nI (g) / (10000 : Int32) * 10000 = nI ((g) % 10000) from pk_rem (d := 10000) (by omega) (by omega) (by omega)]
  refine v_istore_n2 (pc' := 6) dX4_obeyGroup_5 (by decide) rfl rfl ?_
  refine v_iload_n (pc' := 7) dX4_obeyGroup_6 rfl rfl ?_
  refine v_sipush (pc' := 10) dX4_obeyGroup_7 ks_1000 rfl ?_
  refine v_idiv (pc' := 11) dX4_obeyGroup_10 (by decide) rfl ?_
  rw [show nI (g % 10000) / (1000 : Int32) = nI ((g % 10000) / 1000) from pk_div (d := 1000) (by omega) (by omega) (by omega)]
  refine v_istore_n3 (pc' := 12) dX4_obeyGroup_11 (by decide) rfl rfl ?_
  refine v_iload_n (pc' := 13) dX4_obeyGroup_12 rfl rfl ?_
  refine v_bipush (pc' := 15) dX4_obeyGroup_13 kb_10 rfl ?_
  refine v_idiv (pc' := 16) dX4_obeyGroup_15 (by decide) rfl ?_
  rw [show nI (g % 10000) / (10 : Int32) = nI ((g % 10000) / 10) from pk_div (d := 10) (by omega) (by omega) (by omega)]
  refine v_bipush (pc' := 18) dX4_obeyGroup_16 kb_10 rfl ?_
  refine v_irem (pc' := 19) dX4_obeyGroup_18 (by decide) rfl ?_
  rw [show nI (g % 10000 / 10) - nI (g % 10000 / 10) / (10 : Int32) * 10 = nI ((g % 10000 / 10) % 10) from pk_rem (d := 10) (by omega) (by omega) (by omega)]
  refine v_istore4 (pc' := 21) dX4_obeyGroup_19 (by decide) rfl rfl ?_
  refine v_iload_n (pc' := 22) dX4_obeyGroup_21 rfl rfl ?_
  refine v_bipush (pc' := 24) dX4_obeyGroup_22 kb_10 rfl ?_
  refine v_irem (pc' := 25) dX4_obeyGroup_24 (by decide) rfl ?_
  rw [show nI (g % 10000) - nI (g % 10000) / (10 : Int32) * 10 = nI ((g % 10000) % 10) from pk_rem (d := 10) (by omega) (by omega) (by omega)]
  refine v_istore5 (pc' := 27) dX4_obeyGroup_25 (by decide) rfl rfl ?_
  refine v_iload_n (pc' := 28) dX4_obeyGroup_27 rfl rfl ?_
  refine v_bipush (pc' := 30) dX4_obeyGroup_28 kb_100 rfl ?_
  refine v_idiv (pc' := 31) dX4_obeyGroup_30 (by decide) rfl ?_
  rw [show nI (g % 10000) / (100 : Int32) = nI ((g % 10000) / 100) from pk_div (d := 100) (by omega) (by omega) (by omega)]
  refine v_istore6 (pc' := 33) dX4_obeyGroup_31 (by decide) rfl rfl ?_
  refine v_iload_n (pc' := 34) dX4_obeyGroup_33 rfl rfl ?_
  refine v_sipush (pc' := 37) dX4_obeyGroup_34 ks_1000 rfl ?_
  refine v_irem (pc' := 38) dX4_obeyGroup_37 (by decide) rfl ?_
  rw [show nI (g % 10000) - nI (g % 10000) / (1000 : Int32) * 1000 = nI ((g % 10000) % 1000) from pk_rem (d := 1000) (by omega) (by omega) (by omega)]
  refine v_istore7 (pc' := 40) dX4_obeyGroup_38 (by decide) rfl rfl ?_
  refine v_iload_n (pc' := 41) dX4_obeyGroup_40 rfl rfl ?_
  refine v_bipush (pc' := 43) dX4_obeyGroup_41 kb_100 rfl ?_
  refine v_irem (pc' := 44) dX4_obeyGroup_43 (by decide) rfl ?_
  rw [show nI (g % 10000) - nI (g % 10000) / (100 : Int32) * 100 = nI ((g % 10000) % 100) from pk_rem (d := 100) (by omega) (by omega) (by omega)]
  refine v_istore8 (pc' := 46) dX4_obeyGroup_44 (by decide) rfl rfl ?_
  refine v_iload_n (pc' := 47) dX4_obeyGroup_46 rfl rfl ?_
  refine v_sipush (pc' := 50) dX4_obeyGroup_47 ks_10000 rfl ?_
  refine v_idiv (pc' := 51) dX4_obeyGroup_50 (by decide) rfl ?_
  rw [show nI (g) / (10000 : Int32) = nI ((g) / 10000) from pk_div (d := 10000) (by omega) (by omega) (by omega)]
  refine v_tableIn (tgt := 125) 1 dX4_obeyGroup_51 (by rw [nI_toInt (by omega)]; omega) (by decide) rfl (by decide) ?_
  refine v_iload (pc' := 127) dX4_obeyGroup_125 rfl rfl ?_
  refine v_if_ne (tgt := 144) (pc' := 130) dX4_obeyGroup_127 (by decide) rfl (fun c_127 => ?_) (fun c_127 => ?_)
  · rw [nI_is0 (by omega)] at c_127
    refine v_iconst (pc' := 145) dX4_obeyGroup_144 kc_0 rfl ?_
    exact v_zret dX4_obeyGroup_145 rfl (Nat.le_refl _) (Nat.le_refl _) rfl ⟨_, rfl, rfl, rfl, by
      simp only [q_gb, hc]
      first
        | rfl
        | (rw [decide_eq_false c2]; rfl)
        | (simp [z_b, *]; done)
        | (simp_all [z_b]; done), by
      simp only [q_g, hc]
      first
        | exact hA2
        | (simp [*]; done)
        | (simp [*]; exact hA2)
        | (simp [*]; exact hA)
        | (simp_all; done), by first | exact hF2 | exact Fr.rf⟩
  · rw [nI_is0 (by omega)] at c_127
    refine v_aload_n (pc' := 131) dX4_obeyGroup_130 rfl rfl ?_
    refine v_iload (pc' := 133) dX4_obeyGroup_131 rfl rfl ?_
    refine v_cVI (pc' := 136) (c1_trun hl hS hA hW (nI (g % 10000 % 100))) dX4_obeyGroup_133 lk_X4_216 mwX1_passTicks miX1_passTicks h0 rfl rfl rfl rfl (by decide) (Nat.le_of_ble_eq_true rfl) rfl ?_
    rintro x9 I2 ⟨rfl, hA2, hF2⟩
    refine v_iconst (pc' := 137) dX4_obeyGroup_136 kc_m1 rfl ?_
    refine v_icmp_eq (tgt := 144) (pc' := 140) dX4_obeyGroup_137 (by decide) rfl (fun c_137 => ?_) (fun c_137 => ?_)
    · rw [t_runv_ne hW] at c_137
      refine v_iconst (pc' := 145) dX4_obeyGroup_144 kc_0 rfl ?_
      exact v_zret dX4_obeyGroup_145 rfl (Nat.le_refl _) (Nat.le_refl _) rfl ⟨_, rfl, rfl, rfl, by
        simp only [q_gb, hc]
        first
          | rfl
          | (rw [decide_eq_false c2]; rfl)
          | (simp [z_b, *]; done)
          | (simp_all [z_b]; done), by
        simp only [q_g, hc]
        first
          | exact hA2
          | (simp [*]; done)
          | (simp [*]; exact hA2)
          | (simp [*]; exact hA)
          | (simp_all; done), by first | exact hF2 | exact Fr.rf⟩
    · rw [t_runv_ne hW] at c_137
      rw [Classical.not_not] at c_137
      refine v_iconst (pc' := 141) dX4_obeyGroup_140 kc_1 rfl ?_
      refine v_goto (tgt := 145) dX4_obeyGroup_141 (by decide) ?_
      exact v_zret dX4_obeyGroup_145 rfl (Nat.le_refl _) (Nat.le_refl _) rfl ⟨_, rfl, rfl, rfl, by
        simp only [q_gb, hc]
        first
          | rfl
          | (rw [decide_eq_false c2]; rfl)
          | (simp [z_b, *]; done)
          | (simp_all [z_b]; done), by
        simp only [q_g, hc]
        first
          | exact hA2
          | (simp [*]; done)
          | (simp [*]; exact hA2)
          | (simp [*]; exact hA)
          | (simp_all; done), by first | exact hF2 | exact Fr.rf⟩
set_option maxRecDepth 20000 in
set_option maxHeartbeats 4000000 in
theorem c4_grp_3 (hl : l.stackTraces = false) (hS : ShS E G a) (hA : Abs I a r) (hW : WF r) (g : Nat) (hg : g < 100000) (hc : g / 10000 = 3) : z_CI E l mX4_obeyGroup 7 [.ref a, .int (nI g)] G I sz (fun x I' => (x = z_b (q_gb r (g / 10000) (g % 10000)) ∧ Abs I' a (q_g r (g / 10000) (g % 10000)) ∧ Fr I I' a)) := by
  have h0 := hS.1
  refine z_Ct.of hl pn_X4 [some (.ref a), some (.int (nI g)), none, none, none, none, none, none, none] rfl (Nat.le_of_ble_eq_true rfl) ?_
  refine v_iload_n (pc' := 1) dX4_obeyGroup_0 rfl rfl ?_
  refine v_sipush (pc' := 4) dX4_obeyGroup_1 ks_10000 rfl ?_
  skip
  refine v_irem (pc' := 5) dX4_obeyGroup_4 (by decide) rfl ?_
  rw [show nI (g) - nI (g) / (10000 : Int32) * 10000 = nI ((g) % 10000) from pk_rem (d := 10000) (by omega) (by omega) (by omega)]
  refine v_istore_n2 (pc' := 6) dX4_obeyGroup_5 (by decide) rfl rfl ?_
  refine v_iload_n (pc' := 7) dX4_obeyGroup_6 rfl rfl ?_
  refine v_sipush (pc' := 10) dX4_obeyGroup_7 ks_1000 rfl ?_
  refine v_idiv (pc' := 11) dX4_obeyGroup_10 (by decide) rfl ?_
  rw [show nI (g % 10000) / (1000 : Int32) = nI ((g % 10000) / 1000) from pk_div (d := 1000) (by omega) (by omega) (by omega)]
  refine v_istore_n3 (pc' := 12) dX4_obeyGroup_11 (by decide) rfl rfl ?_
  refine v_iload_n (pc' := 13) dX4_obeyGroup_12 rfl rfl ?_
  refine v_bipush (pc' := 15) dX4_obeyGroup_13 kb_10 rfl ?_
  refine v_idiv (pc' := 16) dX4_obeyGroup_15 (by decide) rfl ?_
  rw [show nI (g % 10000) / (10 : Int32) = nI ((g % 10000) / 10) from pk_div (d := 10) (by omega) (by omega) (by omega)]
  refine v_bipush (pc' := 18) dX4_obeyGroup_16 kb_10 rfl ?_
  refine v_irem (pc' := 19) dX4_obeyGroup_18 (by decide) rfl ?_
  rw [show nI (g % 10000 / 10) - nI (g % 10000 / 10) / (10 : Int32) * 10 = nI ((g % 10000 / 10) % 10) from pk_rem (d := 10) (by omega) (by omega) (by omega)]
  refine v_istore4 (pc' := 21) dX4_obeyGroup_19 (by decide) rfl rfl ?_
  refine v_iload_n (pc' := 22) dX4_obeyGroup_21 rfl rfl ?_
  refine v_bipush (pc' := 24) dX4_obeyGroup_22 kb_10 rfl ?_
  refine v_irem (pc' := 25) dX4_obeyGroup_24 (by decide) rfl ?_
  rw [show nI (g % 10000) - nI (g % 10000) / (10 : Int32) * 10 = nI ((g % 10000) % 10) from pk_rem (d := 10) (by omega) (by omega) (by omega)]
  refine v_istore5 (pc' := 27) dX4_obeyGroup_25 (by decide) rfl rfl ?_
  refine v_iload_n (pc' := 28) dX4_obeyGroup_27 rfl rfl ?_
  refine v_bipush (pc' := 30) dX4_obeyGroup_28 kb_100 rfl ?_
  refine v_idiv (pc' := 31) dX4_obeyGroup_30 (by decide) rfl ?_
  rw [show nI (g % 10000) / (100 : Int32) = nI ((g % 10000) / 100) from pk_div (d := 100) (by omega) (by omega) (by omega)]
  refine v_istore6 (pc' := 33) dX4_obeyGroup_31 (by decide) rfl rfl ?_
  refine v_iload_n (pc' := 34) dX4_obeyGroup_33 rfl rfl ?_
  refine v_sipush (pc' := 37) dX4_obeyGroup_34 ks_1000 rfl ?_
  refine v_irem (pc' := 38) dX4_obeyGroup_37 (by decide) rfl ?_
  rw [show nI (g % 10000) - nI (g % 10000) / (1000 : Int32) * 1000 = nI ((g % 10000) % 1000) from pk_rem (d := 1000) (by omega) (by omega) (by omega)]
  refine v_istore7 (pc' := 40) dX4_obeyGroup_38 (by decide) rfl rfl ?_
  refine v_iload_n (pc' := 41) dX4_obeyGroup_40 rfl rfl ?_
  refine v_bipush (pc' := 43) dX4_obeyGroup_41 kb_100 rfl ?_
  refine v_irem (pc' := 44) dX4_obeyGroup_43 (by decide) rfl ?_
  rw [show nI (g % 10000) - nI (g % 10000) / (100 : Int32) * 100 = nI ((g % 10000) % 100) from pk_rem (d := 100) (by omega) (by omega) (by omega)]
  refine v_istore8 (pc' := 46) dX4_obeyGroup_44 (by decide) rfl rfl ?_
  refine v_iload_n (pc' := 47) dX4_obeyGroup_46 rfl rfl ?_
  refine v_sipush (pc' := 50) dX4_obeyGroup_47 ks_10000 rfl ?_
  refine v_idiv (pc' := 51) dX4_obeyGroup_50 (by decide) rfl ?_
  rw [show nI (g) / (10000 : Int32) = nI ((g) / 10000) from pk_div (d := 10000) (by omega) (by omega) (by omega)]
  refine v_tableIn (tgt := 146) 2 dX4_obeyGroup_51 (by rw [nI_toInt (by omega)]; omega) (by decide) rfl (by decide) ?_
  refine v_iload (pc' := 148) dX4_obeyGroup_146 rfl rfl ?_
  refine v_if_ne (tgt := 164) (pc' := 151) dX4_obeyGroup_148 (by decide) rfl (fun c_148 => ?_) (fun c_148 => ?_)
  · rw [nI_is0 (by omega)] at c_148
    refine v_iconst (pc' := 165) dX4_obeyGroup_164 kc_0 rfl ?_
    exact v_zret dX4_obeyGroup_165 rfl (Nat.le_refl _) (Nat.le_refl _) rfl ⟨_, rfl, rfl, rfl, by
      simp only [q_gb, hc]
      first
        | rfl
        | (rw [decide_eq_false c2]; rfl)
        | (simp [z_b, *]; done)
        | (simp_all [z_b]; done), by
      simp only [q_g, hc]
      first
        | exact hA2
        | (simp [*]; done)
        | (simp [*]; exact hA2)
        | (simp [*]; exact hA)
        | (simp_all; done), by first | exact hF2 | exact Fr.rf⟩
  · rw [nI_is0 (by omega)] at c_148
    refine v_aload_n (pc' := 152) dX4_obeyGroup_151 rfl rfl ?_
    refine v_iload (pc' := 154) dX4_obeyGroup_152 rfl rfl ?_
    refine v_cSI (pc' := 157) (c4_tryToMakeBad hl hS hA hW (nI (g % 10000 / 100))) dX4_obeyGroup_154 lk_X4_279 mwX4_tryToMakeBad msX4_tryToMakeBad rfl rfl (by decide) (Nat.le_of_ble_eq_true rfl) rfl ?_
    rintro x9 I2 ⟨rfl, hA2, hF2⟩
    refine v_if_eq (tgt := 164) (pc' := 160) dX4_obeyGroup_157 (by decide) rfl (fun c_157 => ?_) (fun c_157 => ?_)
    · rw [z_b_eq0] at c_157
      refine v_iconst (pc' := 165) dX4_obeyGroup_164 kc_0 rfl ?_
      exact v_zret dX4_obeyGroup_165 rfl (Nat.le_refl _) (Nat.le_refl _) rfl ⟨_, rfl, rfl, rfl, by
        simp only [q_gb, hc]
        first
          | rfl
          | (rw [decide_eq_false c2]; rfl)
          | (simp [z_b, *]; done)
          | (simp_all [z_b]; done), by
        simp only [q_g, hc]
        first
          | exact hA2
          | (simp [*]; done)
          | (simp [*]; exact hA2)
          | (simp [*]; exact hA)
          | (simp_all; done), by first | exact hF2 | exact Fr.rf⟩
    · rw [z_b_ne0] at c_157
      refine v_iconst (pc' := 161) dX4_obeyGroup_160 kc_1 rfl ?_
      refine v_goto (tgt := 165) dX4_obeyGroup_161 (by decide) ?_
      exact v_zret dX4_obeyGroup_165 rfl (Nat.le_refl _) (Nat.le_refl _) rfl ⟨_, rfl, rfl, rfl, by
        simp only [q_gb, hc]
        first
          | rfl
          | (rw [decide_eq_false c2]; rfl)
          | (simp [z_b, *]; done)
          | (simp_all [z_b]; done), by
        simp only [q_g, hc]
        first
          | exact hA2
          | (simp [*]; done)
          | (simp [*]; exact hA2)
          | (simp [*]; exact hA)
          | (simp_all; done), by first | exact hF2 | exact Fr.rf⟩
set_option maxRecDepth 20000 in
set_option maxHeartbeats 4000000 in
theorem c4_grp_4 (hl : l.stackTraces = false) (hS : ShS E G a) (hA : Abs I a r) (hW : WF r) (g : Nat) (hg : g < 100000) (hc : g / 10000 = 4) : z_CI E l mX4_obeyGroup 7 [.ref a, .int (nI g)] G I sz (fun x I' => (x = z_b (q_gb r (g / 10000) (g % 10000)) ∧ Abs I' a (q_g r (g / 10000) (g % 10000)) ∧ Fr I I' a)) := by
  have h0 := hS.1
  refine z_Ct.of hl pn_X4 [some (.ref a), some (.int (nI g)), none, none, none, none, none, none, none] rfl (Nat.le_of_ble_eq_true rfl) ?_
  refine v_iload_n (pc' := 1) dX4_obeyGroup_0 rfl rfl ?_
  refine v_sipush (pc' := 4) dX4_obeyGroup_1 ks_10000 rfl ?_
  skip
  refine v_irem (pc' := 5) dX4_obeyGroup_4 (by decide) rfl ?_
  rw [show nI (g) - nI (g) / (10000 : Int32) * 10000 = nI ((g) % 10000) from pk_rem (d := 10000) (by omega) (by omega) (by omega)]
  refine v_istore_n2 (pc' := 6) dX4_obeyGroup_5 (by decide) rfl rfl ?_
  refine v_iload_n (pc' := 7) dX4_obeyGroup_6 rfl rfl ?_
  refine v_sipush (pc' := 10) dX4_obeyGroup_7 ks_1000 rfl ?_
  refine v_idiv (pc' := 11) dX4_obeyGroup_10 (by decide) rfl ?_
  rw [show nI (g % 10000) / (1000 : Int32) = nI ((g % 10000) / 1000) from pk_div (d := 1000) (by omega) (by omega) (by omega)]
  refine v_istore_n3 (pc' := 12) dX4_obeyGroup_11 (by decide) rfl rfl ?_
  refine v_iload_n (pc' := 13) dX4_obeyGroup_12 rfl rfl ?_
  refine v_bipush (pc' := 15) dX4_obeyGroup_13 kb_10 rfl ?_
  refine v_idiv (pc' := 16) dX4_obeyGroup_15 (by decide) rfl ?_
  rw [show nI (g % 10000) / (10 : Int32) = nI ((g % 10000) / 10) from pk_div (d := 10) (by omega) (by omega) (by omega)]
  refine v_bipush (pc' := 18) dX4_obeyGroup_16 kb_10 rfl ?_
  refine v_irem (pc' := 19) dX4_obeyGroup_18 (by decide) rfl ?_
  rw [show nI (g % 10000 / 10) - nI (g % 10000 / 10) / (10 : Int32) * 10 = nI ((g % 10000 / 10) % 10) from pk_rem (d := 10) (by omega) (by omega) (by omega)]
  refine v_istore4 (pc' := 21) dX4_obeyGroup_19 (by decide) rfl rfl ?_
  refine v_iload_n (pc' := 22) dX4_obeyGroup_21 rfl rfl ?_
  refine v_bipush (pc' := 24) dX4_obeyGroup_22 kb_10 rfl ?_
  refine v_irem (pc' := 25) dX4_obeyGroup_24 (by decide) rfl ?_
  rw [show nI (g % 10000) - nI (g % 10000) / (10 : Int32) * 10 = nI ((g % 10000) % 10) from pk_rem (d := 10) (by omega) (by omega) (by omega)]
  refine v_istore5 (pc' := 27) dX4_obeyGroup_25 (by decide) rfl rfl ?_
  refine v_iload_n (pc' := 28) dX4_obeyGroup_27 rfl rfl ?_
  refine v_bipush (pc' := 30) dX4_obeyGroup_28 kb_100 rfl ?_
  refine v_idiv (pc' := 31) dX4_obeyGroup_30 (by decide) rfl ?_
  rw [show nI (g % 10000) / (100 : Int32) = nI ((g % 10000) / 100) from pk_div (d := 100) (by omega) (by omega) (by omega)]
  refine v_istore6 (pc' := 33) dX4_obeyGroup_31 (by decide) rfl rfl ?_
  refine v_iload_n (pc' := 34) dX4_obeyGroup_33 rfl rfl ?_
  refine v_sipush (pc' := 37) dX4_obeyGroup_34 ks_1000 rfl ?_
  refine v_irem (pc' := 38) dX4_obeyGroup_37 (by decide) rfl ?_
  rw [show nI (g % 10000) - nI (g % 10000) / (1000 : Int32) * 1000 = nI ((g % 10000) % 1000) from pk_rem (d := 1000) (by omega) (by omega) (by omega)]
  refine v_istore7 (pc' := 40) dX4_obeyGroup_38 (by decide) rfl rfl ?_
  refine v_iload_n (pc' := 41) dX4_obeyGroup_40 rfl rfl ?_
  refine v_bipush (pc' := 43) dX4_obeyGroup_41 kb_100 rfl ?_
  refine v_irem (pc' := 44) dX4_obeyGroup_43 (by decide) rfl ?_
  rw [show nI (g % 10000) - nI (g % 10000) / (100 : Int32) * 100 = nI ((g % 10000) % 100) from pk_rem (d := 100) (by omega) (by omega) (by omega)]
  refine v_istore8 (pc' := 46) dX4_obeyGroup_44 (by decide) rfl rfl ?_
  refine v_iload_n (pc' := 47) dX4_obeyGroup_46 rfl rfl ?_
  refine v_sipush (pc' := 50) dX4_obeyGroup_47 ks_10000 rfl ?_
  refine v_idiv (pc' := 51) dX4_obeyGroup_50 (by decide) rfl ?_
  rw [show nI (g) / (10000 : Int32) = nI ((g) / 10000) from pk_div (d := 10000) (by omega) (by omega) (by omega)]
  refine v_tableIn (tgt := 166) 3 dX4_obeyGroup_51 (by rw [nI_toInt (by omega)]; omega) (by decide) rfl (by decide) ?_
  refine v_iload (pc' := 168) dX4_obeyGroup_166 rfl rfl ?_
  refine v_if_ne (tgt := 185) (pc' := 171) dX4_obeyGroup_168 (by decide) rfl (fun c_168 => ?_) (fun c_168 => ?_)
  · rw [nI_is0 (by omega)] at c_168
    refine v_iconst (pc' := 186) dX4_obeyGroup_185 kc_0 rfl ?_
    exact v_zret dX4_obeyGroup_186 rfl (Nat.le_refl _) (Nat.le_refl _) rfl ⟨_, rfl, rfl, rfl, by
      simp only [q_gb, hc]
      first
        | rfl
        | (rw [decide_eq_false c2]; rfl)
        | (simp [z_b, *]; done)
        | (simp_all [z_b]; done), by
      simp only [q_g, hc]
      first
        | exact hA2
        | (simp [*]; done)
        | (simp [*]; exact hA2)
        | (simp [*]; exact hA)
        | (simp_all; done), by first | exact hF2 | exact Fr.rf⟩
  · rw [nI_is0 (by omega)] at c_168
    refine v_aload_n (pc' := 172) dX4_obeyGroup_171 rfl rfl ?_
    refine v_iload (pc' := 174) dX4_obeyGroup_172 rfl rfl ?_
    refine v_cVI (pc' := 177) (c1_tmend hl hS hA hW (nI (g % 10000 / 100))) dX4_obeyGroup_174 lk_X4_213 mwX1_makeGood miX1_makeGood h0 rfl rfl rfl rfl (by decide) (Nat.le_of_ble_eq_true rfl) rfl ?_
    rintro x9 I2 ⟨rfl, hA2, hF2⟩
    refine v_iconst (pc' := 178) dX4_obeyGroup_177 kc_m1 rfl ?_
    refine v_icmp_eq (tgt := 185) (pc' := 181) dX4_obeyGroup_178 (by decide) rfl (fun c_178 => ?_) (fun c_178 => ?_)
    · rw [t_mendv_ne hW] at c_178
      refine v_iconst (pc' := 186) dX4_obeyGroup_185 kc_0 rfl ?_
      exact v_zret dX4_obeyGroup_186 rfl (Nat.le_refl _) (Nat.le_refl _) rfl ⟨_, rfl, rfl, rfl, by
        simp only [q_gb, hc]
        first
          | rfl
          | (rw [decide_eq_false c2]; rfl)
          | (simp [z_b, *]; done)
          | (simp_all [z_b]; done), by
        simp only [q_g, hc]
        first
          | exact hA2
          | (simp [*]; done)
          | (simp [*]; exact hA2)
          | (simp [*]; exact hA)
          | (simp_all; done), by first | exact hF2 | exact Fr.rf⟩
    · rw [t_mendv_ne hW] at c_178
      rw [Classical.not_not] at c_178
      refine v_iconst (pc' := 182) dX4_obeyGroup_181 kc_1 rfl ?_
      refine v_goto (tgt := 186) dX4_obeyGroup_182 (by decide) ?_
      exact v_zret dX4_obeyGroup_186 rfl (Nat.le_refl _) (Nat.le_refl _) rfl ⟨_, rfl, rfl, rfl, by
        simp only [q_gb, hc]
        first
          | rfl
          | (rw [decide_eq_false c2]; rfl)
          | (simp [z_b, *]; done)
          | (simp_all [z_b]; done), by
        simp only [q_g, hc]
        first
          | exact hA2
          | (simp [*]; done)
          | (simp [*]; exact hA2)
          | (simp [*]; exact hA)
          | (simp_all; done), by first | exact hF2 | exact Fr.rf⟩
set_option maxRecDepth 20000 in
set_option maxHeartbeats 4000000 in
theorem c4_grp_5 (hl : l.stackTraces = false) (hS : ShS E G a) (hA : Abs I a r) (hW : WF r) (g : Nat) (hg : g < 100000) (hc : g / 10000 = 5) : z_CI E l mX4_obeyGroup 7 [.ref a, .int (nI g)] G I sz (fun x I' => (x = z_b (q_gb r (g / 10000) (g % 10000)) ∧ Abs I' a (q_g r (g / 10000) (g % 10000)) ∧ Fr I I' a)) := by
  have h0 := hS.1
  refine z_Ct.of hl pn_X4 [some (.ref a), some (.int (nI g)), none, none, none, none, none, none, none] rfl (Nat.le_of_ble_eq_true rfl) ?_
  refine v_iload_n (pc' := 1) dX4_obeyGroup_0 rfl rfl ?_
  refine v_sipush (pc' := 4) dX4_obeyGroup_1 ks_10000 rfl ?_
  skip
  refine v_irem (pc' := 5) dX4_obeyGroup_4 (by decide) rfl ?_
  rw [show nI (g) - nI (g) / (10000 : Int32) * 10000 = nI ((g) % 10000) from pk_rem (d := 10000) (by omega) (by omega) (by omega)]
  refine v_istore_n2 (pc' := 6) dX4_obeyGroup_5 (by decide) rfl rfl ?_
  refine v_iload_n (pc' := 7) dX4_obeyGroup_6 rfl rfl ?_
  refine v_sipush (pc' := 10) dX4_obeyGroup_7 ks_1000 rfl ?_
  refine v_idiv (pc' := 11) dX4_obeyGroup_10 (by decide) rfl ?_
  rw [show nI (g % 10000) / (1000 : Int32) = nI ((g % 10000) / 1000) from pk_div (d := 1000) (by omega) (by omega) (by omega)]
  refine v_istore_n3 (pc' := 12) dX4_obeyGroup_11 (by decide) rfl rfl ?_
  refine v_iload_n (pc' := 13) dX4_obeyGroup_12 rfl rfl ?_
  refine v_bipush (pc' := 15) dX4_obeyGroup_13 kb_10 rfl ?_
  refine v_idiv (pc' := 16) dX4_obeyGroup_15 (by decide) rfl ?_
  rw [show nI (g % 10000) / (10 : Int32) = nI ((g % 10000) / 10) from pk_div (d := 10) (by omega) (by omega) (by omega)]
  refine v_bipush (pc' := 18) dX4_obeyGroup_16 kb_10 rfl ?_
  refine v_irem (pc' := 19) dX4_obeyGroup_18 (by decide) rfl ?_
  rw [show nI (g % 10000 / 10) - nI (g % 10000 / 10) / (10 : Int32) * 10 = nI ((g % 10000 / 10) % 10) from pk_rem (d := 10) (by omega) (by omega) (by omega)]
  refine v_istore4 (pc' := 21) dX4_obeyGroup_19 (by decide) rfl rfl ?_
  refine v_iload_n (pc' := 22) dX4_obeyGroup_21 rfl rfl ?_
  refine v_bipush (pc' := 24) dX4_obeyGroup_22 kb_10 rfl ?_
  refine v_irem (pc' := 25) dX4_obeyGroup_24 (by decide) rfl ?_
  rw [show nI (g % 10000) - nI (g % 10000) / (10 : Int32) * 10 = nI ((g % 10000) % 10) from pk_rem (d := 10) (by omega) (by omega) (by omega)]
  refine v_istore5 (pc' := 27) dX4_obeyGroup_25 (by decide) rfl rfl ?_
  refine v_iload_n (pc' := 28) dX4_obeyGroup_27 rfl rfl ?_
  refine v_bipush (pc' := 30) dX4_obeyGroup_28 kb_100 rfl ?_
  refine v_idiv (pc' := 31) dX4_obeyGroup_30 (by decide) rfl ?_
  rw [show nI (g % 10000) / (100 : Int32) = nI ((g % 10000) / 100) from pk_div (d := 100) (by omega) (by omega) (by omega)]
  refine v_istore6 (pc' := 33) dX4_obeyGroup_31 (by decide) rfl rfl ?_
  refine v_iload_n (pc' := 34) dX4_obeyGroup_33 rfl rfl ?_
  refine v_sipush (pc' := 37) dX4_obeyGroup_34 ks_1000 rfl ?_
  refine v_irem (pc' := 38) dX4_obeyGroup_37 (by decide) rfl ?_
  rw [show nI (g % 10000) - nI (g % 10000) / (1000 : Int32) * 1000 = nI ((g % 10000) % 1000) from pk_rem (d := 1000) (by omega) (by omega) (by omega)]
  refine v_istore7 (pc' := 40) dX4_obeyGroup_38 (by decide) rfl rfl ?_
  refine v_iload_n (pc' := 41) dX4_obeyGroup_40 rfl rfl ?_
  refine v_bipush (pc' := 43) dX4_obeyGroup_41 kb_100 rfl ?_
  refine v_irem (pc' := 44) dX4_obeyGroup_43 (by decide) rfl ?_
  rw [show nI (g % 10000) - nI (g % 10000) / (100 : Int32) * 100 = nI ((g % 10000) % 100) from pk_rem (d := 100) (by omega) (by omega) (by omega)]
  refine v_istore8 (pc' := 46) dX4_obeyGroup_44 (by decide) rfl rfl ?_
  refine v_iload_n (pc' := 47) dX4_obeyGroup_46 rfl rfl ?_
  refine v_sipush (pc' := 50) dX4_obeyGroup_47 ks_10000 rfl ?_
  refine v_idiv (pc' := 51) dX4_obeyGroup_50 (by decide) rfl ?_
  rw [show nI (g) / (10000 : Int32) = nI ((g) / 10000) from pk_div (d := 10000) (by omega) (by omega) (by omega)]
  refine v_tableIn (tgt := 187) 4 dX4_obeyGroup_51 (by rw [nI_toInt (by omega)]; omega) (by decide) rfl (by decide) ?_
  refine v_iload (pc' := 189) dX4_obeyGroup_187 rfl rfl ?_
  refine v_if_ne (tgt := 205) (pc' := 192) dX4_obeyGroup_189 (by decide) rfl (fun c_189 => ?_) (fun c_189 => ?_)
  · rw [nI_is0 (by omega)] at c_189
    refine v_iconst (pc' := 206) dX4_obeyGroup_205 kc_0 rfl ?_
    exact v_zret dX4_obeyGroup_206 rfl (Nat.le_refl _) (Nat.le_refl _) rfl ⟨_, rfl, rfl, rfl, by
      simp only [q_gb, hc]
      first
        | rfl
        | (rw [decide_eq_false c2]; rfl)
        | (simp [z_b, *]; done)
        | (simp_all [z_b]; done), by
      simp only [q_g, hc]
      first
        | exact hA2
        | (simp [*]; done)
        | (simp [*]; exact hA2)
        | (simp [*]; exact hA)
        | (simp_all; done), by first | exact hF2 | exact Fr.rf⟩
  · rw [nI_is0 (by omega)] at c_189
    refine v_aload_n (pc' := 193) dX4_obeyGroup_192 rfl rfl ?_
    refine v_iload_n (pc' := 194) dX4_obeyGroup_193 rfl rfl ?_
    refine v_cVI (pc' := 197) (c1_tstop hl hS hA hW (nI (g % 10000 / 1000))) dX4_obeyGroup_194 lk_X4_207 mwX1_stopTask miX1_stopTask h0 rfl rfl rfl rfl (by decide) (Nat.le_of_ble_eq_true rfl) rfl ?_
    rintro x9 I2 ⟨rfl, hA2, hF2⟩
    refine v_iconst (pc' := 198) dX4_obeyGroup_197 kc_m1 rfl ?_
    refine v_icmp_eq (tgt := 205) (pc' := 201) dX4_obeyGroup_198 (by decide) rfl (fun c_198 => ?_) (fun c_198 => ?_)
    · rw [t_stopv_ne hW] at c_198
      refine v_iconst (pc' := 206) dX4_obeyGroup_205 kc_0 rfl ?_
      exact v_zret dX4_obeyGroup_206 rfl (Nat.le_refl _) (Nat.le_refl _) rfl ⟨_, rfl, rfl, rfl, by
        simp only [q_gb, hc]
        first
          | rfl
          | (rw [decide_eq_false c2]; rfl)
          | (simp [z_b, *]; done)
          | (simp_all [z_b]; done), by
        simp only [q_g, hc]
        first
          | exact hA2
          | (simp [*]; done)
          | (simp [*]; exact hA2)
          | (simp [*]; exact hA)
          | (simp_all; done), by first | exact hF2 | exact Fr.rf⟩
    · rw [t_stopv_ne hW] at c_198
      rw [Classical.not_not] at c_198
      refine v_iconst (pc' := 202) dX4_obeyGroup_201 kc_1 rfl ?_
      refine v_goto (tgt := 206) dX4_obeyGroup_202 (by decide) ?_
      exact v_zret dX4_obeyGroup_206 rfl (Nat.le_refl _) (Nat.le_refl _) rfl ⟨_, rfl, rfl, rfl, by
        simp only [q_gb, hc]
        first
          | rfl
          | (rw [decide_eq_false c2]; rfl)
          | (simp [z_b, *]; done)
          | (simp_all [z_b]; done), by
        simp only [q_g, hc]
        first
          | exact hA2
          | (simp [*]; done)
          | (simp [*]; exact hA2)
          | (simp [*]; exact hA)
          | (simp_all; done), by first | exact hF2 | exact Fr.rf⟩
set_option maxRecDepth 20000 in
set_option maxHeartbeats 4000000 in
theorem c4_grp_6 (hl : l.stackTraces = false) (hS : ShS E G a) (hA : Abs I a r) (hW : WF r) (g : Nat) (hg : g < 100000) (hc : g / 10000 = 6) : z_CI E l mX4_obeyGroup 7 [.ref a, .int (nI g)] G I sz (fun x I' => (x = z_b (q_gb r (g / 10000) (g % 10000)) ∧ Abs I' a (q_g r (g / 10000) (g % 10000)) ∧ Fr I I' a)) := by
  have h0 := hS.1
  refine z_Ct.of hl pn_X4 [some (.ref a), some (.int (nI g)), none, none, none, none, none, none, none] rfl (Nat.le_of_ble_eq_true rfl) ?_
  refine v_iload_n (pc' := 1) dX4_obeyGroup_0 rfl rfl ?_
  refine v_sipush (pc' := 4) dX4_obeyGroup_1 ks_10000 rfl ?_
  skip
  refine v_irem (pc' := 5) dX4_obeyGroup_4 (by decide) rfl ?_
  rw [show nI (g) - nI (g) / (10000 : Int32) * 10000 = nI ((g) % 10000) from pk_rem (d := 10000) (by omega) (by omega) (by omega)]
  refine v_istore_n2 (pc' := 6) dX4_obeyGroup_5 (by decide) rfl rfl ?_
  refine v_iload_n (pc' := 7) dX4_obeyGroup_6 rfl rfl ?_
  refine v_sipush (pc' := 10) dX4_obeyGroup_7 ks_1000 rfl ?_
  refine v_idiv (pc' := 11) dX4_obeyGroup_10 (by decide) rfl ?_
  rw [show nI (g % 10000) / (1000 : Int32) = nI ((g % 10000) / 1000) from pk_div (d := 1000) (by omega) (by omega) (by omega)]
  refine v_istore_n3 (pc' := 12) dX4_obeyGroup_11 (by decide) rfl rfl ?_
  refine v_iload_n (pc' := 13) dX4_obeyGroup_12 rfl rfl ?_
  refine v_bipush (pc' := 15) dX4_obeyGroup_13 kb_10 rfl ?_
  refine v_idiv (pc' := 16) dX4_obeyGroup_15 (by decide) rfl ?_
  rw [show nI (g % 10000) / (10 : Int32) = nI ((g % 10000) / 10) from pk_div (d := 10) (by omega) (by omega) (by omega)]
  refine v_bipush (pc' := 18) dX4_obeyGroup_16 kb_10 rfl ?_
  refine v_irem (pc' := 19) dX4_obeyGroup_18 (by decide) rfl ?_
  rw [show nI (g % 10000 / 10) - nI (g % 10000 / 10) / (10 : Int32) * 10 = nI ((g % 10000 / 10) % 10) from pk_rem (d := 10) (by omega) (by omega) (by omega)]
  refine v_istore4 (pc' := 21) dX4_obeyGroup_19 (by decide) rfl rfl ?_
  refine v_iload_n (pc' := 22) dX4_obeyGroup_21 rfl rfl ?_
  refine v_bipush (pc' := 24) dX4_obeyGroup_22 kb_10 rfl ?_
  refine v_irem (pc' := 25) dX4_obeyGroup_24 (by decide) rfl ?_
  rw [show nI (g % 10000) - nI (g % 10000) / (10 : Int32) * 10 = nI ((g % 10000) % 10) from pk_rem (d := 10) (by omega) (by omega) (by omega)]
  refine v_istore5 (pc' := 27) dX4_obeyGroup_25 (by decide) rfl rfl ?_
  refine v_iload_n (pc' := 28) dX4_obeyGroup_27 rfl rfl ?_
  refine v_bipush (pc' := 30) dX4_obeyGroup_28 kb_100 rfl ?_
  refine v_idiv (pc' := 31) dX4_obeyGroup_30 (by decide) rfl ?_
  rw [show nI (g % 10000) / (100 : Int32) = nI ((g % 10000) / 100) from pk_div (d := 100) (by omega) (by omega) (by omega)]
  refine v_istore6 (pc' := 33) dX4_obeyGroup_31 (by decide) rfl rfl ?_
  refine v_iload_n (pc' := 34) dX4_obeyGroup_33 rfl rfl ?_
  refine v_sipush (pc' := 37) dX4_obeyGroup_34 ks_1000 rfl ?_
  refine v_irem (pc' := 38) dX4_obeyGroup_37 (by decide) rfl ?_
  rw [show nI (g % 10000) - nI (g % 10000) / (1000 : Int32) * 1000 = nI ((g % 10000) % 1000) from pk_rem (d := 1000) (by omega) (by omega) (by omega)]
  refine v_istore7 (pc' := 40) dX4_obeyGroup_38 (by decide) rfl rfl ?_
  refine v_iload_n (pc' := 41) dX4_obeyGroup_40 rfl rfl ?_
  refine v_bipush (pc' := 43) dX4_obeyGroup_41 kb_100 rfl ?_
  refine v_irem (pc' := 44) dX4_obeyGroup_43 (by decide) rfl ?_
  rw [show nI (g % 10000) - nI (g % 10000) / (100 : Int32) * 100 = nI ((g % 10000) % 100) from pk_rem (d := 100) (by omega) (by omega) (by omega)]
  refine v_istore8 (pc' := 46) dX4_obeyGroup_44 (by decide) rfl rfl ?_
  refine v_iload_n (pc' := 47) dX4_obeyGroup_46 rfl rfl ?_
  refine v_sipush (pc' := 50) dX4_obeyGroup_47 ks_10000 rfl ?_
  refine v_idiv (pc' := 51) dX4_obeyGroup_50 (by decide) rfl ?_
  rw [show nI (g) / (10000 : Int32) = nI ((g) / 10000) from pk_div (d := 10000) (by omega) (by omega) (by omega)]
  refine v_tableIn (tgt := 207) 5 dX4_obeyGroup_51 (by rw [nI_toInt (by omega)]; omega) (by decide) rfl (by decide) ?_
  refine v_iload (pc' := 209) dX4_obeyGroup_207 rfl rfl ?_
  refine v_bipush (pc' := 211) dX4_obeyGroup_209 kb_10 rfl ?_
  refine v_icmp_ge (tgt := 228) (pc' := 214) dX4_obeyGroup_211 (by decide) rfl (fun c_211 => ?_) (fun c_211 => ?_)
  · rw [show (10 : Int32) = nI 10 from rfl, nI_leI (by omega) (by omega)] at c_211
    have c2 : ¬ g % 10000 % 1000 < 10 := by omega
    refine v_iconst (pc' := 229) dX4_obeyGroup_228 kc_0 rfl ?_
    exact v_zret dX4_obeyGroup_229 rfl (Nat.le_refl _) (Nat.le_refl _) rfl ⟨_, rfl, rfl, rfl, by
      simp only [q_gb, hc]
      first
        | rfl
        | (rw [decide_eq_false c2]; rfl)
        | (simp [z_b, *]; done)
        | (simp_all [z_b]; done), by
      simp only [q_g, hc]
      first
        | exact hA2
        | (simp [*]; done)
        | (simp [*]; exact hA2)
        | (simp [*]; exact hA)
        | (simp_all; done), by first | exact hF2 | exact Fr.rf⟩
  · rw [show (10 : Int32) = nI 10 from rfl, nI_leI (by omega) (by omega)] at c_211
    have c2 : g % 10000 % 1000 < 10 := by omega
    refine v_aload_n (pc' := 215) dX4_obeyGroup_214 rfl rfl ?_
    refine v_iload_n (pc' := 216) dX4_obeyGroup_215 rfl rfl ?_
    refine v_iload (pc' := 218) dX4_obeyGroup_216 rfl rfl ?_
    refine v_cVR (pc' := 221) (c1_isTaskInStatus hl hS hA hW (nI (g % 10000 / 1000)) (nI (g % 10000 % 10))) dX4_obeyGroup_218 lk_X4_282 mwX1_isTaskInStatus miX1_isTaskInStatus h0 rfl rfl rfl rfl (by decide) (Nat.le_of_ble_eq_true rfl) rfl ?_
    rw [nI_clamp (show g % 10000 / 1000 < 2 ^ 31 by omega)]
    refine v_if_eq (tgt := 228) (pc' := 224) dX4_obeyGroup_221 (by decide) rfl (fun c_221 => ?_) (fun c_221 => ?_)
    · rw [z_b_eq0] at c_221
      refine v_iconst (pc' := 229) dX4_obeyGroup_228 kc_0 rfl ?_
      exact v_zret dX4_obeyGroup_229 rfl (Nat.le_refl _) (Nat.le_refl _) rfl ⟨_, rfl, rfl, rfl, by
        simp only [q_gb, hc]
        first
          | rfl
          | (rw [decide_eq_false c2]; rfl)
          | (simp [z_b, *]; done)
          | (simp_all [z_b]; done), by
        simp only [q_g, hc]
        first
          | exact hA2
          | (simp [*]; done)
          | (simp [*]; exact hA2)
          | (simp [*]; exact hA)
          | (simp_all; done), by first | exact hF2 | exact Fr.rf⟩
    · rw [z_b_ne0] at c_221
      refine v_iconst (pc' := 225) dX4_obeyGroup_224 kc_1 rfl ?_
      refine v_goto (tgt := 229) dX4_obeyGroup_225 (by decide) ?_
      exact v_zret dX4_obeyGroup_229 rfl (Nat.le_refl _) (Nat.le_refl _) rfl ⟨_, rfl, rfl, rfl, by
        simp only [q_gb, hc]
        first
          | rfl
          | (rw [decide_eq_false c2]; rfl)
          | (simp [z_b, *]; done)
          | (simp_all [z_b]; done), by
        simp only [q_g, hc]
        first
          | exact hA2
          | (simp [*]; done)
          | (simp [*]; exact hA2)
          | (simp [*]; exact hA)
          | (simp_all; done), by first | exact hF2 | exact Fr.rf⟩
set_option maxRecDepth 20000 in
set_option maxHeartbeats 4000000 in
theorem c4_grp_7 (hl : l.stackTraces = false) (hS : ShS E G a) (hA : Abs I a r) (hW : WF r) (g : Nat) (hg : g < 100000) (hc : g / 10000 = 7) : z_CI E l mX4_obeyGroup 7 [.ref a, .int (nI g)] G I sz (fun x I' => (x = z_b (q_gb r (g / 10000) (g % 10000)) ∧ Abs I' a (q_g r (g / 10000) (g % 10000)) ∧ Fr I I' a)) := by
  have h0 := hS.1
  refine z_Ct.of hl pn_X4 [some (.ref a), some (.int (nI g)), none, none, none, none, none, none, none] rfl (Nat.le_of_ble_eq_true rfl) ?_
  refine v_iload_n (pc' := 1) dX4_obeyGroup_0 rfl rfl ?_
  refine v_sipush (pc' := 4) dX4_obeyGroup_1 ks_10000 rfl ?_
  skip
  refine v_irem (pc' := 5) dX4_obeyGroup_4 (by decide) rfl ?_
  rw [show nI (g) - nI (g) / (10000 : Int32) * 10000 = nI ((g) % 10000) from pk_rem (d := 10000) (by omega) (by omega) (by omega)]
  refine v_istore_n2 (pc' := 6) dX4_obeyGroup_5 (by decide) rfl rfl ?_
  refine v_iload_n (pc' := 7) dX4_obeyGroup_6 rfl rfl ?_
  refine v_sipush (pc' := 10) dX4_obeyGroup_7 ks_1000 rfl ?_
  refine v_idiv (pc' := 11) dX4_obeyGroup_10 (by decide) rfl ?_
  rw [show nI (g % 10000) / (1000 : Int32) = nI ((g % 10000) / 1000) from pk_div (d := 1000) (by omega) (by omega) (by omega)]
  refine v_istore_n3 (pc' := 12) dX4_obeyGroup_11 (by decide) rfl rfl ?_
  refine v_iload_n (pc' := 13) dX4_obeyGroup_12 rfl rfl ?_
  refine v_bipush (pc' := 15) dX4_obeyGroup_13 kb_10 rfl ?_
  refine v_idiv (pc' := 16) dX4_obeyGroup_15 (by decide) rfl ?_
  rw [show nI (g % 10000) / (10 : Int32) = nI ((g % 10000) / 10) from pk_div (d := 10) (by omega) (by omega) (by omega)]
  refine v_bipush (pc' := 18) dX4_obeyGroup_16 kb_10 rfl ?_
  refine v_irem (pc' := 19) dX4_obeyGroup_18 (by decide) rfl ?_
  rw [show nI (g % 10000 / 10) - nI (g % 10000 / 10) / (10 : Int32) * 10 = nI ((g % 10000 / 10) % 10) from pk_rem (d := 10) (by omega) (by omega) (by omega)]
  refine v_istore4 (pc' := 21) dX4_obeyGroup_19 (by decide) rfl rfl ?_
  refine v_iload_n (pc' := 22) dX4_obeyGroup_21 rfl rfl ?_
  refine v_bipush (pc' := 24) dX4_obeyGroup_22 kb_10 rfl ?_
  refine v_irem (pc' := 25) dX4_obeyGroup_24 (by decide) rfl ?_
  rw [show nI (g % 10000) - nI (g % 10000) / (10 : Int32) * 10 = nI ((g % 10000) % 10) from pk_rem (d := 10) (by omega) (by omega) (by omega)]
  refine v_istore5 (pc' := 27) dX4_obeyGroup_25 (by decide) rfl rfl ?_
  refine v_iload_n (pc' := 28) dX4_obeyGroup_27 rfl rfl ?_
  refine v_bipush (pc' := 30) dX4_obeyGroup_28 kb_100 rfl ?_
  refine v_idiv (pc' := 31) dX4_obeyGroup_30 (by decide) rfl ?_
  rw [show nI (g % 10000) / (100 : Int32) = nI ((g % 10000) / 100) from pk_div (d := 100) (by omega) (by omega) (by omega)]
  refine v_istore6 (pc' := 33) dX4_obeyGroup_31 (by decide) rfl rfl ?_
  refine v_iload_n (pc' := 34) dX4_obeyGroup_33 rfl rfl ?_
  refine v_sipush (pc' := 37) dX4_obeyGroup_34 ks_1000 rfl ?_
  refine v_irem (pc' := 38) dX4_obeyGroup_37 (by decide) rfl ?_
  rw [show nI (g % 10000) - nI (g % 10000) / (1000 : Int32) * 1000 = nI ((g % 10000) % 1000) from pk_rem (d := 1000) (by omega) (by omega) (by omega)]
  refine v_istore7 (pc' := 40) dX4_obeyGroup_38 (by decide) rfl rfl ?_
  refine v_iload_n (pc' := 41) dX4_obeyGroup_40 rfl rfl ?_
  refine v_bipush (pc' := 43) dX4_obeyGroup_41 kb_100 rfl ?_
  refine v_irem (pc' := 44) dX4_obeyGroup_43 (by decide) rfl ?_
  rw [show nI (g % 10000) - nI (g % 10000) / (100 : Int32) * 100 = nI ((g % 10000) % 100) from pk_rem (d := 100) (by omega) (by omega) (by omega)]
  refine v_istore8 (pc' := 46) dX4_obeyGroup_44 (by decide) rfl rfl ?_
  refine v_iload_n (pc' := 47) dX4_obeyGroup_46 rfl rfl ?_
  refine v_sipush (pc' := 50) dX4_obeyGroup_47 ks_10000 rfl ?_
  refine v_idiv (pc' := 51) dX4_obeyGroup_50 (by decide) rfl ?_
  rw [show nI (g) / (10000 : Int32) = nI ((g) / 10000) from pk_div (d := 10000) (by omega) (by omega) (by omega)]
  refine v_tableIn (tgt := 230) 6 dX4_obeyGroup_51 (by rw [nI_toInt (by omega)]; omega) (by decide) rfl (by decide) ?_
  refine v_aload_n (pc' := 231) dX4_obeyGroup_230 rfl rfl ?_
  refine v_iload_n (pc' := 232) dX4_obeyGroup_231 rfl rfl ?_
  refine v_iload (pc' := 234) dX4_obeyGroup_232 rfl rfl ?_
  refine v_cVR (pc' := 237) (c1_isTaskAtValue hl hS hA hW (nI (g % 10000 / 1000)) (nI (g % 10000 % 1000))) dX4_obeyGroup_234 lk_X4_285 mwX1_isTaskAtValue miX1_isTaskAtValue h0 rfl rfl rfl rfl (by decide) (Nat.le_of_ble_eq_true rfl) rfl ?_
  rw [nI_clamp (show g % 10000 / 1000 < 2 ^ 31 by omega)]
  exact v_zret dX4_obeyGroup_237 rfl (Nat.le_refl _) (Nat.le_refl _) (z_b_nar _) ⟨_, rfl, rfl, rfl, by
    simp only [q_gb, hc]
    first
      | rfl
      | (rw [decide_eq_false c2]; rfl)
      | (simp [z_b, *]; done)
      | (simp_all [z_b]; done), by
    simp only [q_g, hc]
    first
      | exact hA2
      | (simp [*]; done)
      | (simp [*]; exact hA2)
      | (simp [*]; exact hA)
      | (simp_all; done), by first | exact hF2 | exact Fr.rf⟩
set_option maxRecDepth 20000 in
set_option maxHeartbeats 4000000 in
theorem c4_grp_8 (hl : l.stackTraces = false) (hS : ShS E G a) (hA : Abs I a r) (hW : WF r) (g : Nat) (hg : g < 100000) (hc : g / 10000 = 8) : z_CI E l mX4_obeyGroup 7 [.ref a, .int (nI g)] G I sz (fun x I' => (x = z_b (q_gb r (g / 10000) (g % 10000)) ∧ Abs I' a (q_g r (g / 10000) (g % 10000)) ∧ Fr I I' a)) := by
  have h0 := hS.1
  refine z_Ct.of hl pn_X4 [some (.ref a), some (.int (nI g)), none, none, none, none, none, none, none] rfl (Nat.le_of_ble_eq_true rfl) ?_
  refine v_iload_n (pc' := 1) dX4_obeyGroup_0 rfl rfl ?_
  refine v_sipush (pc' := 4) dX4_obeyGroup_1 ks_10000 rfl ?_
  skip
  refine v_irem (pc' := 5) dX4_obeyGroup_4 (by decide) rfl ?_
  rw [show nI (g) - nI (g) / (10000 : Int32) * 10000 = nI ((g) % 10000) from pk_rem (d := 10000) (by omega) (by omega) (by omega)]
  refine v_istore_n2 (pc' := 6) dX4_obeyGroup_5 (by decide) rfl rfl ?_
  refine v_iload_n (pc' := 7) dX4_obeyGroup_6 rfl rfl ?_
  refine v_sipush (pc' := 10) dX4_obeyGroup_7 ks_1000 rfl ?_
  refine v_idiv (pc' := 11) dX4_obeyGroup_10 (by decide) rfl ?_
  rw [show nI (g % 10000) / (1000 : Int32) = nI ((g % 10000) / 1000) from pk_div (d := 1000) (by omega) (by omega) (by omega)]
  refine v_istore_n3 (pc' := 12) dX4_obeyGroup_11 (by decide) rfl rfl ?_
  refine v_iload_n (pc' := 13) dX4_obeyGroup_12 rfl rfl ?_
  refine v_bipush (pc' := 15) dX4_obeyGroup_13 kb_10 rfl ?_
  refine v_idiv (pc' := 16) dX4_obeyGroup_15 (by decide) rfl ?_
  rw [show nI (g % 10000) / (10 : Int32) = nI ((g % 10000) / 10) from pk_div (d := 10) (by omega) (by omega) (by omega)]
  refine v_bipush (pc' := 18) dX4_obeyGroup_16 kb_10 rfl ?_
  refine v_irem (pc' := 19) dX4_obeyGroup_18 (by decide) rfl ?_
  rw [show nI (g % 10000 / 10) - nI (g % 10000 / 10) / (10 : Int32) * 10 = nI ((g % 10000 / 10) % 10) from pk_rem (d := 10) (by omega) (by omega) (by omega)]
  refine v_istore4 (pc' := 21) dX4_obeyGroup_19 (by decide) rfl rfl ?_
  refine v_iload_n (pc' := 22) dX4_obeyGroup_21 rfl rfl ?_
  refine v_bipush (pc' := 24) dX4_obeyGroup_22 kb_10 rfl ?_
  refine v_irem (pc' := 25) dX4_obeyGroup_24 (by decide) rfl ?_
  rw [show nI (g % 10000) - nI (g % 10000) / (10 : Int32) * 10 = nI ((g % 10000) % 10) from pk_rem (d := 10) (by omega) (by omega) (by omega)]
  refine v_istore5 (pc' := 27) dX4_obeyGroup_25 (by decide) rfl rfl ?_
  refine v_iload_n (pc' := 28) dX4_obeyGroup_27 rfl rfl ?_
  refine v_bipush (pc' := 30) dX4_obeyGroup_28 kb_100 rfl ?_
  refine v_idiv (pc' := 31) dX4_obeyGroup_30 (by decide) rfl ?_
  rw [show nI (g % 10000) / (100 : Int32) = nI ((g % 10000) / 100) from pk_div (d := 100) (by omega) (by omega) (by omega)]
  refine v_istore6 (pc' := 33) dX4_obeyGroup_31 (by decide) rfl rfl ?_
  refine v_iload_n (pc' := 34) dX4_obeyGroup_33 rfl rfl ?_
  refine v_sipush (pc' := 37) dX4_obeyGroup_34 ks_1000 rfl ?_
  refine v_irem (pc' := 38) dX4_obeyGroup_37 (by decide) rfl ?_
  rw [show nI (g % 10000) - nI (g % 10000) / (1000 : Int32) * 1000 = nI ((g % 10000) % 1000) from pk_rem (d := 1000) (by omega) (by omega) (by omega)]
  refine v_istore7 (pc' := 40) dX4_obeyGroup_38 (by decide) rfl rfl ?_
  refine v_iload_n (pc' := 41) dX4_obeyGroup_40 rfl rfl ?_
  refine v_bipush (pc' := 43) dX4_obeyGroup_41 kb_100 rfl ?_
  refine v_irem (pc' := 44) dX4_obeyGroup_43 (by decide) rfl ?_
  rw [show nI (g % 10000) - nI (g % 10000) / (100 : Int32) * 100 = nI ((g % 10000) % 100) from pk_rem (d := 100) (by omega) (by omega) (by omega)]
  refine v_istore8 (pc' := 46) dX4_obeyGroup_44 (by decide) rfl rfl ?_
  refine v_iload_n (pc' := 47) dX4_obeyGroup_46 rfl rfl ?_
  refine v_sipush (pc' := 50) dX4_obeyGroup_47 ks_10000 rfl ?_
  refine v_idiv (pc' := 51) dX4_obeyGroup_50 (by decide) rfl ?_
  rw [show nI (g) / (10000 : Int32) = nI ((g) / 10000) from pk_div (d := 10000) (by omega) (by omega) (by omega)]
  refine v_tableIn (tgt := 238) 7 dX4_obeyGroup_51 (by rw [nI_toInt (by omega)]; omega) (by decide) rfl (by decide) ?_
  refine v_iload (pc' := 240) dX4_obeyGroup_238 rfl rfl ?_
  refine v_if_ne (tgt := 277) (pc' := 243) dX4_obeyGroup_240 (by decide) rfl (fun c_240 => ?_) (fun c_240 => ?_)
  · rw [nI_is0 (by omega)] at c_240
    have c2 : ¬ g % 10000 % 100 ≤ 9 := by omega
    refine v_iconst (pc' := 278) dX4_obeyGroup_277 kc_0 rfl ?_
    exact v_zret dX4_obeyGroup_278 rfl (Nat.le_refl _) (Nat.le_refl _) rfl ⟨_, rfl, rfl, rfl, by
      simp only [q_gb, hc]
      first
        | rfl
        | (rw [decide_eq_false c2]; rfl)
        | (simp [z_b, *]; done)
        | (simp_all [z_b]; done), by
      simp only [q_g, hc]
      first
        | exact hA2
        | (simp [*]; done)
        | (simp [*]; exact hA2)
        | (simp [*]; exact hA)
        | (simp_all; done), by first | exact hF2 | exact Fr.rf⟩
  · rw [nI_is0 (by omega)] at c_240
    have c2 : g % 10000 % 100 ≤ 9 := by omega
    refine v_iload (pc' := 245) dX4_obeyGroup_243 rfl rfl ?_
    refine v_cSR (pc' := 248) (c4_isStripe hl (nI (g % 10000 / 100))) dX4_obeyGroup_245 lk_X4_144 mwX4_isStripe msX4_isStripe rfl rfl (by decide) (Nat.le_of_ble_eq_true rfl) rfl ?_
    refine v_if_eq (tgt := 277) (pc' := 251) dX4_obeyGroup_248 (by decide) rfl (fun c_248 => ?_) (fun c_248 => ?_)
    · rw [z_b_eq0] at c_248
      refine v_iconst (pc' := 278) dX4_obeyGroup_277 kc_0 rfl ?_
      exact v_zret dX4_obeyGroup_278 rfl (Nat.le_refl _) (Nat.le_refl _) rfl ⟨_, rfl, rfl, rfl, by
        simp only [q_gb, hc]
        first
          | rfl
          | (rw [decide_eq_false c2]; rfl)
          | (simp [z_b, *]; done)
          | (simp_all [z_b]; done), by
        simp only [q_g, hc]
        first
          | exact hA2
          | (simp [*]; done)
          | (simp [*]; exact hA2)
          | (simp [*]; exact hA)
          | (simp_all; done), by first | exact hF2 | exact Fr.rf⟩
    · rw [z_b_ne0] at c_248
      refine v_aload_n (pc' := 252) dX4_obeyGroup_251 rfl rfl ?_
      refine v_iload (pc' := 254) dX4_obeyGroup_252 rfl rfl ?_
      refine v_cVR (pc' := 257) (c1_takerOf hl hS hA hW (nI (g % 10000 / 100))) dX4_obeyGroup_254 lk_X4_148 mwX1_takerOf miX1_takerOf h0 rfl rfl rfl rfl (by decide) (Nat.le_of_ble_eq_true rfl) rfl ?_
      refine v_iload (pc' := 259) dX4_obeyGroup_257 rfl rfl ?_
      refine v_bipush (pc' := 261) dX4_obeyGroup_259 kb_9 rfl ?_
      refine v_icmp_ne (tgt := 268) (pc' := 264) dX4_obeyGroup_261 (by decide) rfl (fun c_261 => ?_) (fun c_261 => ?_)
      · rw [show (9 : Int32) = nI 9 from rfl, nI_eq (by omega) (by omega)] at c_261
        refine v_iload (pc' := 270) dX4_obeyGroup_268 rfl rfl ?_
        refine v_icmp_ne (tgt := 277) (pc' := 273) dX4_obeyGroup_270 (by decide) rfl (fun c_270 => ?_) (fun c_270 => ?_)
        · refine v_iconst (pc' := 278) dX4_obeyGroup_277 kc_0 rfl ?_
          exact v_zret dX4_obeyGroup_278 rfl (Nat.le_refl _) (Nat.le_refl _) rfl ⟨_, rfl, rfl, rfl, by
            simp only [q_gb, hc]
            first
              | rfl
              | (rw [decide_eq_false c2]; rfl)
              | (simp [z_b, *]; done)
              | (simp_all [z_b]; done), by
            simp only [q_g, hc]
            first
              | exact hA2
              | (simp [*]; done)
              | (simp [*]; exact hA2)
              | (simp [*]; exact hA)
              | (simp_all; done), by first | exact hF2 | exact Fr.rf⟩
        · refine v_iconst (pc' := 274) dX4_obeyGroup_273 kc_1 rfl ?_
          refine v_goto (tgt := 278) dX4_obeyGroup_274 (by decide) ?_
          exact v_zret dX4_obeyGroup_278 rfl (Nat.le_refl _) (Nat.le_refl _) rfl ⟨_, rfl, rfl, rfl, by
            simp only [q_gb, hc]
            first
              | rfl
              | (rw [decide_eq_false c2]; rfl)
              | (simp [z_b, *]; done)
              | (simp_all [z_b]; done), by
            simp only [q_g, hc]
            first
              | exact hA2
              | (simp [*]; done)
              | (simp [*]; exact hA2)
              | (simp [*]; exact hA)
              | (simp_all; done), by first | exact hF2 | exact Fr.rf⟩
      · rw [show (9 : Int32) = nI 9 from rfl, nI_eq (by omega) (by omega)] at c_261
        refine v_iconst (pc' := 265) dX4_obeyGroup_264 kc_m1 rfl ?_
        refine v_goto (tgt := 270) dX4_obeyGroup_265 (by decide) ?_
        refine v_icmp_ne (tgt := 277) (pc' := 273) dX4_obeyGroup_270 (by decide) rfl (fun c_270 => ?_) (fun c_270 => ?_)
        · refine v_iconst (pc' := 278) dX4_obeyGroup_277 kc_0 rfl ?_
          exact v_zret dX4_obeyGroup_278 rfl (Nat.le_refl _) (Nat.le_refl _) rfl ⟨_, rfl, rfl, rfl, by
            simp only [q_gb, hc]
            first
              | rfl
              | (rw [decide_eq_false c2]; rfl)
              | (simp [z_b, *]; done)
              | (simp_all [z_b]; done), by
            simp only [q_g, hc]
            first
              | exact hA2
              | (simp [*]; done)
              | (simp [*]; exact hA2)
              | (simp [*]; exact hA)
              | (simp_all; done), by first | exact hF2 | exact Fr.rf⟩
        · refine v_iconst (pc' := 274) dX4_obeyGroup_273 kc_1 rfl ?_
          refine v_goto (tgt := 278) dX4_obeyGroup_274 (by decide) ?_
          exact v_zret dX4_obeyGroup_278 rfl (Nat.le_refl _) (Nat.le_refl _) rfl ⟨_, rfl, rfl, rfl, by
            simp only [q_gb, hc]
            first
              | rfl
              | (rw [decide_eq_false c2]; rfl)
              | (simp [z_b, *]; done)
              | (simp_all [z_b]; done), by
            simp only [q_g, hc]
            first
              | exact hA2
              | (simp [*]; done)
              | (simp [*]; exact hA2)
              | (simp [*]; exact hA)
              | (simp_all; done), by first | exact hF2 | exact Fr.rf⟩
set_option maxRecDepth 20000 in
set_option maxHeartbeats 4000000 in
theorem c4_grp_9 (hl : l.stackTraces = false) (hS : ShS E G a) (hA : Abs I a r) (hW : WF r) (g : Nat) (hg : g < 100000) (hc : g / 10000 = 9) : z_CI E l mX4_obeyGroup 7 [.ref a, .int (nI g)] G I sz (fun x I' => (x = z_b (q_gb r (g / 10000) (g % 10000)) ∧ Abs I' a (q_g r (g / 10000) (g % 10000)) ∧ Fr I I' a)) := by
  have h0 := hS.1
  refine z_Ct.of hl pn_X4 [some (.ref a), some (.int (nI g)), none, none, none, none, none, none, none] rfl (Nat.le_of_ble_eq_true rfl) ?_
  refine v_iload_n (pc' := 1) dX4_obeyGroup_0 rfl rfl ?_
  refine v_sipush (pc' := 4) dX4_obeyGroup_1 ks_10000 rfl ?_
  skip
  refine v_irem (pc' := 5) dX4_obeyGroup_4 (by decide) rfl ?_
  rw [show nI (g) - nI (g) / (10000 : Int32) * 10000 = nI ((g) % 10000) from pk_rem (d := 10000) (by omega) (by omega) (by omega)]
  refine v_istore_n2 (pc' := 6) dX4_obeyGroup_5 (by decide) rfl rfl ?_
  refine v_iload_n (pc' := 7) dX4_obeyGroup_6 rfl rfl ?_
  refine v_sipush (pc' := 10) dX4_obeyGroup_7 ks_1000 rfl ?_
  refine v_idiv (pc' := 11) dX4_obeyGroup_10 (by decide) rfl ?_
  rw [show nI (g % 10000) / (1000 : Int32) = nI ((g % 10000) / 1000) from pk_div (d := 1000) (by omega) (by omega) (by omega)]
  refine v_istore_n3 (pc' := 12) dX4_obeyGroup_11 (by decide) rfl rfl ?_
  refine v_iload_n (pc' := 13) dX4_obeyGroup_12 rfl rfl ?_
  refine v_bipush (pc' := 15) dX4_obeyGroup_13 kb_10 rfl ?_
  refine v_idiv (pc' := 16) dX4_obeyGroup_15 (by decide) rfl ?_
  rw [show nI (g % 10000) / (10 : Int32) = nI ((g % 10000) / 10) from pk_div (d := 10) (by omega) (by omega) (by omega)]
  refine v_bipush (pc' := 18) dX4_obeyGroup_16 kb_10 rfl ?_
  refine v_irem (pc' := 19) dX4_obeyGroup_18 (by decide) rfl ?_
  rw [show nI (g % 10000 / 10) - nI (g % 10000 / 10) / (10 : Int32) * 10 = nI ((g % 10000 / 10) % 10) from pk_rem (d := 10) (by omega) (by omega) (by omega)]
  refine v_istore4 (pc' := 21) dX4_obeyGroup_19 (by decide) rfl rfl ?_
  refine v_iload_n (pc' := 22) dX4_obeyGroup_21 rfl rfl ?_
  refine v_bipush (pc' := 24) dX4_obeyGroup_22 kb_10 rfl ?_
  refine v_irem (pc' := 25) dX4_obeyGroup_24 (by decide) rfl ?_
  rw [show nI (g % 10000) - nI (g % 10000) / (10 : Int32) * 10 = nI ((g % 10000) % 10) from pk_rem (d := 10) (by omega) (by omega) (by omega)]
  refine v_istore5 (pc' := 27) dX4_obeyGroup_25 (by decide) rfl rfl ?_
  refine v_iload_n (pc' := 28) dX4_obeyGroup_27 rfl rfl ?_
  refine v_bipush (pc' := 30) dX4_obeyGroup_28 kb_100 rfl ?_
  refine v_idiv (pc' := 31) dX4_obeyGroup_30 (by decide) rfl ?_
  rw [show nI (g % 10000) / (100 : Int32) = nI ((g % 10000) / 100) from pk_div (d := 100) (by omega) (by omega) (by omega)]
  refine v_istore6 (pc' := 33) dX4_obeyGroup_31 (by decide) rfl rfl ?_
  refine v_iload_n (pc' := 34) dX4_obeyGroup_33 rfl rfl ?_
  refine v_sipush (pc' := 37) dX4_obeyGroup_34 ks_1000 rfl ?_
  refine v_irem (pc' := 38) dX4_obeyGroup_37 (by decide) rfl ?_
  rw [show nI (g % 10000) - nI (g % 10000) / (1000 : Int32) * 1000 = nI ((g % 10000) % 1000) from pk_rem (d := 1000) (by omega) (by omega) (by omega)]
  refine v_istore7 (pc' := 40) dX4_obeyGroup_38 (by decide) rfl rfl ?_
  refine v_iload_n (pc' := 41) dX4_obeyGroup_40 rfl rfl ?_
  refine v_bipush (pc' := 43) dX4_obeyGroup_41 kb_100 rfl ?_
  refine v_irem (pc' := 44) dX4_obeyGroup_43 (by decide) rfl ?_
  rw [show nI (g % 10000) - nI (g % 10000) / (100 : Int32) * 100 = nI ((g % 10000) % 100) from pk_rem (d := 100) (by omega) (by omega) (by omega)]
  refine v_istore8 (pc' := 46) dX4_obeyGroup_44 (by decide) rfl rfl ?_
  refine v_iload_n (pc' := 47) dX4_obeyGroup_46 rfl rfl ?_
  refine v_sipush (pc' := 50) dX4_obeyGroup_47 ks_10000 rfl ?_
  refine v_idiv (pc' := 51) dX4_obeyGroup_50 (by decide) rfl ?_
  rw [show nI (g) / (10000 : Int32) = nI ((g) / 10000) from pk_div (d := 10000) (by omega) (by omega) (by omega)]
  refine v_tableIn (tgt := 279) 8 dX4_obeyGroup_51 (by rw [nI_toInt (by omega)]; omega) (by decide) rfl (by decide) ?_
  refine v_iload (pc' := 281) dX4_obeyGroup_279 rfl rfl ?_
  refine v_if_ne (tgt := 297) (pc' := 284) dX4_obeyGroup_281 (by decide) rfl (fun c_281 => ?_) (fun c_281 => ?_)
  · rw [nI_is0 (by omega)] at c_281
    refine v_iconst (pc' := 298) dX4_obeyGroup_297 kc_0 rfl ?_
    exact v_zret dX4_obeyGroup_298 rfl (Nat.le_refl _) (Nat.le_refl _) rfl ⟨_, rfl, rfl, rfl, by
      simp only [q_gb, hc]
      first
        | rfl
        | (rw [decide_eq_false c2]; rfl)
        | (simp [z_b, *]; done)
        | (simp_all [z_b]; done), by
      simp only [q_g, hc]
      first
        | exact hA2
        | (simp [*]; done)
        | (simp [*]; exact hA2)
        | (simp [*]; exact hA)
        | (simp_all; done), by first | exact hF2 | exact Fr.rf⟩
  · rw [nI_is0 (by omega)] at c_281
    refine v_aload_n (pc' := 285) dX4_obeyGroup_284 rfl rfl ?_
    refine v_cVR (pc' := 288) (c1_idle hl hS hA hW) dX4_obeyGroup_285 lk_X4_241 mwX1_ticksUntilIdle miX1_ticksUntilIdle h0 rfl rfl rfl rfl (by decide) (Nat.le_of_ble_eq_true rfl) rfl ?_
    refine v_iload (pc' := 290) dX4_obeyGroup_288 rfl rfl ?_
    refine v_icmp_gt (tgt := 297) (pc' := 293) dX4_obeyGroup_290 (by decide) rfl (fun c_290 => ?_) (fun c_290 => ?_)
    · rw [← Int32.not_le] at c_290
      refine v_iconst (pc' := 298) dX4_obeyGroup_297 kc_0 rfl ?_
      exact v_zret dX4_obeyGroup_298 rfl (Nat.le_refl _) (Nat.le_refl _) rfl ⟨_, rfl, rfl, rfl, by
        simp only [q_gb, hc]
        first
          | rfl
          | (rw [decide_eq_false c2]; rfl)
          | (simp [z_b, *]; done)
          | (simp_all [z_b]; done), by
        simp only [q_g, hc]
        first
          | exact hA2
          | (simp [*]; done)
          | (simp [*]; exact hA2)
          | (simp [*]; exact hA)
          | (simp_all; done), by first | exact hF2 | exact Fr.rf⟩
    · rw [Int32.not_lt] at c_290
      refine v_iconst (pc' := 294) dX4_obeyGroup_293 kc_1 rfl ?_
      refine v_goto (tgt := 298) dX4_obeyGroup_294 (by decide) ?_
      exact v_zret dX4_obeyGroup_298 rfl (Nat.le_refl _) (Nat.le_refl _) rfl ⟨_, rfl, rfl, rfl, by
        simp only [q_gb, hc]
        first
          | rfl
          | (rw [decide_eq_false c2]; rfl)
          | (simp [z_b, *]; done)
          | (simp_all [z_b]; done), by
        simp only [q_g, hc]
        first
          | exact hA2
          | (simp [*]; done)
          | (simp [*]; exact hA2)
          | (simp [*]; exact hA)
          | (simp_all; done), by first | exact hF2 | exact Fr.rf⟩
set_option maxRecDepth 20000 in
set_option maxHeartbeats 4000000 in
theorem c4_grp_0 (hl : l.stackTraces = false) (hS : ShS E G a) (hA : Abs I a r) (hW : WF r) (g : Nat) (hg : g < 100000) (hc : g / 10000 = 0) : z_CI E l mX4_obeyGroup 7 [.ref a, .int (nI g)] G I sz (fun x I' => (x = z_b (q_gb r (g / 10000) (g % 10000)) ∧ Abs I' a (q_g r (g / 10000) (g % 10000)) ∧ Fr I I' a)) := by
  have h0 := hS.1
  refine z_Ct.of hl pn_X4 [some (.ref a), some (.int (nI g)), none, none, none, none, none, none, none] rfl (Nat.le_of_ble_eq_true rfl) ?_
  refine v_iload_n (pc' := 1) dX4_obeyGroup_0 rfl rfl ?_
  refine v_sipush (pc' := 4) dX4_obeyGroup_1 ks_10000 rfl ?_
  skip
  refine v_irem (pc' := 5) dX4_obeyGroup_4 (by decide) rfl ?_
  rw [show nI (g) - nI (g) / (10000 : Int32) * 10000 = nI ((g) % 10000) from pk_rem (d := 10000) (by omega) (by omega) (by omega)]
  refine v_istore_n2 (pc' := 6) dX4_obeyGroup_5 (by decide) rfl rfl ?_
  refine v_iload_n (pc' := 7) dX4_obeyGroup_6 rfl rfl ?_
  refine v_sipush (pc' := 10) dX4_obeyGroup_7 ks_1000 rfl ?_
  refine v_idiv (pc' := 11) dX4_obeyGroup_10 (by decide) rfl ?_
  rw [show nI (g % 10000) / (1000 : Int32) = nI ((g % 10000) / 1000) from pk_div (d := 1000) (by omega) (by omega) (by omega)]
  refine v_istore_n3 (pc' := 12) dX4_obeyGroup_11 (by decide) rfl rfl ?_
  refine v_iload_n (pc' := 13) dX4_obeyGroup_12 rfl rfl ?_
  refine v_bipush (pc' := 15) dX4_obeyGroup_13 kb_10 rfl ?_
  refine v_idiv (pc' := 16) dX4_obeyGroup_15 (by decide) rfl ?_
  rw [show nI (g % 10000) / (10 : Int32) = nI ((g % 10000) / 10) from pk_div (d := 10) (by omega) (by omega) (by omega)]
  refine v_bipush (pc' := 18) dX4_obeyGroup_16 kb_10 rfl ?_
  refine v_irem (pc' := 19) dX4_obeyGroup_18 (by decide) rfl ?_
  rw [show nI (g % 10000 / 10) - nI (g % 10000 / 10) / (10 : Int32) * 10 = nI ((g % 10000 / 10) % 10) from pk_rem (d := 10) (by omega) (by omega) (by omega)]
  refine v_istore4 (pc' := 21) dX4_obeyGroup_19 (by decide) rfl rfl ?_
  refine v_iload_n (pc' := 22) dX4_obeyGroup_21 rfl rfl ?_
  refine v_bipush (pc' := 24) dX4_obeyGroup_22 kb_10 rfl ?_
  refine v_irem (pc' := 25) dX4_obeyGroup_24 (by decide) rfl ?_
  rw [show nI (g % 10000) - nI (g % 10000) / (10 : Int32) * 10 = nI ((g % 10000) % 10) from pk_rem (d := 10) (by omega) (by omega) (by omega)]
  refine v_istore5 (pc' := 27) dX4_obeyGroup_25 (by decide) rfl rfl ?_
  refine v_iload_n (pc' := 28) dX4_obeyGroup_27 rfl rfl ?_
  refine v_bipush (pc' := 30) dX4_obeyGroup_28 kb_100 rfl ?_
  refine v_idiv (pc' := 31) dX4_obeyGroup_30 (by decide) rfl ?_
  rw [show nI (g % 10000) / (100 : Int32) = nI ((g % 10000) / 100) from pk_div (d := 100) (by omega) (by omega) (by omega)]
  refine v_istore6 (pc' := 33) dX4_obeyGroup_31 (by decide) rfl rfl ?_
  refine v_iload_n (pc' := 34) dX4_obeyGroup_33 rfl rfl ?_
  refine v_sipush (pc' := 37) dX4_obeyGroup_34 ks_1000 rfl ?_
  refine v_irem (pc' := 38) dX4_obeyGroup_37 (by decide) rfl ?_
  rw [show nI (g % 10000) - nI (g % 10000) / (1000 : Int32) * 1000 = nI ((g % 10000) % 1000) from pk_rem (d := 1000) (by omega) (by omega) (by omega)]
  refine v_istore7 (pc' := 40) dX4_obeyGroup_38 (by decide) rfl rfl ?_
  refine v_iload_n (pc' := 41) dX4_obeyGroup_40 rfl rfl ?_
  refine v_bipush (pc' := 43) dX4_obeyGroup_41 kb_100 rfl ?_
  refine v_irem (pc' := 44) dX4_obeyGroup_43 (by decide) rfl ?_
  rw [show nI (g % 10000) - nI (g % 10000) / (100 : Int32) * 100 = nI ((g % 10000) % 100) from pk_rem (d := 100) (by omega) (by omega) (by omega)]
  refine v_istore8 (pc' := 46) dX4_obeyGroup_44 (by decide) rfl rfl ?_
  refine v_iload_n (pc' := 47) dX4_obeyGroup_46 rfl rfl ?_
  refine v_sipush (pc' := 50) dX4_obeyGroup_47 ks_10000 rfl ?_
  refine v_idiv (pc' := 51) dX4_obeyGroup_50 (by decide) rfl ?_
  rw [show nI (g) / (10000 : Int32) = nI ((g) / 10000) from pk_div (d := 10000) (by omega) (by omega) (by omega)]
  refine v_tableOut (tgt := 299) dX4_obeyGroup_51 (by rw [nI_toInt (by omega)]; omega) (by decide) ?_
  refine v_iconst (pc' := 300) dX4_obeyGroup_299 kc_0 rfl ?_
  exact v_zret dX4_obeyGroup_300 rfl (Nat.le_refl _) (Nat.le_refl _) rfl ⟨_, rfl, rfl, rfl, by simp [q_gb, hc, z_b], by simp [q_g, hc]; exact hA, Fr.rf⟩
theorem c4_obeyGroup (hl : l.stackTraces = false) (hS : ShS E G a) (hA : Abs I a r) (hW : WF r) (g : Nat) (hg : g < 100000) : z_CI E l mX4_obeyGroup 7 [.ref a, .int (nI g)] G I sz (fun x I' => (x = z_b (q_gb r (g / 10000) (g % 10000)) ∧ Abs I' a (q_g r (g / 10000) (g % 10000)) ∧ Fr I I' a)) := by
  rcases (by omega : g / 10000 = 0 ∨ g / 10000 = 1 ∨ g / 10000 = 2 ∨ g / 10000 = 3 ∨ g / 10000 = 4 ∨ g / 10000 = 5 ∨ g / 10000 = 6 ∨ g / 10000 = 7 ∨ g / 10000 = 8 ∨ g / 10000 = 9) with q | q | q | q | q | q | q | q | q | q
  · exact c4_grp_0 hl hS hA hW g hg q
  · exact c4_grp_1 hl hS hA hW g hg q
  · exact c4_grp_2 hl hS hA hW g hg q
  · exact c4_grp_3 hl hS hA hW g hg q
  · exact c4_grp_4 hl hS hA hW g hg q
  · exact c4_grp_5 hl hS hA hW g hg q
  · exact c4_grp_6 hl hS hA hW g hg q
  · exact c4_grp_7 hl hS hA hW g hg q
  · exact c4_grp_8 hl hS hA hW g hg q
  · exact c4_grp_9 hl hS hA hW g hg q
end SCRIPT
/-- the history's cells: the object at a, its ring at a + 1, its states from a + 2 on -/
def ShH (E : zE) (G : zG) (a : Nat) : Prop := (a, sHi a) ∈ G ∧ (a + 1, sR E 5 14 (a + 2) 10) ∈ G ∧ ∀ j, j < 14 → ShS E G (a + 2 + 10 * j)
/-- acts states are remembered: rr 0 is the oldest -/
def AbsH (I : zI) (a acts : Nat) (rr : Nat → zR) : Prop := ∃ o, o < 14 ∧ I a 1 = nI o ∧ I a 2 = nI acts ∧ acts ≤ 14 ∧ ∀ i, i < acts → Abs I (a + 2 + 10 * ((o + i) % 14)) (rr i) ∧ WF (rr i)
/-- nothing outside the history has changed -/
def FrH (I I' : zI) (a : Nat) : Prop := ∀ q, (q < a ∨ a + 142 ≤ q) → I' q = I q
section HIST
variable {E : zE} {l : Launch} {G : zG} {I : zI} {sz a b acts : Nat} {r : zR} {rr : Nat → zR}
set_option maxRecDepth 20000 in
set_option maxHeartbeats 4000000 in
theorem c0_placeOf (hl : l.stackTraces = false) (hh : (a, sHi a) ∈ G) (o k : Nat) (ho : I a 1 = nI o) (hk : o + k < 1000) : z_CR E l mX0_placeOf 0 [.ref a, .int (nI k)] G I sz (.int (nI ((o + k) % 14))) := by
  refine z_Ct.of hl pn_X0 [some (.ref a), some (.int (nI k))] rfl (Nat.le_of_ble_eq_true rfl) ?_
  refine v_aload_n (pc' := 1) dX0_placeOf_0 rfl rfl ?_
  refine g_X0_17 (pc' := 4) rfl dX0_placeOf_1 (by assumption) rfl ?_
  refine v_iload_n (pc' := 5) dX0_placeOf_4 rfl rfl ?_
  rw [ho]
  refine v_iadd (pc' := 6) dX0_placeOf_5 rfl ?_
  rw [nI_add]
  refine v_bipush (pc' := 8) dX0_placeOf_6 kb_14 rfl ?_
  refine v_irem (pc' := 9) dX0_placeOf_8 (by decide) rfl ?_
  rw [show nI (o + k) - nI (o + k) / (14 : Int32) * 14 = nI ((o + k) % 14) from pk_rem (d := 14) (by omega) (by omega) (by omega)]
  exact v_iret dX0_placeOf_9 rfl (Nat.le_refl _) (Nat.le_refl _) (z_rd rfl)
set_option maxRecDepth 20000 in
set_option maxHeartbeats 4000000 in
theorem c0_forgetAll (hl : l.stackTraces = false) (hh : (a, sHi a) ∈ G) : z_CV E l mX0_forgetAll 0 [.ref a] G I sz (fun I' => I' = z_up I a 2 0) := by
  refine z_Ct.of hl pn_X0 [some (.ref a)] rfl (Nat.le_of_ble_eq_true rfl) ?_
  refine v_aload_n (pc' := 1) dX0_forgetAll_0 rfl rfl ?_
  refine v_iconst (pc' := 2) dX0_forgetAll_1 kc_0 rfl ?_
  refine p_X0_21 (pc' := 5) rfl dX0_forgetAll_2 (by assumption) rfl ?_
  exact v_vret dX0_forgetAll_5 rfl (Nat.le_refl _) (Nat.le_refl _) ⟨rfl, rfl, rfl, rfl⟩
/-- one more state is remembered -/
def rr_more (acts : Nat) (rr : Nat → zR) (r : zR) : Nat → zR := fun i => if acts < 14 then (if i = acts then r else rr i) else (if i = 13 then r else rr (i + 1))
def acts_more (acts : Nat) : Nat := if acts < 14 then acts + 1 else 14
set_option maxRecDepth 20000 in
set_option maxHeartbeats 4000000 in
theorem c0_remember (hl : l.stackTraces = false) (hS : ShH E G a) (hA : AbsH I a acts rr) (hS2 : ShS E G b) (hB : Abs I b r) (hW : WF r) (hd : b + 10 ≤ a) : z_CV E l mX0_remember 2 [.ref a, .ref b] G I sz (fun I' => AbsH I' a (acts_more acts) (rr_more acts rr r) ∧ FrH I I' a) := by
  obtain ⟨hh, hr, hs⟩ := id hS
  obtain ⟨o, ho, g1, g2, h14, hst⟩ := hA
  have hp : (o + acts) % 14 < 14 := Nat.mod_lt _ (by omega)
  refine z_Ct.of hl pn_X0 [some (.ref a), some (.ref b)] rfl (Nat.le_of_ble_eq_true rfl) ?_
  refine v_aload_n (pc' := 1) dX0_remember_0 rfl rfl ?_
  refine g_X0_11 (pc' := 4) rfl dX0_remember_1 (by assumption) rfl ?_
  refine v_aload_n (pc' := 5) dX0_remember_4 rfl rfl ?_
  refine v_aload_n (pc' := 6) dX0_remember_5 rfl rfl ?_
  refine g_X0_21 (pc' := 9) rfl dX0_remember_6 (by assumption) rfl ?_
  rw [g2]
  refine v_cVR (pc' := 12) (c0_placeOf hl hh o acts g1 (by omega)) dX0_remember_9 lk_X0_25 mwX0_placeOf miX0_placeOf hh rfl rfl rfl rfl (by decide) (Nat.le_of_ble_eq_true rfl) rfl ?_
  refine v_aald (t := 5) (pc' := 13) rfl dX0_remember_12 ((o + acts) % 14) rfl hr hp (by decide) rfl ?_
  refine v_aload_n (pc' := 14) dX0_remember_13 rfl rfl ?_
  refine v_cVV (pc' := 17) (c1_copyFrom hl (hs _ hp) hS2 hB hW (by omega)) dX0_remember_14 lk_X0_29 mwX1_copyFrom miX1_copyFrom (hs _ hp).1 rfl rfl rfl rfl (by decide) (Nat.le_of_ble_eq_true rfl) rfl ?_
  rintro I2 ⟨hA2, hF2⟩
  have e1 : I2 a 1 = nI o := by rw [hF2 a (by omega)]; exact g1
  have e2 : I2 a 2 = nI acts := by rw [hF2 a (by omega)]; exact g2
  have eo : ∀ i, i < acts → (o + i) % 14 ≠ (o + acts) % 14 ∨ acts = 14 := fun i hi => by omega
  have ek : ∀ i, i < acts → (o + i) % 14 ≠ (o + acts) % 14 → Abs I2 (a + 2 + 10 * ((o + i) % 14)) (rr i) ∧ WF (rr i) := fun i hi hne => ⟨(hst i hi).1.fr hF2 (by omega) (hst i hi).2.1.1, (hst i hi).2⟩
  refine v_aload_n (pc' := 18) dX0_remember_17 rfl rfl ?_
  refine g_X0_21 (pc' := 21) rfl dX0_remember_18 (by assumption) rfl ?_
  refine v_bipush (pc' := 23) dX0_remember_21 kb_14 rfl ?_
  rw [e2]
  refine v_icmp_ge (tgt := 39) (pc' := 26) dX0_remember_23 (by decide) rfl (fun c_23 => ?_) (fun c_23 => ?_)
  · have c14 : ¬ acts < 14 := fun q => nI_ge (a := acts) (b := 14) q (by omega) c_23
    refine v_aload_n (pc' := 40) dX0_remember_39 rfl rfl ?_
    refine v_aload_n (pc' := 41) dX0_remember_40 rfl rfl ?_
    refine v_iconst (pc' := 42) dX0_remember_41 kc_1 rfl ?_
    refine v_cVR (pc' := 45) (c0_placeOf hl hh o 1 e1 (by omega)) dX0_remember_42 lk_X0_25 mwX0_placeOf miX0_placeOf hh rfl rfl rfl rfl (by decide) (Nat.le_of_ble_eq_true rfl) rfl ?_
    refine p_X0_17 (pc' := 48) rfl dX0_remember_45 (by assumption) rfl ?_
    exact v_vret dX0_remember_48 rfl (Nat.le_refl _) (Nat.le_refl _) ⟨rfl, rfl, rfl, by
      first
        | (refine ⟨o, ho, by rw [z_up_row, z_row_at, pk_un (by omega)]; exact e1, by rw [z_up_row, z_row_at, pk_us, acts_more, if_pos c14], by rw [acts_more, if_pos c14]; omega, fun i hi => ?_⟩
           rw [acts_more, if_pos c14] at hi
           have hrow : ∀ ρ : zR, Abs I2 (a + 2 + 10 * ((o + i) % 14)) ρ → Abs (z_up I2 a 2 (nI (acts + 1))) (a + 2 + 10 * ((o + i) % 14)) ρ := fun ρ h => by
             obtain ⟨u1, u2, u3, u4⟩ := h
             refine ⟨by rw [z_up_ne _ _ _ _ (by omega)]; exact u1, by rw [z_up_ne _ _ _ _ (by omega)]; exact u2, by rw [z_up_ne _ _ _ _ (by omega)]; exact u3, fun t ht => by rw [z_up_ne _ _ _ _ (by omega)]; exact u4 t ht⟩
           by_cases e : i = acts
           · subst e
             rw [rr_more]
             simp only [c14, if_true]
             exact ⟨hrow _ hA2, hW⟩
           · rw [rr_more]
             simp only [c14, if_true, e, if_false]
             have := ek i (by omega) (by omega)
             exact ⟨hrow _ this.1, this.2⟩)
        | (refine ⟨(o + 1) % 14, Nat.mod_lt _ (by omega), by rw [z_up_row, z_row_at, pk_us], by rw [z_up_row, z_row_at, pk_un (by omega), acts_more, if_neg c14, e2, show acts = 14 by omega], by rw [acts_more, if_neg c14]; omega, fun i hi => ?_⟩
           rw [acts_more, if_neg c14] at hi
           have hrow : ∀ (j : Nat) (ρ : zR), Abs I2 (a + 2 + 10 * j) ρ → Abs (z_up I2 a 1 (nI ((o + 1) % 14))) (a + 2 + 10 * j) ρ := fun j ρ h => by
             obtain ⟨u1, u2, u3, u4⟩ := h
             refine ⟨by rw [z_up_ne _ _ _ _ (by omega)]; exact u1, by rw [z_up_ne _ _ _ _ (by omega)]; exact u2, by rw [z_up_ne _ _ _ _ (by omega)]; exact u3, fun t ht => by rw [z_up_ne _ _ _ _ (by omega)]; exact u4 t ht⟩
           rw [rr_more]
           simp only [c14, if_false]
           by_cases e : i = 13
           · simp only [e, if_true]
             rw [show ((o + 1) % 14 + 13) % 14 = (o + acts) % 14 by omega]
             exact ⟨hrow _ _ hA2, hW⟩
           · simp only [e, if_false]
             rw [show ((o + 1) % 14 + i) % 14 = (o + (i + 1)) % 14 by omega]
             have := ek (i + 1) (by omega) (by omega)
             exact ⟨hrow _ _ this.1, this.2⟩), fun q hq => by rw [z_up_ne _ _ _ _ (by omega)]; exact hF2 q (by omega)⟩
  · have c14 : acts < 14 := by
      rcases Nat.lt_or_ge acts 14 with q | q
      · exact q
      · exact absurd (nI_le (a := 14) q (by omega)) c_23
    refine v_aload_n (pc' := 27) dX0_remember_26 rfl rfl ?_
    refine v_dup (pc' := 28) dX0_remember_27 rfl rfl ?_
    refine g_X0_21 (pc' := 31) rfl dX0_remember_28 (by assumption) rfl ?_
    rw [e2]
    refine v_iconst (pc' := 32) dX0_remember_31 kc_1 rfl ?_
    refine v_iadd (pc' := 33) dX0_remember_32 rfl ?_
    rw [nI_1]
    refine p_X0_21 (pc' := 36) rfl dX0_remember_33 (by assumption) rfl ?_
    refine v_goto (tgt := 48) dX0_remember_36 (by decide) ?_
    exact v_vret dX0_remember_48 rfl (Nat.le_refl _) (Nat.le_refl _) ⟨rfl, rfl, rfl, by
      first
        | (refine ⟨o, ho, by rw [z_up_row, z_row_at, pk_un (by omega)]; exact e1, by rw [z_up_row, z_row_at, pk_us, acts_more, if_pos c14], by rw [acts_more, if_pos c14]; omega, fun i hi => ?_⟩
           rw [acts_more, if_pos c14] at hi
           have hrow : ∀ ρ : zR, Abs I2 (a + 2 + 10 * ((o + i) % 14)) ρ → Abs (z_up I2 a 2 (nI (acts + 1))) (a + 2 + 10 * ((o + i) % 14)) ρ := fun ρ h => by
             obtain ⟨u1, u2, u3, u4⟩ := h
             refine ⟨by rw [z_up_ne _ _ _ _ (by omega)]; exact u1, by rw [z_up_ne _ _ _ _ (by omega)]; exact u2, by rw [z_up_ne _ _ _ _ (by omega)]; exact u3, fun t ht => by rw [z_up_ne _ _ _ _ (by omega)]; exact u4 t ht⟩
           by_cases e : i = acts
           · subst e
             rw [rr_more]
             simp only [c14, if_true]
             exact ⟨hrow _ hA2, hW⟩
           · rw [rr_more]
             simp only [c14, if_true, e, if_false]
             have := ek i (by omega) (by omega)
             exact ⟨hrow _ this.1, this.2⟩)
        | (refine ⟨(o + 1) % 14, Nat.mod_lt _ (by omega), by rw [z_up_row, z_row_at, pk_us], by rw [z_up_row, z_row_at, pk_un (by omega), acts_more, if_neg c14, e2, show acts = 14 by omega], by rw [acts_more, if_neg c14]; omega, fun i hi => ?_⟩
           rw [acts_more, if_neg c14] at hi
           have hrow : ∀ (j : Nat) (ρ : zR), Abs I2 (a + 2 + 10 * j) ρ → Abs (z_up I2 a 1 (nI ((o + 1) % 14))) (a + 2 + 10 * j) ρ := fun j ρ h => by
             obtain ⟨u1, u2, u3, u4⟩ := h
             refine ⟨by rw [z_up_ne _ _ _ _ (by omega)]; exact u1, by rw [z_up_ne _ _ _ _ (by omega)]; exact u2, by rw [z_up_ne _ _ _ _ (by omega)]; exact u3, fun t ht => by rw [z_up_ne _ _ _ _ (by omega)]; exact u4 t ht⟩
           rw [rr_more]
           simp only [c14, if_false]
           by_cases e : i = 13
           · simp only [e, if_true]
             rw [show ((o + 1) % 14 + 13) % 14 = (o + acts) % 14 by omega]
             exact ⟨hrow _ _ hA2, hW⟩
           · simp only [e, if_false]
             rw [show ((o + 1) % 14 + i) % 14 = (o + (i + 1)) % 14 by omega]
             have := ek (i + 1) (by omega) (by omega)
             exact ⟨hrow _ _ this.1, this.2⟩), fun q hq => by rw [z_up_ne _ _ _ _ (by omega)]; exact hF2 q (by omega)⟩
set_option maxRecDepth 20000 in
set_option maxHeartbeats 4000000 in
theorem c0_takeBack (hl : l.stackTraces = false) (hS : ShH E G a) (hA : AbsH I a acts rr) (hS2 : ShS E G b) (hd : b + 10 ≤ a) (h0 : 0 < acts) : z_CI E l mX0_takeBack 2 [.ref a, .ref b] G I sz (fun x I' => x = nI (acts - 1) ∧ AbsH I' a (acts - 1) rr ∧ Abs I' b (rr (acts - 1)) ∧ WF (rr (acts - 1)) ∧ ∀ q, (q < b ∨ b + 10 ≤ q) → q ≠ a → I' q = I q) := by
  obtain ⟨hh, hr, hs⟩ := id hS
  obtain ⟨o, ho, g1, g2, h14, hst⟩ := hA
  obtain ⟨k, rfl⟩ : ∃ k, acts = k + 1 := ⟨acts - 1, by omega⟩
  rw [Nat.add_sub_cancel]
  have hp : (o + k) % 14 < 14 := Nat.mod_lt _ (by omega)
  obtain ⟨hA1, hW1⟩ := hst k (by omega)
  have hup : ∀ (q : Nat) (ρ : zR), Abs I (a + 2 + 10 * q) ρ → Abs (z_up I a 2 (nI k)) (a + 2 + 10 * q) ρ := fun q ρ h => by
    obtain ⟨u1, u2, u3, u4⟩ := h
    refine ⟨by rw [z_up_ne _ _ _ _ (by omega)]; exact u1, by rw [z_up_ne _ _ _ _ (by omega)]; exact u2, by rw [z_up_ne _ _ _ _ (by omega)]; exact u3, fun t ht => by rw [z_up_ne _ _ _ _ (by omega)]; exact u4 t ht⟩
  refine z_Ct.of hl pn_X0 [some (.ref a), some (.ref b)] rfl (Nat.le_of_ble_eq_true rfl) ?_
  refine v_aload_n (pc' := 1) dX0_takeBack_0 rfl rfl ?_
  refine g_X0_21 (pc' := 4) rfl dX0_takeBack_1 (by assumption) rfl ?_
  rw [g2]
  refine v_if_le (tgt := 34) (pc' := 7) dX0_takeBack_4 (by decide) rfl (fun c_4 => ?_) (fun c_4 => ?_)
  · exact absurd c_4 (nI_nle (by omega) (by omega))
  · refine v_aload_n (pc' := 8) dX0_takeBack_7 rfl rfl ?_
    refine v_dup (pc' := 9) dX0_takeBack_8 rfl rfl ?_
    refine g_X0_21 (pc' := 12) rfl dX0_takeBack_9 (by assumption) rfl ?_
    rw [g2]
    refine v_iconst (pc' := 13) dX0_takeBack_12 kc_1 rfl ?_
    refine v_isub (pc' := 14) dX0_takeBack_13 rfl ?_
    rw [nI_pred]
    refine p_X0_21 (pc' := 17) rfl dX0_takeBack_14 (by assumption) rfl ?_
    refine v_aload_n (pc' := 18) dX0_takeBack_17 rfl rfl ?_
    refine v_aload_n (pc' := 19) dX0_takeBack_18 rfl rfl ?_
    refine g_X0_11 (pc' := 22) rfl dX0_takeBack_19 (by assumption) rfl ?_
    refine v_aload_n (pc' := 23) dX0_takeBack_22 rfl rfl ?_
    refine v_aload_n (pc' := 24) dX0_takeBack_23 rfl rfl ?_
    refine g_X0_21 (pc' := 27) rfl dX0_takeBack_24 (by assumption) rfl ?_
    rw [show z_up I a 2 (nI k) a 2 = nI k by rw [z_up_row, z_row_at, pk_us]]
    refine v_cVR (pc' := 30) (c0_placeOf hl hh o k (by rw [z_up_row, z_row_at, pk_un (by omega)]; exact g1) (by omega)) dX0_takeBack_27 lk_X0_25 mwX0_placeOf miX0_placeOf hh rfl rfl rfl rfl (by decide) (Nat.le_of_ble_eq_true rfl) rfl ?_
    refine v_aald (t := 5) (pc' := 31) rfl dX0_takeBack_30 ((o + k) % 14) rfl hr hp (by decide) rfl ?_
    refine v_cVV (pc' := 34) (c1_copyFrom hl hS2 (hs _ hp) (hup _ _ hA1) hW1 (by omega)) dX0_takeBack_31 lk_X0_29 mwX1_copyFrom miX1_copyFrom hS2.1 rfl rfl rfl rfl (by decide) (Nat.le_of_ble_eq_true rfl) rfl ?_
    rintro I2 ⟨hA2, hF2⟩
    have e2 : I2 a 2 = nI k := by rw [hF2 a (by omega), z_up_row, z_row_at, pk_us]
    have e1 : I2 a 1 = nI o := by rw [hF2 a (by omega), z_up_row, z_row_at, pk_un (by omega)]; exact g1
    refine v_aload_n (pc' := 35) dX0_takeBack_34 rfl rfl ?_
    refine g_X0_21 (pc' := 38) rfl dX0_takeBack_35 (by assumption) rfl ?_
    rw [e2]
    exact v_iret dX0_takeBack_38 rfl (Nat.le_refl _) (Nat.le_refl _) ⟨_, rfl, rfl, rfl, rfl, ⟨o, ho, e1, e2, by omega, fun i hi => ⟨(hup _ _ (hst i (by omega)).1).fr hF2 (by omega) (hst i (by omega)).2.1.1, (hst i (by omega)).2⟩⟩, hA2, hW1, fun q hq hne => by rw [hF2 q hq, z_up_ne _ _ _ _ hne]⟩
end HIST
