/-! THE LAW's cell, thrown, act, alike (written by wip/p29/gen_law2.py) -/
theorem nI_neg {n : Nat} {x : Int32} (hn : n < 2 ^ 31) (hx : x.toInt < 0) : ¬ nI n = x := fun q => by
  have := nI_toInt hn
  rw [q] at this
  omega
section LAW2
variable {E : zE} {l : Launch} {G : zG} {I : zI} {sz c : Nat} {S : zS}
set_option maxRecDepth 20000 in
set_option maxHeartbeats 4000000 in
theorem c_cell (hl : l.stackTraces = false) (hN : E.2.2.2.2.2.1 < 2 ^ 31) (k : Nat) (hk : k < 2 ^ 31) : z_Ct E l mL_cell 0 0 0 [.ref E.2.2.2.2.1, .int (nI k)] G I sz (fun v' G' I' sz' => ∃ m, m < 2 ^ 31 ∧ v' = some (.int (nI m)) ∧ G' = G ∧ I' = I ∧ sz' = sz) := by
  refine z_Ct.of hl pn_L [some (.ref E.2.2.2.2.1), some (.int (nI k))] rfl (Nat.le_of_ble_eq_true rfl) ?_
  refine v_iload_n (pc' := 1) dL_cell_0 rfl rfl ?_
  refine v_aload_n (pc' := 2) dL_cell_1 rfl rfl ?_
  refine v_slen (pc' := 3) dL_cell_2 rfl ?_
  have fin : ∀ x : Int32, z_V E l mL_cell (z_rm 0 0 0) 0 0 (z_q (fun v' G' I' sz' => ∃ m, m < 2 ^ 31 ∧ v' = some (.int (nI m)) ∧ G' = G ∧ I' = I ∧ sz' = sz)) 0 0 G I sz 22 [some (.ref E.2.2.2.2.1), some (.int (nI k))] [.int x] := by
    intro x
    refine v_ldc (pc' := 24) dL_cell_22 ck_L_163 rfl ?_
    refine v_iand (pc' := 25) dL_cell_24 rfl ?_
    rw [show x &&& 2147483647 = nI (x.toBitVec.toNat % 2 ^ 31) from pk_and _ 31 (by decide)]
    exact v_iret dL_cell_25 rfl (by decide) (by decide) ⟨_, Nat.mod_lt _ (by decide), rfl, rfl, rfl, rfl⟩
  refine v_icmp_ge (tgt := 12) (pc' := 6) dL_cell_3 (by decide) rfl (fun c_3 => ?_) (fun c_3 => ?_)
  · refine v_ldc (pc' := 14) dL_cell_12 ck_L_162 rfl ?_
    refine v_iload_n (pc' := 15) dL_cell_14 rfl rfl ?_
    refine v_iconst (pc' := 16) dL_cell_15 kc_3 rfl ?_
    refine v_iadd (pc' := 17) dL_cell_16 rfl ?_
    refine v_imul (pc' := 18) dL_cell_17 rfl ?_
    refine v_sipush (pc' := 21) dL_cell_18 ks_11287 rfl ?_
    refine v_iadd (pc' := 22) dL_cell_21 rfl ?_
    exact fin _
  · refine v_aload_n (pc' := 7) dL_cell_6 rfl rfl ?_
    refine v_iload_n (pc' := 8) dL_cell_7 rfl rfl ?_
    refine v_sld (j := k) (pc' := 9) dL_cell_8 rfl ?_ hN rfl ?_
    · rw [Int32.le_iff_toInt_le, nI_toInt hk, nI_toInt hN] at c_3
      omega
    refine v_goto (tgt := 22) dL_cell_9 (by decide) ?_
    exact fin _
set_option maxRecDepth 20000 in
set_option maxHeartbeats 4000000 in
theorem c_thrown (hl : l.stackTraces = false) (n : Nat) (hn : n < 2 ^ 31) : z_CR E l mL_thrown 0 [.int (nI n)] G I sz (.int 0) := by
  refine z_Ct.of hl pn_L [some (.int (nI n))] rfl (Nat.le_of_ble_eq_true rfl) ?_
  refine v_iload_n (pc' := 1) dL_thrown_0 rfl rfl ?_
  refine v_ldc (pc' := 3) dL_thrown_1 ck_L_40 rfl ?_
  refine v_icmp_eq (tgt := 18) (pc' := 6) dL_thrown_3 (by decide) rfl (fun c_3 => ?_) (fun c_3 => ?_)
  · exact absurd c_3 (nI_neg hn (by decide))
  · refine v_iload_n (pc' := 7) dL_thrown_6 rfl rfl ?_
    refine v_ldc (pc' := 9) dL_thrown_7 ck_L_15 rfl ?_
    refine v_icmp_eq (tgt := 18) (pc' := 12) dL_thrown_9 (by decide) rfl (fun c_9 => ?_) (fun c_9 => ?_)
    · exact absurd c_9 (nI_neg hn (by decide))
    · refine v_iload_n (pc' := 13) dL_thrown_12 rfl rfl ?_
      refine v_ldc (pc' := 15) dL_thrown_13 ck_L_26 rfl ?_
      refine v_icmp_ne (tgt := 22) (pc' := 18) dL_thrown_15 (by decide) rfl (fun c_15 => ?_) (fun c_15 => ?_)
      · refine v_iconst (pc' := 23) dL_thrown_22 kc_0 rfl ?_
        exact v_zret dL_thrown_23 rfl (Nat.le_refl _) (Nat.le_refl _) rfl (z_rd rfl)
      · exact absurd c_15 (nI_neg hn (by decide))
set_option maxRecDepth 20000 in
set_option maxHeartbeats 4000000 in
theorem c_act (hl : l.stackTraces = false) (hK : ShK E G c) (hA : AbsK I c S) (h0 : ¬ S.1 0 = 0) (m : Nat) (hm : m < 2 ^ 31) : z_K1 E l mL_act 11 2 12 [.ref c, .int (nI m)] G I sz c (act_p S (nI m) (m % 16)).1 (act_p S (nI m) (m % 16)).2 := by
  refine z_Ct.of hl pn_L [some (.ref c), some (.int (nI m)), none, none, none] rfl (Nat.le_of_ble_eq_true rfl) ?_
  have hF : FrK I I c := FrK.rf
  refine v_aload_n (pc' := 1) dL_act_0 rfl rfl ?_
  refine v_iconst (pc' := 2) dL_act_1 kc_2 rfl ?_
  refine v_iconst (pc' := 3) dL_act_2 kc_0 rfl ?_
  refine v_iconst (pc' := 4) dL_act_3 kc_0 rfl ?_
  refine v_iconst (pc' := 5) dL_act_4 kc_0 rfl ?_
  refine v_k1 (na := 5) (pc' := 8) (z_K1.to (call_2 hl hK hA _ _ _) (x_ab0) (rfl)) hF dL_act_5 lk_L_164 mwL_call msL_call rfl rfl (by decide) (by omega) (Nat.le_of_ble_eq_true rfl) rfl ?_
  intro I1 s1 hA1 hF1
  refine v_istore_n2 (pc' := 9) dL_act_8 (by decide) rfl rfl ?_
  refine v_iload_n (pc' := 10) dL_act_9 rfl rfl ?_
  refine v_bipush (pc' := 12) dL_act_10 kb_16 rfl ?_
  refine v_idiv (pc' := 13) dL_act_12 (by decide) rfl ?_
  refine v_iload_n (pc' := 14) dL_act_13 rfl rfl ?_
  refine v_irem (pc' := 15) dL_act_14 h0 rfl ?_
  refine v_istore_n3 (pc' := 16) dL_act_15 (by decide) rfl rfl ?_
  refine v_iload_n (pc' := 17) dL_act_16 rfl rfl ?_
  refine v_bipush (pc' := 19) dL_act_17 kb_96 rfl ?_
  refine v_idiv (pc' := 20) dL_act_19 (by decide) rfl ?_
  refine v_bipush (pc' := 22) dL_act_20 kb_12 rfl ?_
  refine v_irem (pc' := 23) dL_act_22 (by decide) rfl ?_
  refine v_istore4 (pc' := 25) dL_act_23 (by decide) rfl rfl ?_
  refine v_iload_n (pc' := 26) dL_act_25 rfl rfl ?_
  refine v_bipush (pc' := 28) dL_act_26 kb_16 rfl ?_
  refine v_irem (pc' := 29) dL_act_28 (by decide) rfl ?_
  rw [show nI m - nI m / 16 * 16 = nI (m % 16) from rm (d := 16) hm (by omega) (by omega)]
  have hlt := Nat.mod_lt m (show 0 < 16 by omega)
  generalize m % 16 = j at hlt ⊢
  have hx : (nI j).toInt = (j : Int) := nI_toInt (by omega)
  rcases (by omega : j = 0 ∨ j = 1 ∨ j = 2 ∨ j = 3 ∨ j = 4 ∨ j = 5 ∨ j = 6 ∨ j = 7 ∨ j = 8 ∨ j = 9 ∨ j = 10 ∨ j = 11 ∨ j = 12 ∨ 13 ≤ j) with rfl | rfl | rfl | rfl | rfl | rfl | rfl | rfl | rfl | rfl | rfl | rfl | rfl | h13
  · refine v_tableIn (tgt := 96) 0 dL_act_29 (by rw [hx]; rfl) (by decide) rfl (by decide) ?_
    refine v_aload_n (pc' := 97) dL_act_96 rfl rfl ?_
    refine v_bipush (pc' := 99) dL_act_97 kb_7 rfl ?_
    refine v_iconst (pc' := 100) dL_act_99 kc_1 rfl ?_
    refine v_iload_n (pc' := 101) dL_act_100 rfl rfl ?_
    refine v_bipush (pc' := 103) dL_act_101 kb_16 rfl ?_
    refine v_idiv (pc' := 104) dL_act_103 (by decide) rfl ?_
    refine v_iconst (pc' := 105) dL_act_104 kc_5 rfl ?_
    refine v_irem (pc' := 106) dL_act_105 (by decide) rfl ?_
    refine v_iadd (pc' := 107) dL_act_106 rfl ?_
    refine v_iload_n (pc' := 108) dL_act_107 rfl rfl ?_
    refine v_bipush (pc' := 110) dL_act_108 kb_80 rfl ?_
    refine v_idiv (pc' := 111) dL_act_110 (by decide) rfl ?_
    refine v_sipush (pc' := 114) dL_act_111 ks_997 rfl ?_
    refine v_irem (pc' := 115) dL_act_114 (by decide) rfl ?_
    refine v_iconst (pc' := 116) dL_act_115 kc_0 rfl ?_
    refine v_k1 (na := 5) (pc' := 119) (call_7 hl hK hA1 _ _ _) hF1 dL_act_116 lk_L_164 mwL_call msL_call rfl rfl (by decide) (by omega) (Nat.le_of_ble_eq_true rfl) rfl ?_
    intro I2 s2 hA2 hF2
    exact v_iret dL_act_119 rfl (by omega) (by omega) ⟨rfl, rfl, hA2, hF2⟩
  · refine v_tableIn (tgt := 120) 1 dL_act_29 (by rw [hx]; rfl) (by decide) rfl (by decide) ?_
    refine v_aload_n (pc' := 121) dL_act_120 rfl rfl ?_
    refine v_bipush (pc' := 123) dL_act_121 kb_8 rfl ?_
    refine v_iload_n (pc' := 124) dL_act_123 rfl rfl ?_
    refine v_iload (pc' := 126) dL_act_124 rfl rfl ?_
    refine v_iconst (pc' := 127) dL_act_126 kc_0 rfl ?_
    refine v_k1 (na := 5) (pc' := 130) (call_8 hl hK hA1 _ _ _) hF1 dL_act_127 lk_L_164 mwL_call msL_call rfl rfl (by decide) (by omega) (Nat.le_of_ble_eq_true rfl) rfl ?_
    intro I2 s2 hA2 hF2
    exact v_iret dL_act_130 rfl (by omega) (by omega) ⟨rfl, rfl, hA2, hF2⟩
  · refine v_tableIn (tgt := 120) 2 dL_act_29 (by rw [hx]; rfl) (by decide) rfl (by decide) ?_
    refine v_aload_n (pc' := 121) dL_act_120 rfl rfl ?_
    refine v_bipush (pc' := 123) dL_act_121 kb_8 rfl ?_
    refine v_iload_n (pc' := 124) dL_act_123 rfl rfl ?_
    refine v_iload (pc' := 126) dL_act_124 rfl rfl ?_
    refine v_iconst (pc' := 127) dL_act_126 kc_0 rfl ?_
    refine v_k1 (na := 5) (pc' := 130) (call_8 hl hK hA1 _ _ _) hF1 dL_act_127 lk_L_164 mwL_call msL_call rfl rfl (by decide) (by omega) (Nat.le_of_ble_eq_true rfl) rfl ?_
    intro I2 s2 hA2 hF2
    exact v_iret dL_act_130 rfl (by omega) (by omega) ⟨rfl, rfl, hA2, hF2⟩
  · refine v_tableIn (tgt := 120) 3 dL_act_29 (by rw [hx]; rfl) (by decide) rfl (by decide) ?_
    refine v_aload_n (pc' := 121) dL_act_120 rfl rfl ?_
    refine v_bipush (pc' := 123) dL_act_121 kb_8 rfl ?_
    refine v_iload_n (pc' := 124) dL_act_123 rfl rfl ?_
    refine v_iload (pc' := 126) dL_act_124 rfl rfl ?_
    refine v_iconst (pc' := 127) dL_act_126 kc_0 rfl ?_
    refine v_k1 (na := 5) (pc' := 130) (call_8 hl hK hA1 _ _ _) hF1 dL_act_127 lk_L_164 mwL_call msL_call rfl rfl (by decide) (by omega) (Nat.le_of_ble_eq_true rfl) rfl ?_
    intro I2 s2 hA2 hF2
    exact v_iret dL_act_130 rfl (by omega) (by omega) ⟨rfl, rfl, hA2, hF2⟩
  · refine v_tableIn (tgt := 120) 4 dL_act_29 (by rw [hx]; rfl) (by decide) rfl (by decide) ?_
    refine v_aload_n (pc' := 121) dL_act_120 rfl rfl ?_
    refine v_bipush (pc' := 123) dL_act_121 kb_8 rfl ?_
    refine v_iload_n (pc' := 124) dL_act_123 rfl rfl ?_
    refine v_iload (pc' := 126) dL_act_124 rfl rfl ?_
    refine v_iconst (pc' := 127) dL_act_126 kc_0 rfl ?_
    refine v_k1 (na := 5) (pc' := 130) (call_8 hl hK hA1 _ _ _) hF1 dL_act_127 lk_L_164 mwL_call msL_call rfl rfl (by decide) (by omega) (Nat.le_of_ble_eq_true rfl) rfl ?_
    intro I2 s2 hA2 hF2
    exact v_iret dL_act_130 rfl (by omega) (by omega) ⟨rfl, rfl, hA2, hF2⟩
  · refine v_tableIn (tgt := 120) 5 dL_act_29 (by rw [hx]; rfl) (by decide) rfl (by decide) ?_
    refine v_aload_n (pc' := 121) dL_act_120 rfl rfl ?_
    refine v_bipush (pc' := 123) dL_act_121 kb_8 rfl ?_
    refine v_iload_n (pc' := 124) dL_act_123 rfl rfl ?_
    refine v_iload (pc' := 126) dL_act_124 rfl rfl ?_
    refine v_iconst (pc' := 127) dL_act_126 kc_0 rfl ?_
    refine v_k1 (na := 5) (pc' := 130) (call_8 hl hK hA1 _ _ _) hF1 dL_act_127 lk_L_164 mwL_call msL_call rfl rfl (by decide) (by omega) (Nat.le_of_ble_eq_true rfl) rfl ?_
    intro I2 s2 hA2 hF2
    exact v_iret dL_act_130 rfl (by omega) (by omega) ⟨rfl, rfl, hA2, hF2⟩
  · refine v_tableIn (tgt := 131) 6 dL_act_29 (by rw [hx]; rfl) (by decide) rfl (by decide) ?_
    refine v_aload_n (pc' := 132) dL_act_131 rfl rfl ?_
    refine v_bipush (pc' := 134) dL_act_132 kb_10 rfl ?_
    refine v_iload (pc' := 136) dL_act_134 rfl rfl ?_
    refine v_iconst (pc' := 137) dL_act_136 kc_0 rfl ?_
    refine v_iconst (pc' := 138) dL_act_137 kc_0 rfl ?_
    refine v_k1 (na := 5) (pc' := 141) (call_10 hl hK hA1 _ _ _) hF1 dL_act_138 lk_L_164 mwL_call msL_call rfl rfl (by decide) (by omega) (Nat.le_of_ble_eq_true rfl) rfl ?_
    intro I2 s2 hA2 hF2
    exact v_iret dL_act_141 rfl (by omega) (by omega) ⟨rfl, rfl, hA2, hF2⟩
  · refine v_tableIn (tgt := 142) 7 dL_act_29 (by rw [hx]; rfl) (by decide) rfl (by decide) ?_
    refine v_aload_n (pc' := 143) dL_act_142 rfl rfl ?_
    refine v_bipush (pc' := 145) dL_act_143 kb_11 rfl ?_
    refine v_iload (pc' := 147) dL_act_145 rfl rfl ?_
    refine v_iconst (pc' := 148) dL_act_147 kc_0 rfl ?_
    refine v_iconst (pc' := 149) dL_act_148 kc_0 rfl ?_
    refine v_k1 (na := 5) (pc' := 152) (call_11 hl hK hA1 _ _ _) hF1 dL_act_149 lk_L_164 mwL_call msL_call rfl rfl (by decide) (by omega) (Nat.le_of_ble_eq_true rfl) rfl ?_
    intro I2 s2 hA2 hF2
    exact v_iret dL_act_152 rfl (by omega) (by omega) ⟨rfl, rfl, hA2, hF2⟩
  · refine v_tableIn (tgt := 142) 8 dL_act_29 (by rw [hx]; rfl) (by decide) rfl (by decide) ?_
    refine v_aload_n (pc' := 143) dL_act_142 rfl rfl ?_
    refine v_bipush (pc' := 145) dL_act_143 kb_11 rfl ?_
    refine v_iload (pc' := 147) dL_act_145 rfl rfl ?_
    refine v_iconst (pc' := 148) dL_act_147 kc_0 rfl ?_
    refine v_iconst (pc' := 149) dL_act_148 kc_0 rfl ?_
    refine v_k1 (na := 5) (pc' := 152) (call_11 hl hK hA1 _ _ _) hF1 dL_act_149 lk_L_164 mwL_call msL_call rfl rfl (by decide) (by omega) (Nat.le_of_ble_eq_true rfl) rfl ?_
    intro I2 s2 hA2 hF2
    exact v_iret dL_act_152 rfl (by omega) (by omega) ⟨rfl, rfl, hA2, hF2⟩
  · refine v_tableIn (tgt := 153) 9 dL_act_29 (by rw [hx]; rfl) (by decide) rfl (by decide) ?_
    refine v_aload_n (pc' := 154) dL_act_153 rfl rfl ?_
    refine v_bipush (pc' := 156) dL_act_154 kb_9 rfl ?_
    refine v_iload_n (pc' := 157) dL_act_156 rfl rfl ?_
    refine v_iconst (pc' := 158) dL_act_157 kc_0 rfl ?_
    refine v_iconst (pc' := 159) dL_act_158 kc_0 rfl ?_
    refine v_k1 (na := 5) (pc' := 162) (call_9 hl hK hA1 _ _ _) hF1 dL_act_159 lk_L_164 mwL_call msL_call rfl rfl (by decide) (by omega) (Nat.le_of_ble_eq_true rfl) rfl ?_
    intro I2 s2 hA2 hF2
    exact v_iret dL_act_162 rfl (by omega) (by omega) ⟨rfl, rfl, hA2, hF2⟩
  · refine v_tableIn (tgt := 163) 10 dL_act_29 (by rw [hx]; rfl) (by decide) rfl (by decide) ?_
    refine v_aload_n (pc' := 164) dL_act_163 rfl rfl ?_
    refine v_bipush (pc' := 166) dL_act_164 kb_13 rfl ?_
    refine v_iload_n (pc' := 167) dL_act_166 rfl rfl ?_
    refine v_bipush (pc' := 169) dL_act_167 kb_16 rfl ?_
    refine v_idiv (pc' := 170) dL_act_169 (by decide) rfl ?_
    refine v_iconst (pc' := 171) dL_act_170 kc_3 rfl ?_
    refine v_irem (pc' := 172) dL_act_171 (by decide) rfl ?_
    refine v_iload_n (pc' := 173) dL_act_172 rfl rfl ?_
    refine v_bipush (pc' := 175) dL_act_173 kb_48 rfl ?_
    refine v_idiv (pc' := 176) dL_act_175 (by decide) rfl ?_
    refine v_bipush (pc' := 178) dL_act_176 kb_12 rfl ?_
    refine v_irem (pc' := 179) dL_act_178 (by decide) rfl ?_
    refine v_iconst (pc' := 180) dL_act_179 kc_0 rfl ?_
    refine v_k1 (na := 5) (pc' := 183) (call_13 hl hK hA1 _ _ _) hF1 dL_act_180 lk_L_164 mwL_call msL_call rfl rfl (by decide) (by omega) (Nat.le_of_ble_eq_true rfl) rfl ?_
    intro I2 s2 hA2 hF2
    exact v_iret dL_act_183 rfl (by omega) (by omega) ⟨rfl, rfl, hA2, hF2⟩
  · refine v_tableIn (tgt := 184) 11 dL_act_29 (by rw [hx]; rfl) (by decide) rfl (by decide) ?_
    refine v_iload_n (pc' := 185) dL_act_184 rfl rfl ?_
    refine v_iconst (pc' := 186) dL_act_185 kc_3 rfl ?_
    refine v_icmp_ge (tgt := 193) (pc' := 189) dL_act_186 (by decide) rfl (fun c_186 => ?_) (fun c_186 => ?_)
    · have e : act_p S (nI m) 11 = (cv_14 S 0 0 0, cs_14 S 0 0 0) := by
        unfold act_p
        rw [if_neg (by decide), if_neg (by decide), if_neg (by decide), if_neg (by decide), if_neg (by decide), if_neg (by decide), if_pos rfl, if_pos c_186]
      refine v_aload_n (pc' := 194) dL_act_193 rfl rfl ?_
      refine v_bipush (pc' := 196) dL_act_194 kb_14 rfl ?_
      refine v_iconst (pc' := 197) dL_act_196 kc_0 rfl ?_
      refine v_iconst (pc' := 198) dL_act_197 kc_0 rfl ?_
      refine v_iconst (pc' := 199) dL_act_198 kc_0 rfl ?_
      refine v_k1 (na := 5) (pc' := 202) (call_14 hl hK hA1 _ _ _) hF1 dL_act_199 lk_L_164 mwL_call msL_call rfl rfl (by decide) (by omega) (Nat.le_of_ble_eq_true rfl) rfl ?_
      intro I2 s2 hA2 hF2
      exact v_iret dL_act_202 rfl (by omega) (by omega) ⟨by rw [e], rfl, by rw [e]; exact hA2, hF2⟩
    · have e : act_p S (nI m) 11 = (-1, S) := by
        unfold act_p
        rw [if_neg (by decide), if_neg (by decide), if_neg (by decide), if_neg (by decide), if_neg (by decide), if_neg (by decide), if_pos rfl, if_neg c_186]
      refine v_iconst (pc' := 190) dL_act_189 kc_m1 rfl ?_
      refine v_goto (tgt := 202) dL_act_190 (by decide) ?_
      exact v_iret dL_act_202 rfl (by omega) (by omega) ⟨by rw [e], rfl, by rw [e]; exact hA1, hF1⟩
  · refine v_tableIn (tgt := 203) 12 dL_act_29 (by rw [hx]; rfl) (by decide) rfl (by decide) ?_
    refine v_iload_n (pc' := 204) dL_act_203 rfl rfl ?_
    refine v_bipush (pc' := 206) dL_act_204 kb_16 rfl ?_
    refine v_idiv (pc' := 207) dL_act_206 (by decide) rfl ?_
    refine v_iconst (pc' := 208) dL_act_207 kc_2 rfl ?_
    refine v_irem (pc' := 209) dL_act_208 (by decide) rfl ?_
    refine v_if_ne (tgt := 229) (pc' := 212) dL_act_209 (by decide) rfl (fun c_209 => ?_) (fun c_209 => ?_)
    · have e : act_p S (nI m) 12 = (cv_20 S (nI m / 32 - nI m / 32 / 2 * 2) 0 0, cs_20 S (nI m / 32 - nI m / 32 / 2 * 2) 0 0) := by
        unfold act_p
        rw [if_neg (by decide), if_neg (by decide), if_neg (by decide), if_neg (by decide), if_neg (by decide), if_neg (by decide), if_neg (by decide), if_pos rfl, if_neg c_209]
      refine v_aload_n (pc' := 230) dL_act_229 rfl rfl ?_
      refine v_bipush (pc' := 232) dL_act_230 kb_20 rfl ?_
      refine v_iload_n (pc' := 233) dL_act_232 rfl rfl ?_
      refine v_bipush (pc' := 235) dL_act_233 kb_32 rfl ?_
      refine v_idiv (pc' := 236) dL_act_235 (by decide) rfl ?_
      refine v_iconst (pc' := 237) dL_act_236 kc_2 rfl ?_
      refine v_irem (pc' := 238) dL_act_237 (by decide) rfl ?_
      refine v_iconst (pc' := 239) dL_act_238 kc_0 rfl ?_
      refine v_iconst (pc' := 240) dL_act_239 kc_0 rfl ?_
      refine v_k1 (na := 5) (pc' := 243) (call_20 hl hK hA1 _ _ _) hF1 dL_act_240 lk_L_164 mwL_call msL_call rfl rfl (by decide) (by omega) (Nat.le_of_ble_eq_true rfl) rfl ?_
      intro I2 s2 hA2 hF2
      exact v_iret dL_act_243 rfl (by omega) (by omega) ⟨by rw [e], rfl, by rw [e]; exact hA2, hF2⟩
    · have e : act_p S (nI m) 12 = (cv_19 S (nI m / 32 - nI m / 32 / 2 * 2) 0 0, cs_19 S (nI m / 32 - nI m / 32 / 2 * 2) 0 0) := by
        unfold act_p
        rw [if_neg (by decide), if_neg (by decide), if_neg (by decide), if_neg (by decide), if_neg (by decide), if_neg (by decide), if_neg (by decide), if_pos rfl, if_pos c_209]
      refine v_aload_n (pc' := 213) dL_act_212 rfl rfl ?_
      refine v_bipush (pc' := 215) dL_act_213 kb_19 rfl ?_
      refine v_iload_n (pc' := 216) dL_act_215 rfl rfl ?_
      refine v_bipush (pc' := 218) dL_act_216 kb_32 rfl ?_
      refine v_idiv (pc' := 219) dL_act_218 (by decide) rfl ?_
      refine v_iconst (pc' := 220) dL_act_219 kc_2 rfl ?_
      refine v_irem (pc' := 221) dL_act_220 (by decide) rfl ?_
      refine v_iconst (pc' := 222) dL_act_221 kc_0 rfl ?_
      refine v_iconst (pc' := 223) dL_act_222 kc_0 rfl ?_
      refine v_k1 (na := 5) (pc' := 226) (call_19 hl hK hA1 _ _ _) hF1 dL_act_223 lk_L_164 mwL_call msL_call rfl rfl (by decide) (by omega) (Nat.le_of_ble_eq_true rfl) rfl ?_
      intro I3 s3 hA3 hF3
      refine v_goto (tgt := 243) dL_act_226 (by decide) ?_
      exact v_iret dL_act_243 rfl (by omega) (by omega) ⟨by rw [e], rfl, by rw [e]; exact hA3, hF3⟩
  · refine v_tableOut (tgt := 244) dL_act_29 (by rw [hx]; omega) (by decide) ?_
    refine v_aload_n (pc' := 245) dL_act_244 rfl rfl ?_
    refine v_bipush (pc' := 247) dL_act_245 kb_12 rfl ?_
    refine v_iconst (pc' := 248) dL_act_247 kc_1 rfl ?_
    refine v_iload_n (pc' := 249) dL_act_248 rfl rfl ?_
    refine v_bipush (pc' := 251) dL_act_249 kb_16 rfl ?_
    refine v_idiv (pc' := 252) dL_act_251 (by decide) rfl ?_
    refine v_bipush (pc' := 254) dL_act_252 kb_20 rfl ?_
    refine v_irem (pc' := 255) dL_act_254 (by decide) rfl ?_
    refine v_iadd (pc' := 256) dL_act_255 rfl ?_
    refine v_iconst (pc' := 257) dL_act_256 kc_0 rfl ?_
    refine v_iconst (pc' := 258) dL_act_257 kc_0 rfl ?_
    refine v_k1 (na := 5) (pc' := 261) (call_12 hl hK hA1 _ _ _) hF1 dL_act_258 lk_L_164 mwL_call msL_call rfl rfl (by decide) (by omega) (Nat.le_of_ble_eq_true rfl) rfl ?_
    intro I2 s2 hA2 hF2
    have e : act_p S (nI m) j = (cv_12 S (1 + (nI m / 16 - nI m / 16 / 20 * 20)) 0 0, cs_12 S (1 + (nI m / 16 - nI m / 16 / 20 * 20)) 0 0) := by
      unfold act_p
      rw [if_neg (by omega), if_neg (by omega), if_neg (by omega), if_neg (by omega), if_neg (by omega), if_neg (by omega), if_neg (by omega), if_neg (by omega)]
    exact v_iret dL_act_261 rfl (by omega) (by omega) ⟨by rw [e], rfl, by rw [e]; exact hA2, hF2⟩

set_option maxRecDepth 20000 in
set_option maxHeartbeats 4000000 in
theorem alike_loop {sz0 : Nat} (hl : l.stackTraces = false) (hK : ShK E G c) (hQ : ShK E G (c + 187)) (x : Int32) : ∀ (f k : Nat) (I : zI) (sz kk nn : Nat), 12 = k + f → AbsK I c S → AbsK I (c + 187) S → kk + 14 * f ≤ 200 → nn + 84 * f ≤ 1200 → z_V E l mL_alike (z_rm 11 200 1200) 200 1200 (z_q (z_w2 c 1 S S G sz0)) kk nn G I sz 47 [some (.ref c), some (.ref (c + 187)), some (.int x), some (.int 1), some (.int (nI k))] [] := by
  intro f
  induction f with
  | zero =>
    intro k I sz kk nn hk hA hB hkk hnn
    refine v_iload (pc' := 49) dL_alike_47 rfl rfl ?_
    refine v_bipush (pc' := 51) dL_alike_49 kb_12 rfl ?_
    refine v_icmp_ge (tgt := 231) (pc' := 54) dL_alike_51 (by decide) rfl (fun c_51 => ?_) (fun c_51 => ?_)
    · refine v_iload_n (pc' := 232) dL_alike_231 rfl rfl ?_
      exact v_zret dL_alike_232 rfl (by omega) (by omega) rfl ⟨rfl, rfl, hA, hB⟩
    · exact absurd (nI_le (a := 12) (b := k) (by omega) (by omega)) c_51
  | succ f ih =>
    intro k I sz kk nn hk hA hB hkk hnn
    refine v_iload (pc' := 49) dL_alike_47 rfl rfl ?_
    refine v_bipush (pc' := 51) dL_alike_49 kb_12 rfl ?_
    refine v_icmp_ge (tgt := 231) (pc' := 54) dL_alike_51 (by decide) rfl (fun c_51 => ?_) (fun c_51 => ?_)
    · exact absurd c_51 (nI_ge (a := k) (b := 12) (by omega) (by omega))
    · refine v_iload_n (pc' := 55) dL_alike_54 rfl rfl ?_
      refine v_if_eq (tgt := 231) (pc' := 58) dL_alike_55 (by decide) rfl (fun c_55 => ?_) (fun c_55 => ?_)
      · exact absurd c_55 (by decide)
      · refine v_aload_n (pc' := 59) dL_alike_58 rfl rfl ?_
        refine v_iconst (pc' := 60) dL_alike_59 kc_2 rfl ?_
        refine v_iload (pc' := 62) dL_alike_60 rfl rfl ?_
        refine v_iconst (pc' := 63) dL_alike_62 kc_0 rfl ?_
        refine v_iconst (pc' := 64) dL_alike_63 kc_0 rfl ?_
        refine v_k2o (na := 5) (pc' := 67) (call_2 hl hK hA _ _ _) hB dL_alike_64 lk_L_164 mwL_call msL_call rfl rfl (by decide) ⟨by omega, by omega⟩ (Nat.le_of_ble_eq_true rfl) rfl ?_
        intro I1 s1 hA1 hB1
        refine v_aload_n (pc' := 68) dL_alike_67 rfl rfl ?_
        refine v_iconst (pc' := 69) dL_alike_68 kc_2 rfl ?_
        refine v_iload (pc' := 71) dL_alike_69 rfl rfl ?_
        refine v_iconst (pc' := 72) dL_alike_71 kc_0 rfl ?_
        refine v_iconst (pc' := 73) dL_alike_72 kc_0 rfl ?_
        refine v_k2q (na := 5) (pc' := 76) (call_2 hl hQ hB1 _ _ _) hA1 dL_alike_73 lk_L_164 mwL_call msL_call rfl rfl (by decide) ⟨by omega, by omega⟩ (Nat.le_of_ble_eq_true rfl) rfl ?_
        intro I2 s2 hA2 hB2
        refine v_icmp_ne (tgt := 223) (pc' := 79) dL_alike_76 (by decide) rfl (fun c_76 => ?_) (fun c_76 => ?_)
        · exact absurd rfl c_76
        · refine v_aload_n (pc' := 80) dL_alike_79 rfl rfl ?_
          refine v_bipush (pc' := 82) dL_alike_80 kb_6 rfl ?_
          refine v_iload (pc' := 84) dL_alike_82 rfl rfl ?_
          refine v_iconst (pc' := 85) dL_alike_84 kc_0 rfl ?_
          refine v_iconst (pc' := 86) dL_alike_85 kc_0 rfl ?_
          refine v_k2o (na := 5) (pc' := 89) (call_6 hl hK hA2 _ _ _) hB2 dL_alike_86 lk_L_164 mwL_call msL_call rfl rfl (by decide) ⟨by omega, by omega⟩ (Nat.le_of_ble_eq_true rfl) rfl ?_
          intro I3 s3 hA3 hB3
          refine v_aload_n (pc' := 90) dL_alike_89 rfl rfl ?_
          refine v_bipush (pc' := 92) dL_alike_90 kb_6 rfl ?_
          refine v_iload (pc' := 94) dL_alike_92 rfl rfl ?_
          refine v_iconst (pc' := 95) dL_alike_94 kc_0 rfl ?_
          refine v_iconst (pc' := 96) dL_alike_95 kc_0 rfl ?_
          refine v_k2q (na := 5) (pc' := 99) (call_6 hl hQ hB3 _ _ _) hA3 dL_alike_96 lk_L_164 mwL_call msL_call rfl rfl (by decide) ⟨by omega, by omega⟩ (Nat.le_of_ble_eq_true rfl) rfl ?_
          intro I4 s4 hA4 hB4
          refine v_icmp_ne (tgt := 223) (pc' := 102) dL_alike_99 (by decide) rfl (fun c_99 => ?_) (fun c_99 => ?_)
          · exact absurd rfl c_99
          · refine v_aload_n (pc' := 103) dL_alike_102 rfl rfl ?_
            refine v_iconst (pc' := 104) dL_alike_103 kc_5 rfl ?_
            refine v_iload (pc' := 106) dL_alike_104 rfl rfl ?_
            refine v_iconst (pc' := 107) dL_alike_106 kc_0 rfl ?_
            refine v_iconst (pc' := 108) dL_alike_107 kc_0 rfl ?_
            refine v_k2o (na := 5) (pc' := 111) (call_5 hl hK hA4 _ _ _) hB4 dL_alike_108 lk_L_164 mwL_call msL_call rfl rfl (by decide) ⟨by omega, by omega⟩ (Nat.le_of_ble_eq_true rfl) rfl ?_
            intro I5 s5 hA5 hB5
            refine v_aload_n (pc' := 112) dL_alike_111 rfl rfl ?_
            refine v_iconst (pc' := 113) dL_alike_112 kc_5 rfl ?_
            refine v_iload (pc' := 115) dL_alike_113 rfl rfl ?_
            refine v_iconst (pc' := 116) dL_alike_115 kc_0 rfl ?_
            refine v_iconst (pc' := 117) dL_alike_116 kc_0 rfl ?_
            refine v_k2q (na := 5) (pc' := 120) (call_5 hl hQ hB5 _ _ _) hA5 dL_alike_117 lk_L_164 mwL_call msL_call rfl rfl (by decide) ⟨by omega, by omega⟩ (Nat.le_of_ble_eq_true rfl) rfl ?_
            intro I6 s6 hA6 hB6
            refine v_icmp_ne (tgt := 223) (pc' := 123) dL_alike_120 (by decide) rfl (fun c_120 => ?_) (fun c_120 => ?_)
            · exact absurd rfl c_120
            · refine v_aload_n (pc' := 124) dL_alike_123 rfl rfl ?_
              refine v_iconst (pc' := 125) dL_alike_124 kc_3 rfl ?_
              refine v_iload (pc' := 127) dL_alike_125 rfl rfl ?_
              refine v_iconst (pc' := 128) dL_alike_127 kc_1 rfl ?_
              refine v_iconst (pc' := 129) dL_alike_128 kc_0 rfl ?_
              refine v_k2o (na := 5) (pc' := 132) (call_3 hl hK hA6 _ _ _) hB6 dL_alike_129 lk_L_164 mwL_call msL_call rfl rfl (by decide) ⟨by omega, by omega⟩ (Nat.le_of_ble_eq_true rfl) rfl ?_
              intro I7 s7 hA7 hB7
              refine v_aload_n (pc' := 133) dL_alike_132 rfl rfl ?_
              refine v_iconst (pc' := 134) dL_alike_133 kc_3 rfl ?_
              refine v_iload (pc' := 136) dL_alike_134 rfl rfl ?_
              refine v_iconst (pc' := 137) dL_alike_136 kc_1 rfl ?_
              refine v_iconst (pc' := 138) dL_alike_137 kc_0 rfl ?_
              refine v_k2q (na := 5) (pc' := 141) (call_3 hl hQ hB7 _ _ _) hA7 dL_alike_138 lk_L_164 mwL_call msL_call rfl rfl (by decide) ⟨by omega, by omega⟩ (Nat.le_of_ble_eq_true rfl) rfl ?_
              intro I8 s8 hA8 hB8
              refine v_icmp_ne (tgt := 223) (pc' := 144) dL_alike_141 (by decide) rfl (fun c_141 => ?_) (fun c_141 => ?_)
              · exact absurd rfl c_141
              · refine v_aload_n (pc' := 145) dL_alike_144 rfl rfl ?_
                refine v_iconst (pc' := 146) dL_alike_145 kc_3 rfl ?_
                refine v_iload (pc' := 148) dL_alike_146 rfl rfl ?_
                refine v_iload_n (pc' := 149) dL_alike_148 rfl rfl ?_
                refine v_bipush (pc' := 151) dL_alike_149 kb_6 rfl ?_
                refine v_irem (pc' := 152) dL_alike_151 (by decide) rfl ?_
                refine v_iconst (pc' := 153) dL_alike_152 kc_0 rfl ?_
                refine v_k2o (na := 5) (pc' := 156) (call_3 hl hK hA8 _ _ _) hB8 dL_alike_153 lk_L_164 mwL_call msL_call rfl rfl (by decide) ⟨by omega, by omega⟩ (Nat.le_of_ble_eq_true rfl) rfl ?_
                intro I9 s9 hA9 hB9
                refine v_aload_n (pc' := 157) dL_alike_156 rfl rfl ?_
                refine v_iconst (pc' := 158) dL_alike_157 kc_3 rfl ?_
                refine v_iload (pc' := 160) dL_alike_158 rfl rfl ?_
                refine v_iload_n (pc' := 161) dL_alike_160 rfl rfl ?_
                refine v_bipush (pc' := 163) dL_alike_161 kb_6 rfl ?_
                refine v_irem (pc' := 164) dL_alike_163 (by decide) rfl ?_
                refine v_iconst (pc' := 165) dL_alike_164 kc_0 rfl ?_
                refine v_k2q (na := 5) (pc' := 168) (call_3 hl hQ hB9 _ _ _) hA9 dL_alike_165 lk_L_164 mwL_call msL_call rfl rfl (by decide) ⟨by omega, by omega⟩ (Nat.le_of_ble_eq_true rfl) rfl ?_
                intro I10 s10 hA10 hB10
                refine v_icmp_ne (tgt := 223) (pc' := 171) dL_alike_168 (by decide) rfl (fun c_168 => ?_) (fun c_168 => ?_)
                · exact absurd rfl c_168
                · refine v_aload_n (pc' := 172) dL_alike_171 rfl rfl ?_
                  refine v_iconst (pc' := 173) dL_alike_172 kc_4 rfl ?_
                  refine v_iload (pc' := 175) dL_alike_173 rfl rfl ?_
                  refine v_iload_n (pc' := 176) dL_alike_175 rfl rfl ?_
                  refine v_iconst (pc' := 177) dL_alike_176 kc_3 rfl ?_
                  refine v_irem (pc' := 178) dL_alike_177 (by decide) rfl ?_
                  refine v_iconst (pc' := 179) dL_alike_178 kc_0 rfl ?_
                  refine v_k2o (na := 5) (pc' := 182) (call_4 hl hK hA10 _ _ _) hB10 dL_alike_179 lk_L_164 mwL_call msL_call rfl rfl (by decide) ⟨by omega, by omega⟩ (Nat.le_of_ble_eq_true rfl) rfl ?_
                  intro I11 s11 hA11 hB11
                  refine v_aload_n (pc' := 183) dL_alike_182 rfl rfl ?_
                  refine v_iconst (pc' := 184) dL_alike_183 kc_4 rfl ?_
                  refine v_iload (pc' := 186) dL_alike_184 rfl rfl ?_
                  refine v_iload_n (pc' := 187) dL_alike_186 rfl rfl ?_
                  refine v_iconst (pc' := 188) dL_alike_187 kc_3 rfl ?_
                  refine v_irem (pc' := 189) dL_alike_188 (by decide) rfl ?_
                  refine v_iconst (pc' := 190) dL_alike_189 kc_0 rfl ?_
                  refine v_k2q (na := 5) (pc' := 193) (call_4 hl hQ hB11 _ _ _) hA11 dL_alike_190 lk_L_164 mwL_call msL_call rfl rfl (by decide) ⟨by omega, by omega⟩ (Nat.le_of_ble_eq_true rfl) rfl ?_
                  intro I12 s12 hA12 hB12
                  refine v_icmp_ne (tgt := 223) (pc' := 196) dL_alike_193 (by decide) rfl (fun c_193 => ?_) (fun c_193 => ?_)
                  · exact absurd rfl c_193
                  · refine v_aload_n (pc' := 197) dL_alike_196 rfl rfl ?_
                    refine v_bipush (pc' := 199) dL_alike_197 kb_18 rfl ?_
                    refine v_iload (pc' := 201) dL_alike_199 rfl rfl ?_
                    refine v_iconst (pc' := 202) dL_alike_201 kc_0 rfl ?_
                    refine v_iconst (pc' := 203) dL_alike_202 kc_0 rfl ?_
                    refine v_k2o (na := 5) (pc' := 206) (call_18 hl hK hA12 _ _ _) hB12 dL_alike_203 lk_L_164 mwL_call msL_call rfl rfl (by decide) ⟨by omega, by omega⟩ (Nat.le_of_ble_eq_true rfl) rfl ?_
                    intro I13 s13 hA13 hB13
                    refine v_aload_n (pc' := 207) dL_alike_206 rfl rfl ?_
                    refine v_bipush (pc' := 209) dL_alike_207 kb_18 rfl ?_
                    refine v_iload (pc' := 211) dL_alike_209 rfl rfl ?_
                    refine v_iconst (pc' := 212) dL_alike_211 kc_0 rfl ?_
                    refine v_iconst (pc' := 213) dL_alike_212 kc_0 rfl ?_
                    refine v_k2q (na := 5) (pc' := 216) (call_18 hl hQ hB13 _ _ _) hA13 dL_alike_213 lk_L_164 mwL_call msL_call rfl rfl (by decide) ⟨by omega, by omega⟩ (Nat.le_of_ble_eq_true rfl) rfl ?_
                    intro I14 s14 hA14 hB14
                    refine v_icmp_ne (tgt := 223) (pc' := 219) dL_alike_216 (by decide) rfl (fun c_216 => ?_) (fun c_216 => ?_)
                    · exact absurd rfl c_216
                    · refine v_iconst (pc' := 220) dL_alike_219 kc_1 rfl ?_
                      refine v_goto (tgt := 224) dL_alike_220 (by decide) ?_
                      refine v_istore_n3 (pc' := 225) dL_alike_224 (by decide) rfl rfl ?_
                      refine v_iinc4 (pc' := 228) dL_alike_225 (by decide) rfl kc_1 (nI_1 k) rfl ?_
                      refine v_goto (tgt := 47) dL_alike_228 (by decide) ?_
                      exact ih (k + 1) I14 s14 (kk + 14) (nn + 84) (by omega) hA14 hB14 (by omega) (by omega)
set_option maxRecDepth 20000 in
set_option maxHeartbeats 4000000 in
theorem c_alike (hl : l.stackTraces = false) (hK : ShK E G c) (hQ : ShK E G (c + 187)) (hA : AbsK I c S) (hB : AbsK I (c + 187) S) (x : Int32) : z_K2 E l mL_alike 11 200 1200 [.ref c, .ref (c + 187), .int x] G I sz c 1 S S := by
  refine z_Ct.of hl pn_L [some (.ref c), some (.ref (c + 187)), some (.int x), none, none] rfl (Nat.le_of_ble_eq_true rfl) ?_
  refine v_aload_n (pc' := 1) dL_alike_0 rfl rfl ?_
  refine v_iload_n (pc' := 2) dL_alike_1 rfl rfl ?_
  refine v_i2l (pc' := 3) dL_alike_2 rfl ?_
  refine v_iconst (pc' := 4) dL_alike_3 kc_1 rfl ?_
  refine v_iload_n (pc' := 5) dL_alike_4 rfl rfl ?_
  refine v_bipush (pc' := 7) dL_alike_5 kb_20 rfl ?_
  refine v_irem (pc' := 8) dL_alike_7 (by decide) rfl ?_
  refine v_iadd (pc' := 9) dL_alike_8 rfl ?_
  refine v_w2o (na := 3) (pc' := 12) (z_wC.to (w_doSimulate hl hK hA _ _) (rfl) (exs_same _ _)) hB dL_alike_9 lk_L_174 mwwL_doSimulate mwcL_doSimulate (by decide +kernel) msL_doSimulate rfl rfl (by decide) ⟨by omega, by omega⟩ (Nat.le_of_ble_eq_true rfl) rfl ?_
  intro I1 s1 hA1 hB1
  refine v_aload_n (pc' := 13) dL_alike_12 rfl rfl ?_
  refine v_iload_n (pc' := 14) dL_alike_13 rfl rfl ?_
  refine v_i2l (pc' := 15) dL_alike_14 rfl ?_
  refine v_iconst (pc' := 16) dL_alike_15 kc_1 rfl ?_
  refine v_iload_n (pc' := 17) dL_alike_16 rfl rfl ?_
  refine v_bipush (pc' := 19) dL_alike_17 kb_20 rfl ?_
  refine v_irem (pc' := 20) dL_alike_19 (by decide) rfl ?_
  refine v_iadd (pc' := 21) dL_alike_20 rfl ?_
  refine v_w2q (na := 3) (pc' := 24) (z_wC.to (w_doSimulate hl hQ hB1 _ _) (rfl) (exs_same _ _)) hA1 dL_alike_21 lk_L_174 mwwL_doSimulate mwcL_doSimulate (by decide +kernel) msL_doSimulate rfl rfl (by decide) ⟨by omega, by omega⟩ (Nat.le_of_ble_eq_true rfl) rfl ?_
  intro I2 s2 hA2 hB2
  refine v_icmp_ne (tgt := 42) (pc' := 27) dL_alike_24 (by decide) rfl (fun c_24 => ?_) (fun c_24 => ?_)
  · exact absurd rfl c_24
  · refine v_aload_n (pc' := 28) dL_alike_27 rfl rfl ?_
    refine v_i2o (pc' := 31) hl rfl hK hA2 hB2 dL_alike_28 rfl (by decide) ⟨by omega, by omega⟩ (Nat.le_of_ble_eq_true rfl) rfl ?_
    intro I3 s3 hA3 hB3
    refine v_aload_n (pc' := 32) dL_alike_31 rfl rfl ?_
    refine v_i2q (pc' := 35) hl rfl hQ hB3 hA3 dL_alike_32 rfl (by decide) ⟨by omega, by omega⟩ (Nat.le_of_ble_eq_true rfl) rfl ?_
    intro I4 s4 hA4 hB4
    refine v_icmp_ne (tgt := 42) (pc' := 38) dL_alike_35 (by decide) rfl (fun c_35 => ?_) (fun c_35 => ?_)
    · exact absurd rfl c_35
    · refine v_iconst (pc' := 39) dL_alike_38 kc_1 rfl ?_
      refine v_goto (tgt := 43) dL_alike_39 (by decide) ?_
      refine v_istore_n3 (pc' := 44) dL_alike_43 (by decide) rfl rfl ?_
      refine v_iconst (pc' := 45) dL_alike_44 kc_0 rfl ?_
      refine v_istore4 (pc' := 47) dL_alike_45 (by decide) rfl rfl ?_
      exact alike_loop hl hK hQ x 12 0 _ _ _ _ (by omega) hA4 hB4 (by omega) (by omega)
end LAW2
