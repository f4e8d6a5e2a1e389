/-! THE LAW itself (written by wip/p29/gen_lawm.py) -/
abbrev mL_law (nm : String) (hh : List (Nat × Nat × Nat × Nat)) : zM := (⟨RL, nm, "([I)Z"⟩, cL_law, 9, some .boolean, hh)
def Q_law : zQ := z_q (fun v' _ _ _ => v' = some (.int 1))
theorem cnt_new : cnt p_new = 0 := by
  unfold cnt p_new p_clr
  simp (disch := omega) only [pk_un]
  rfl
theorem HR_new (K : Nat) : HR K p_new := by
  refine ⟨?_, ⟨fun t ht => ?_, fun t ht => ?_, fun t ht => ?_, fun h5 => ?_⟩, fun t ht => ?_⟩
  · unfold Ha
    rw [cnt_new]
    unfold p_new p_clr
    simp (disch := omega) only [pk_un]
    rfl
  · rw [cnt_new] at ht; omega
  · rw [cnt_new] at ht; omega
  · rw [cnt_new] at ht; omega
  · exact absurd (by unfold p_new p_clr; simp (disch := omega) only [pk_un, pk_us]) h5
  · rw [cnt_new] at ht; omega
theorem x_add {S : zS} {w v c3 : Int32} (hc : cnt S.1 < 6) (hw : z_in w 1 6 = true) (hv : z_in v 0 996 = true) : cv_7 S w v c3 = nI (cnt S.1) ∧ cs_7 S w v c3 = s_now S (p_add S.1 w v) := by
  have e : e_add S.1 w v = 0 := by unfold e_add; rw [hw, hv]; exact if_pos hc
  unfold cv_7 cs_7 t_add
  rw [exv_0 e, exs_0 e, if_pos hc]
  exact ⟨rfl, rfl⟩
theorem z_in_I {x : Int32} {a b : Nat} (ha : a ≤ b) (hb : b < 2 ^ 31) (h : z_in x (nI a) (nI b) = true) : (a : Int) ≤ x.toInt ∧ x.toInt ≤ b := by
  obtain ⟨c, c1, c2, rfl⟩ := z_in_nI ha hb h
  rw [nI_toInt (by omega)]
  omega
theorem HS_start {w v : Int32} (hw : z_in w 1 6 = true) (hv : z_in v 0 996 = true) : HS 0 (s_now (s_now S_new (p_add p_new w v)) (p_add (p_add p_new w v) 2 5)) ∧ cnt (p_add p_new w v) = 1 := by
  have hwI := z_in_I (a := 1) (b := 6) (by omega) (by omega) hw
  have hvI := z_in_I (a := 0) (b := 996) (by omega) (by omega) hv
  have c0 := cnt_new
  have c1 : cnt (p_add p_new w v) = 1 := by rw [cnt_add WF_new, c0]
  have W1 : WF (p_add p_new w v) := WF_add WF_new (by omega) ⟨by omega, by omega⟩ ⟨by omega, by omega⟩
  have c2 : cnt (p_add (p_add p_new w v) 2 5) = 2 := by rw [cnt_add W1, c1]
  have R0 : HR 0 p_new := HR_new 0
  have R1 : HR 0 (p_add p_new w v) := HR_add WF_new R0 (by omega) w v
  have R2 : HR 0 (p_add (p_add p_new w v) 2 5) := HR_add W1 R1 (by omega) 2 5
  have e0 : (s_now (s_now S_new (p_add p_new w v)) (p_add (p_add p_new w v) 2 5)).2.1.2 0 = p_new := rfl
  have e1 : (s_now (s_now S_new (p_add p_new w v)) (p_add (p_add p_new w v) 2 5)).2.1.2 1 = p_add p_new w v := rfl
  refine ⟨⟨?_, R2, ?_, ⟨?_, ?_⟩, ?_, ?_⟩, c1⟩
  · show 2 ≤ cnt (p_add (p_add p_new w v) 2 5)
    omega
  · intro i hi
    change i < 2 at hi
    rcases (by omega : i = 0 ∨ i = 1) with rfl | rfl
    · rw [e0]; exact R0
    · rw [e1]; exact R1
  · intro i hi
    change i + 1 < 2 at hi
    have : i = 0 := by omega
    subst this
    rw [e0, e1, c0, c1]
    omega
  · intro _
    show cnt (p_add (p_add p_new w v) 2 5) ≤ cnt ((s_now (s_now S_new (p_add p_new w v)) (p_add (p_add p_new w v) 2 5)).2.1.2 1) + 1
    rw [e1, c1, c2]
    omega
  · show 2 ≤ 14
    omega
  · intro j hj hf
    cases hf
section LLAW
variable {E : zE} {l : Launch} {G : zG} {c : Nat} {nm : String} {hh : List (Nat × Nat × Nat × Nat)}
set_option maxRecDepth 20000 in
set_option maxHeartbeats 4000000 in
theorem law_loop (hl : l.stackTraces = false) (hK : ShK E G c) (hQ : ShK E G (c + 187)) (hN : E.2.2.2.2.2.1 < 2 ^ 31) (T : Nat) (hT28 : T ≤ 28) (x3 : Int32) : ∀ (f k K : Nat) (S : zS) (I : zI) (sz kk nn : Nat) (o7 o8 : Option Value), T = k + f → HS K S → K + 20 * f ≤ 600 → AbsK I c S → AbsK I (c + 187) S → kk + 3000 * f ≤ 100000 → nn + 18000 * f ≤ 600000 → z_V E l (mL_law nm hh) (z_rm 12 100000 600000) 100000 600000 Q_law kk nn G I sz 111 [some (.ref E.2.2.2.2.1), some (.ref c), some (.ref (c + 187)), some (.int x3), some (.int 1), some (.int (nI T)), some (.int (nI k)), o7, o8] [] := by
  intro f
  induction f with
  | zero =>
    intro k K S I sz kk nn o7 o8 hT hS hK9 hA hB hkk hnn
    refine v_iload (pc' := 113) dL_law_111 rfl rfl ?_
    refine v_iload (pc' := 115) dL_law_113 rfl rfl ?_
    refine v_icmp_ge (tgt := 265) (pc' := 118) dL_law_115 (by decide) rfl (fun c_115 => ?_) (fun c_115 => ?_)
    · refine v_iload (pc' := 267) dL_law_265 rfl rfl ?_
      exact v_zret dL_law_267 rfl (by omega) (by omega) rfl rfl
    · exact absurd (by rw [hT, Nat.add_zero]; exact Int32.le_refl _) c_115
  | succ f ih =>
    intro k K S I sz kk nn o7 o8 hT hS hK9 hA hB hkk hnn
    have hW : WF S.1 := hA.2.2.1
    have h6 := hW.1.1
    have h2c := hS.1
    have h0 : ¬ S.1 0 = 0 := by
      rw [hW.1.2]
      exact fun q => by have := (nI_eq (b := 0) (by omega) (by omega)).mp q; omega
    refine v_iload (pc' := 113) dL_law_111 rfl rfl ?_
    refine v_iload (pc' := 115) dL_law_113 rfl rfl ?_
    refine v_icmp_ge (tgt := 265) (pc' := 118) dL_law_115 (by decide) rfl (fun c_115 => ?_) (fun c_115 => ?_)
    · exact absurd c_115 (nI_ge (by omega) (by omega))
    · refine v_iload (pc' := 120) dL_law_118 rfl rfl ?_
      refine v_if_eq (tgt := 265) (pc' := 123) dL_law_120 (by decide) rfl (fun c_120 => ?_) (fun c_120 => ?_)
      · exact absurd c_120 (by decide)
      · refine v_aload_n (pc' := 124) dL_law_123 rfl rfl ?_
        refine v_iconst (pc' := 125) dL_law_124 kc_2 rfl ?_
        refine v_iload (pc' := 127) dL_law_125 rfl rfl ?_
        refine v_iadd (pc' := 128) dL_law_127 rfl ?_
        rw [show (2 : Int32) + nI k = nI (2 + k) from nI_add 2 k]
        refine v_callS (na := 2) (pc' := 131) (c_cell hl hN (2 + k) (by omega)) dL_law_128 lk_L_182 mwL_cell msL_cell rfl rfl (by decide) ⟨by omega, by omega⟩ (Nat.le_of_ble_eq_true rfl) rfl ?_
        rintro _ _ _ _ ⟨m, hm, rfl, rfl, rfl, rfl⟩
        obtain ⟨va, S1, hact⟩ : ∃ va S1, act_p S (nI m) (m % 16) = (va, S1) := ⟨_, _, rfl⟩
        have hS1 : HS (K + 20) S1 := by
          have := HS_act hS hW m hm (m % 16)
          rw [hact] at this
          exact this
        have hS2 : HS (K + 20) (s_ru S1) := HS_ru hS1
        have h2c1 := hS1.1
        refine v_istore7 (pc' := 133) dL_law_131 (by decide) rfl rfl ?_
        refine v_aload_n (pc' := 134) dL_law_133 rfl rfl ?_
        refine v_iload (pc' := 136) dL_law_134 rfl rfl ?_
        refine v_k2o (na := 2) (pc' := 139) (z_K1.to (c_act hl hK hA h0 m hm) (show (act_p S (nI m) (m % 16)).1 = va by rw [hact]) (show (act_p S (nI m) (m % 16)).2 = S1 by rw [hact])) hB dL_law_136 lk_L_186 mwL_act msL_act rfl rfl (by decide) ⟨by omega, by omega⟩ (Nat.le_of_ble_eq_true rfl) rfl ?_
        intro I1 s1 hA1 hB1
        refine v_istore8 (pc' := 141) dL_law_139 (by decide) rfl rfl ?_
        refine v_aload_n (pc' := 142) dL_law_141 rfl rfl ?_
        refine v_iload (pc' := 144) dL_law_142 rfl rfl ?_
        refine v_ldc (pc' := 146) dL_law_144 ck_L_189 rfl ?_
        refine v_irem (pc' := 147) dL_law_146 (by decide) rfl ?_
        rw [show nI m - nI m / 100000 * 100000 = nI (m % 100000) from rm (d := 100000) hm (by omega) (by omega)]
        refine v_k2q (na := 2) (pc' := 150) (c_refuses hl hQ hB1 (by omega) (m % 100000) (Nat.mod_lt _ (by omega))) hA1 dL_law_147 lk_L_190 mwL_refuses msL_refuses rfl rfl (by decide) ⟨by omega, by omega⟩ (Nat.le_of_ble_eq_true rfl) rfl ?_
        intro I2 s2 hA2 hB2
        refine v_if_eq (tgt := 256) (pc' := 153) dL_law_150 (by decide) rfl (fun c_150 => ?_) (fun c_150 => ?_)
        · exact absurd c_150 (by decide)
        · refine v_aload_n (pc' := 154) dL_law_153 rfl rfl ?_
          refine v_iload (pc' := 156) dL_law_154 rfl rfl ?_
          refine v_k2q (na := 2) (pc' := 159) (z_K1.to (c_act hl hQ hB2 h0 m hm) (show (act_p S (nI m) (m % 16)).1 = va by rw [hact]) (show (act_p S (nI m) (m % 16)).2 = S1 by rw [hact])) hA2 dL_law_156 lk_L_186 mwL_act msL_act rfl rfl (by decide) ⟨by omega, by omega⟩ (Nat.le_of_ble_eq_true rfl) rfl ?_
          intro I3 s3 hA3 hB3
          refine v_iload (pc' := 161) dL_law_159 rfl rfl ?_
          refine v_icmp_ne (tgt := 256) (pc' := 164) dL_law_161 (by decide) rfl (fun c_161 => ?_) (fun c_161 => ?_)
          · exact absurd rfl c_161
          · refine v_aload_n (pc' := 165) dL_law_164 rfl rfl ?_
            refine v_iload (pc' := 167) dL_law_165 rfl rfl ?_
            refine v_sipush (pc' := 170) dL_law_167 ks_1000 rfl ?_
            refine v_irem (pc' := 171) dL_law_170 (by decide) rfl ?_
            rw [show nI m - nI m / 1000 * 1000 = nI (m % 1000) from rm (d := 1000) hm (by omega) (by omega)]
            refine v_k2q (na := 2) (pc' := 174) (c_refuses hl hQ hB3 (by omega) (m % 1000) (Nat.lt_of_lt_of_le (Nat.mod_lt _ (by omega)) (by omega : 1000 ≤ 100000))) hA3 dL_law_171 lk_L_190 mwL_refuses msL_refuses rfl rfl (by decide) ⟨by omega, by omega⟩ (Nat.le_of_ble_eq_true rfl) rfl ?_
            intro I4 s4 hA4 hB4
            refine v_if_eq (tgt := 256) (pc' := 177) dL_law_174 (by decide) rfl (fun c_174 => ?_) (fun c_174 => ?_)
            · exact absurd c_174 (by decide)
            · refine v_aload_n (pc' := 178) dL_law_177 rfl rfl ?_
              refine v_aload_n (pc' := 179) dL_law_178 rfl rfl ?_
              refine v_iload (pc' := 181) dL_law_179 rfl rfl ?_
              refine v_sipush (pc' := 184) dL_law_181 ks_5000 rfl ?_
              refine v_irem (pc' := 185) dL_law_184 (by decide) rfl ?_
              refine v_k2 (na := 3) (pc' := 188) (c_alike hl hK hQ hA4 hB4 _) dL_law_185 lk_L_194 mwL_alike msL_alike rfl rfl (by decide) ⟨by omega, by omega⟩ (Nat.le_of_ble_eq_true rfl) rfl ?_
              intro I5 s5 hA5 hB5
              refine v_if_eq (tgt := 256) (pc' := 191) dL_law_188 (by decide) rfl (fun c_188 => ?_) (fun c_188 => ?_)
              · exact absurd c_188 (by decide)
              · refine v_iload (pc' := 193) dL_law_191 rfl rfl ?_
                refine v_iconst (pc' := 194) dL_law_193 kc_2 rfl ?_
                refine v_irem (pc' := 195) dL_law_194 (by decide) rfl ?_
                refine v_if_ne (tgt := 212) (pc' := 198) dL_law_195 (by decide) rfl (fun c_195 => ?_) (fun c_195 => ?_)
                · refine v_aload_n (pc' := 213) dL_law_212 rfl rfl ?_
                  refine v_iload (pc' := 215) dL_law_213 rfl rfl ?_
                  refine v_iconst (pc' := 216) dL_law_215 kc_5 rfl ?_
                  refine v_idiv (pc' := 217) dL_law_216 (by decide) rfl ?_
                  rw [show nI m / 5 = nI (m / 5) from dv (d := 5) hm (by omega) (by omega)]
                  refine v_k2q (na := 2) (pc' := 220) (c_holds hl hQ hB5 hS1.2.1.1 hS1.2.1.2.1 (m / 5) (by omega)) hA5 dL_law_217 lk_L_198 mwL_holds msL_holds rfl rfl (by decide) ⟨by omega, by omega⟩ (Nat.le_of_ble_eq_true rfl) rfl ?_
                  intro I6 s6 hA6 hB6
                  refine v_if_eq (tgt := 256) (pc' := 223) dL_law_220 (by decide) rfl (fun c_220 => ?_) (fun c_220 => ?_)
                  · exact absurd c_220 (by decide)
                  · refine v_aload_n (pc' := 224) dL_law_223 rfl rfl ?_
                    refine v_aload_n (pc' := 225) dL_law_224 rfl rfl ?_
                    refine v_iload (pc' := 227) dL_law_225 rfl rfl ?_
                    refine v_bipush (pc' := 229) dL_law_227 kb_7 rfl ?_
                    refine v_idiv (pc' := 230) dL_law_229 (by decide) rfl ?_
                    rw [show nI m / 7 = nI (m / 7) from dv (d := 7) hm (by omega) (by omega)]
                    refine v_k2 (na := 3) (pc' := 233) (c_ticks hl hK hQ hA6 hB6 hS1.2.2.2.2.1 (by omega) (m / 7) (by omega)) dL_law_230 lk_L_201 mwL_ticks msL_ticks rfl rfl (by decide) ⟨by omega, by omega⟩ (Nat.le_of_ble_eq_true rfl) rfl ?_
                    intro I7 s7 hA7 hB7
                    refine v_if_eq (tgt := 256) (pc' := 236) dL_law_233 (by decide) rfl (fun c_233 => ?_) (fun c_233 => ?_)
                    · exact absurd c_233 (by decide)
                    · refine v_aload_n (pc' := 237) dL_law_236 rfl rfl ?_
                      refine v_aload_n (pc' := 238) dL_law_237 rfl rfl ?_
                      refine v_iload (pc' := 240) dL_law_238 rfl rfl ?_
                      refine v_bipush (pc' := 242) dL_law_240 kb_11 rfl ?_
                      refine v_idiv (pc' := 243) dL_law_242 (by decide) rfl ?_
                      refine v_bipush (pc' := 245) dL_law_243 kb_12 rfl ?_
                      refine v_irem (pc' := 246) dL_law_245 (by decide) rfl ?_
                      rw [show nI m / 11 = nI (m / 11) from dv (d := 11) hm (by omega) (by omega), show nI (m / 11) - nI (m / 11) / 12 * 12 = nI (m / 11 % 12) from rm (d := 12) (by omega) (by omega) (by omega)]
                      refine v_k2 (na := 3) (pc' := 249) (c_loses hl hK hQ hA7 hB7 hS2.2.2.2.2.1 hS2.2.1 (by omega) (m / 11 % 12) (Nat.mod_lt _ (by omega))) dL_law_246 lk_L_204 mwL_loses msL_loses rfl rfl (by decide) ⟨by omega, by omega⟩ (Nat.le_of_ble_eq_true rfl) rfl ?_
                      intro I8 s8 hA8 hB8
                      refine v_if_eq (tgt := 256) (pc' := 252) dL_law_249 (by decide) rfl (fun c_249 => ?_) (fun c_249 => ?_)
                      · exact absurd c_249 (by decide)
                      · refine v_iconst (pc' := 253) dL_law_252 kc_1 rfl ?_
                        refine v_goto (tgt := 257) dL_law_253 (by decide) ?_
                        refine v_istore4 (pc' := 259) dL_law_257 (by decide) rfl rfl ?_
                        refine v_iinc6 (pc' := 262) dL_law_259 (by decide) rfl kc_1 (nI_1 k) rfl ?_
                        refine v_goto (tgt := 111) dL_law_262 (by decide) ?_
                        exact ih (k + 1) (K + 20) (s_ru (s_ru S1)) _ _ _ _ _ _ (by omega) (HS_ru hS2) (by omega) hA8 hB8 (by omega) (by omega)
                · refine v_aload_n (pc' := 199) dL_law_198 rfl rfl ?_
                  refine v_iload (pc' := 201) dL_law_199 rfl rfl ?_
                  refine v_iconst (pc' := 202) dL_law_201 kc_3 rfl ?_
                  refine v_idiv (pc' := 203) dL_law_202 (by decide) rfl ?_
                  rw [show nI m / 3 = nI (m / 3) from dv (d := 3) hm (by omega) (by omega)]
                  refine v_k2o (na := 2) (pc' := 206) (c_holds hl hK hA5 hS1.2.1.1 hS1.2.1.2.1 (m / 3) (by omega)) hB5 dL_law_203 lk_L_198 mwL_holds msL_holds rfl rfl (by decide) ⟨by omega, by omega⟩ (Nat.le_of_ble_eq_true rfl) rfl ?_
                  intro I9 s9 hA9 hB9
                  refine v_if_eq (tgt := 256) (pc' := 209) dL_law_206 (by decide) rfl (fun c_206 => ?_) (fun c_206 => ?_)
                  · exact absurd c_206 (by decide)
                  · refine v_goto (tgt := 223) dL_law_209 (by decide) ?_
                    refine v_aload_n (pc' := 224) dL_law_223 rfl rfl ?_
                    refine v_aload_n (pc' := 225) dL_law_224 rfl rfl ?_
                    refine v_iload (pc' := 227) dL_law_225 rfl rfl ?_
                    refine v_bipush (pc' := 229) dL_law_227 kb_7 rfl ?_
                    refine v_idiv (pc' := 230) dL_law_229 (by decide) rfl ?_
                    rw [show nI m / 7 = nI (m / 7) from dv (d := 7) hm (by omega) (by omega)]
                    refine v_k2 (na := 3) (pc' := 233) (c_ticks hl hK hQ hA9 hB9 hS1.2.2.2.2.1 (by omega) (m / 7) (by omega)) dL_law_230 lk_L_201 mwL_ticks msL_ticks rfl rfl (by decide) ⟨by omega, by omega⟩ (Nat.le_of_ble_eq_true rfl) rfl ?_
                    intro I10 s10 hA10 hB10
                    refine v_if_eq (tgt := 256) (pc' := 236) dL_law_233 (by decide) rfl (fun c_233 => ?_) (fun c_233 => ?_)
                    · exact absurd c_233 (by decide)
                    · refine v_aload_n (pc' := 237) dL_law_236 rfl rfl ?_
                      refine v_aload_n (pc' := 238) dL_law_237 rfl rfl ?_
                      refine v_iload (pc' := 240) dL_law_238 rfl rfl ?_
                      refine v_bipush (pc' := 242) dL_law_240 kb_11 rfl ?_
                      refine v_idiv (pc' := 243) dL_law_242 (by decide) rfl ?_
                      refine v_bipush (pc' := 245) dL_law_243 kb_12 rfl ?_
                      refine v_irem (pc' := 246) dL_law_245 (by decide) rfl ?_
                      rw [show nI m / 11 = nI (m / 11) from dv (d := 11) hm (by omega) (by omega), show nI (m / 11) - nI (m / 11) / 12 * 12 = nI (m / 11 % 12) from rm (d := 12) (by omega) (by omega) (by omega)]
                      refine v_k2 (na := 3) (pc' := 249) (c_loses hl hK hQ hA10 hB10 hS2.2.2.2.2.1 hS2.2.1 (by omega) (m / 11 % 12) (Nat.mod_lt _ (by omega))) dL_law_246 lk_L_204 mwL_loses msL_loses rfl rfl (by decide) ⟨by omega, by omega⟩ (Nat.le_of_ble_eq_true rfl) rfl ?_
                      intro I11 s11 hA11 hB11
                      refine v_if_eq (tgt := 256) (pc' := 252) dL_law_249 (by decide) rfl (fun c_249 => ?_) (fun c_249 => ?_)
                      · exact absurd c_249 (by decide)
                      · refine v_iconst (pc' := 253) dL_law_252 kc_1 rfl ?_
                        refine v_goto (tgt := 257) dL_law_253 (by decide) ?_
                        refine v_istore4 (pc' := 259) dL_law_257 (by decide) rfl rfl ?_
                        refine v_iinc6 (pc' := 262) dL_law_259 (by decide) rfl kc_1 (nI_1 k) rfl ?_
                        refine v_goto (tgt := 111) dL_law_262 (by decide) ?_
                        exact ih (k + 1) (K + 20) (s_ru (s_ru S1)) _ _ _ _ _ _ (by omega) (HS_ru hS2) (by omega) hA11 hB11 (by omega) (by omega)
theorem dfX4 : ∀ j, j < 6 → defaultValue (tyX4 j) = vp_V [.null, .null, .null, .null, .null, .null] j := fun j hj => by
  rcases (by omega : j = 0 ∨ j = 1 ∨ j = 2 ∨ j = 3 ∨ j = 4 ∨ j = 5) with rfl | rfl | rfl | rfl | rfl | rfl <;> rfl
set_option maxRecDepth 20000 in
set_option maxHeartbeats 4000000 in
theorem law_entry {I : zI} (hl : l.stackTraces = false) (hN : E.2.2.2.2.2.1 < 2 ^ 31) : z_V E l (mL_law nm hh) (z_rm 12 100000 600000) 100000 600000 Q_law 0 0 [] I c 0 [some (.ref E.2.2.2.2.1), none, none, none, none, none, none, none, none] [] := by
  refine v_new (ci := 4) (N := 6) (pc' := 3) dL_law_0 sSk0 cl_L_8 ins_X4 ini_X4 in_X4 tyX4 tyX4_ok rfl rfl dfX4 (by decide) rfl ?_
  refine v_dup (pc' := 4) dL_law_3 rfl rfl ?_
  refine v_callI (pc' := 7) (c4_init hl List.mem_cons_self) dL_law_4 lk_L_181 mwX4_init miX4_init rfl rfl rfl (by decide) (by decide) (Nat.le_of_ble_eq_true rfl) rfl ?_
  rintro _ G1 I1 _ ⟨rfl, rfl, hK1, k1, k2, ⟨k3, k4⟩, k5, -, -⟩
  refine v_astore_n1 (pc' := 8) dL_law_7 (by decide) rfl rfl ?_
  refine v_lt ?_
  intro lt1
  refine v_new (ci := 4) (N := 6) (pc' := 11) dL_law_8 sSk0 cl_L_8 ins_X4 ini_X4 in_X4 tyX4 tyX4_ok rfl rfl dfX4 (by decide) rfl ?_
  refine v_dup (pc' := 12) dL_law_11 rfl rfl ?_
  refine v_callI (pc' := 15) (c4_init hl List.mem_cons_self) dL_law_12 lk_L_181 mwX4_init miX4_init rfl rfl rfl (by decide) (by decide) (Nat.le_of_ble_eq_true rfl) rfl ?_
  rintro _ G2 I2 _ ⟨rfl, rfl, hQ2, j1, j2, ⟨j3, j4⟩, j5, hk2, hF2⟩
  have a2 := keep_all hk2 lt1
  refine v_astore_n2 (pc' := 16) dL_law_15 (by decide) rfl rfl ?_
  have hK : ShK E G2 c := by
    obtain ⟨q0, ⟨q1, q2⟩, q3, q4, q5, q6, q7, q8⟩ := hK1
    have b3 : ∀ x ∈ G1, x.1 ≠ c + 187 + 100 → x ∈ G2 := fun x hx _ => a2 x hx
    exact ⟨a2 _ q0, ⟨a2 _ q1, a2 _ q2⟩, q3.keep b3 (by omega), q4.keep b3 (by omega), q5.keep b3 (by omega), a2 _ q6, a2 _ q7, fun j hj => (q8 j hj).keep b3 (by omega)⟩
  have hA1 : AbsK I1 c S_new := AbsK.start k1 k2 k3 k4 k5
  have hA : AbsK I2 c S_new := hA1.out (fun q q1 q2 => by rw [hF2 q (by omega), z_ne_ne _ _ (by omega)])
  have hB : AbsK I2 (c + 187) S_new := AbsK.start j1 j2 j3 j4 j5
  have hQ : ShK E G2 (c + 187) := hQ2
  refine v_aload_n (pc' := 17) dL_law_16 rfl rfl ?_
  refine v_iconst (pc' := 18) dL_law_17 kc_0 rfl ?_
  refine v_callS (na := 2) (pc' := 21) (c_cell hl hN 0 (by omega)) dL_law_18 lk_L_182 mwL_cell msL_cell rfl rfl (by decide) ⟨by omega, by omega⟩ (Nat.le_of_ble_eq_true rfl) rfl ?_
  rintro _ _ _ _ ⟨m0, hm0, rfl, rfl, rfl, rfl⟩
  refine v_istore_n3 (pc' := 22) dL_law_21 (by decide) rfl rfl ?_
  have hw : z_in (1 + (nI m0 - nI m0 / 4 * 4)) 1 6 = true := by
    have := Nat.mod_lt m0 (show 0 < 4 by omega)
    rw [show nI m0 - nI m0 / 4 * 4 = nI (m0 % 4) from rm (d := 4) hm0 (by omega) (by omega), show (1 : Int32) + nI (m0 % 4) = nI (1 + m0 % 4) from nI_add 1 _]
    exact z_in_of (lo := 1) (hi := 6) (by omega) (by omega) (by omega)
  have hv : z_in (nI m0 - nI m0 / 997 * 997) 0 996 = true := by
    have := Nat.mod_lt m0 (show 0 < 997 by omega)
    rw [show nI m0 - nI m0 / 997 * 997 = nI (m0 % 997) from rm (d := 997) hm0 (by omega) (by omega)]
    exact z_in_of (lo := 0) (hi := 996) (by omega) (by omega) (by omega)
  have hst := HS_start hw hv
  have hc1 := hst.2
  refine v_aload_n (pc' := 23) dL_law_22 rfl rfl ?_
  refine v_bipush (pc' := 25) dL_law_23 kb_7 rfl ?_
  refine v_iconst (pc' := 26) dL_law_25 kc_1 rfl ?_
  refine v_iload_n (pc' := 27) dL_law_26 rfl rfl ?_
  refine v_iconst (pc' := 28) dL_law_27 kc_4 rfl ?_
  refine v_irem (pc' := 29) dL_law_28 (by decide) rfl ?_
  refine v_iadd (pc' := 30) dL_law_29 rfl ?_
  refine v_iload_n (pc' := 31) dL_law_30 rfl rfl ?_
  refine v_sipush (pc' := 34) dL_law_31 ks_997 rfl ?_
  refine v_irem (pc' := 35) dL_law_34 (by decide) rfl ?_
  refine v_iconst (pc' := 36) dL_law_35 kc_0 rfl ?_
  refine v_k2o (na := 5) (pc' := 39) (z_K1.to (call_7 hl hK hA _ _ _) ((x_add (S := S_new) (by show cnt p_new < 6; rw [cnt_new]; omega) hw hv).1.trans (by show nI (cnt p_new) = 0; rw [cnt_new]; rfl)) ((x_add (S := S_new) (by show cnt p_new < 6; rw [cnt_new]; omega) hw hv).2)) hB dL_law_36 lk_L_164 mwL_call msL_call rfl rfl (by decide) ⟨by omega, by omega⟩ (Nat.le_of_ble_eq_true rfl) rfl ?_
  intro I1 s1 hA1 hB1
  refine v_if_ne (tgt := 92) (pc' := 42) dL_law_39 (by decide) rfl (fun c_39 => ?_) (fun c_39 => ?_)
  · exact absurd rfl c_39
  · refine v_aload_n (pc' := 43) dL_law_42 rfl rfl ?_
    refine v_bipush (pc' := 45) dL_law_43 kb_7 rfl ?_
    refine v_iconst (pc' := 46) dL_law_45 kc_1 rfl ?_
    refine v_iload_n (pc' := 47) dL_law_46 rfl rfl ?_
    refine v_iconst (pc' := 48) dL_law_47 kc_4 rfl ?_
    refine v_irem (pc' := 49) dL_law_48 (by decide) rfl ?_
    refine v_iadd (pc' := 50) dL_law_49 rfl ?_
    refine v_iload_n (pc' := 51) dL_law_50 rfl rfl ?_
    refine v_sipush (pc' := 54) dL_law_51 ks_997 rfl ?_
    refine v_irem (pc' := 55) dL_law_54 (by decide) rfl ?_
    refine v_iconst (pc' := 56) dL_law_55 kc_0 rfl ?_
    refine v_k2q (na := 5) (pc' := 59) (z_K1.to (call_7 hl hQ hB1 _ _ _) ((x_add (S := S_new) (by show cnt p_new < 6; rw [cnt_new]; omega) hw hv).1.trans (by show nI (cnt p_new) = 0; rw [cnt_new]; rfl)) ((x_add (S := S_new) (by show cnt p_new < 6; rw [cnt_new]; omega) hw hv).2)) hA1 dL_law_56 lk_L_164 mwL_call msL_call rfl rfl (by decide) ⟨by omega, by omega⟩ (Nat.le_of_ble_eq_true rfl) rfl ?_
    intro I2 s2 hA2 hB2
    refine v_if_ne (tgt := 92) (pc' := 62) dL_law_59 (by decide) rfl (fun c_59 => ?_) (fun c_59 => ?_)
    · exact absurd rfl c_59
    · refine v_aload_n (pc' := 63) dL_law_62 rfl rfl ?_
      refine v_bipush (pc' := 65) dL_law_63 kb_7 rfl ?_
      refine v_iconst (pc' := 66) dL_law_65 kc_2 rfl ?_
      refine v_iconst (pc' := 67) dL_law_66 kc_5 rfl ?_
      refine v_iconst (pc' := 68) dL_law_67 kc_0 rfl ?_
      refine v_k2o (na := 5) (pc' := 71) (z_K1.to (call_7 hl hK hA2 _ _ _) ((x_add (S := (s_now S_new (p_add p_new (1 + (nI m0 - nI m0 / 4 * 4)) (nI m0 - nI m0 / 997 * 997)))) (w := 2) (v := 5) (by show cnt (p_add p_new (1 + (nI m0 - nI m0 / 4 * 4)) (nI m0 - nI m0 / 997 * 997)) < 6; rw [hc1]; omega) (by decide) (by decide)).1.trans (by show nI (cnt (p_add p_new (1 + (nI m0 - nI m0 / 4 * 4)) (nI m0 - nI m0 / 997 * 997))) = 1; rw [hc1]; rfl)) ((x_add (S := (s_now S_new (p_add p_new (1 + (nI m0 - nI m0 / 4 * 4)) (nI m0 - nI m0 / 997 * 997)))) (w := 2) (v := 5) (by show cnt (p_add p_new (1 + (nI m0 - nI m0 / 4 * 4)) (nI m0 - nI m0 / 997 * 997)) < 6; rw [hc1]; omega) (by decide) (by decide)).2)) hB2 dL_law_68 lk_L_164 mwL_call msL_call rfl rfl (by decide) ⟨by omega, by omega⟩ (Nat.le_of_ble_eq_true rfl) rfl ?_
      intro I3 s3 hA3 hB3
      refine v_iconst (pc' := 72) dL_law_71 kc_1 rfl ?_
      refine v_icmp_ne (tgt := 92) (pc' := 75) dL_law_72 (by decide) rfl (fun c_72 => ?_) (fun c_72 => ?_)
      · exact absurd rfl c_72
      · refine v_aload_n (pc' := 76) dL_law_75 rfl rfl ?_
        refine v_bipush (pc' := 78) dL_law_76 kb_7 rfl ?_
        refine v_iconst (pc' := 79) dL_law_78 kc_2 rfl ?_
        refine v_iconst (pc' := 80) dL_law_79 kc_5 rfl ?_
        refine v_iconst (pc' := 81) dL_law_80 kc_0 rfl ?_
        refine v_k2q (na := 5) (pc' := 84) (z_K1.to (call_7 hl hQ hB3 _ _ _) ((x_add (S := (s_now S_new (p_add p_new (1 + (nI m0 - nI m0 / 4 * 4)) (nI m0 - nI m0 / 997 * 997)))) (w := 2) (v := 5) (by show cnt (p_add p_new (1 + (nI m0 - nI m0 / 4 * 4)) (nI m0 - nI m0 / 997 * 997)) < 6; rw [hc1]; omega) (by decide) (by decide)).1.trans (by show nI (cnt (p_add p_new (1 + (nI m0 - nI m0 / 4 * 4)) (nI m0 - nI m0 / 997 * 997))) = 1; rw [hc1]; rfl)) ((x_add (S := (s_now S_new (p_add p_new (1 + (nI m0 - nI m0 / 4 * 4)) (nI m0 - nI m0 / 997 * 997)))) (w := 2) (v := 5) (by show cnt (p_add p_new (1 + (nI m0 - nI m0 / 4 * 4)) (nI m0 - nI m0 / 997 * 997)) < 6; rw [hc1]; omega) (by decide) (by decide)).2)) hA3 dL_law_81 lk_L_164 mwL_call msL_call rfl rfl (by decide) ⟨by omega, by omega⟩ (Nat.le_of_ble_eq_true rfl) rfl ?_
        intro I4 s4 hA4 hB4
        refine v_iconst (pc' := 85) dL_law_84 kc_1 rfl ?_
        refine v_icmp_ne (tgt := 92) (pc' := 88) dL_law_85 (by decide) rfl (fun c_85 => ?_) (fun c_85 => ?_)
        · exact absurd rfl c_85
        · refine v_iconst (pc' := 89) dL_law_88 kc_1 rfl ?_
          refine v_goto (tgt := 93) dL_law_89 (by decide) ?_
          refine v_istore4 (pc' := 95) dL_law_93 (by decide) rfl rfl ?_
          refine v_bipush (pc' := 97) dL_law_95 kb_8 rfl ?_
          refine v_aload_n (pc' := 98) dL_law_97 rfl rfl ?_
          refine v_iconst (pc' := 99) dL_law_98 kc_1 rfl ?_
          refine v_callS (na := 2) (pc' := 102) (c_cell hl hN 1 (by omega)) dL_law_99 lk_L_182 mwL_cell msL_cell rfl rfl (by decide) ⟨by omega, by omega⟩ (Nat.le_of_ble_eq_true rfl) rfl ?_
          rintro _ _ _ _ ⟨m1, hm1, rfl, rfl, rfl, rfl⟩
          refine v_bipush (pc' := 104) dL_law_102 kb_21 rfl ?_
          refine v_irem (pc' := 105) dL_law_104 (by decide) rfl ?_
          refine v_iadd (pc' := 106) dL_law_105 rfl ?_
          rw [show (8 : Int32) + (nI m1 - nI m1 / 21 * 21) = nI (8 + m1 % 21) from by rw [show nI m1 - nI m1 / 21 * 21 = nI (m1 % 21) from rm (d := 21) hm1 (by omega) (by omega)]; exact nI_add 8 _]
          refine v_istore5 (pc' := 108) dL_law_106 (by decide) rfl rfl ?_
          refine v_iconst (pc' := 109) dL_law_108 kc_0 rfl ?_
          refine v_istore6 (pc' := 111) dL_law_109 (by decide) rfl rfl ?_
          exact law_loop hl hK hQ2 hN (8 + m1 % 21) (by have := Nat.mod_lt m1 (show 0 < 21 by omega); omega) _ (8 + m1 % 21) 0 0 _ _ _ _ _ _ _ (by omega) hst.1 (by have := Nat.mod_lt m1 (show 0 < 21 by omega); omega) hA4 hB4 (by have := Nat.mod_lt m1 (show 0 < 21 by omega); omega) (by have := Nat.mod_lt m1 (show 0 < 21 by omega); omega)
end LLAW
