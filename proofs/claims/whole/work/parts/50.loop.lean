/-! THE LAW's loop: one case each (written by wip/whole/gen_loop.py) -/
abbrev mL_law : zM := (yL_law, cL_law, 7, some .boolean, [])
def Q_law : zQ := z_q (fun v' _ _ _ => v' = some (.int 1))
theorem lg_same (x : Int64) : lg_cmp x x = 0 := by
  unfold lg_cmp
  rw [if_neg (fun h => absurd (Int64.lt_iff_toInt_lt.mp h) (Int.lt_irrefl _)), if_pos rfl]
theorem nI_ne0i {k : Nat} (h : k < 3) (h2 : ¬ k = 0) : ¬ nI k = 0 := fun q => h2 ((nI_eq (b := 0) (by omega) (by omega)).mp q)
section LOOP
variable {E : zE} {l : Launch} {G : zG} {I : zI} {sz c d o kk nn : Nat} {S : zS}
set_option maxRecDepth 20000 in
set_option maxHeartbeats 4000000 in
theorem law_0 (hl : l.stackTraces = false) (hK : ShK E G c) (hD : ShM E G d) (hd : d = c + 187) (hoo : o = c + 194) (ho : (o, sJ E 1) ∈ G) (hA : AbsK I c S) (hM : AbsM I d S) (i : Nat) (hi : i + 3 < E.2.2.2.2.2.1) (hN : E.2.2.2.2.2.1 < 2 ^ 31) (hkk : kk + 1 ≤ 602263) (hnn : nn + 6 ≤ 7289316) (o5 o6 : Option Value) (h5 : z_c1 o5 = true) (h6 : z_c1 o6 = true) (cont : ∀ (S1 : zS) (I1 : zI) (s1 : Nat) (p5 p6 : Option Value), z_c1 p5 = true → z_c1 p6 = true → AbsK I1 c S1 → AbsM I1 d S1 → z_V E l mL_law (z_rm 12 602263 7289316) 602263 7289316 Q_law (kk + 1) (nn + 6) G I1 s1 1643 [some (.ref E.2.2.2.2.1), some (.ref c), some (.ref d), some (.ref o), some (.int (nI i)), p5, p6] []) : z_V E l mL_law (z_rm 12 602263 7289316) 602263 7289316 Q_law (kk) (nn) G I sz 156 [some (.ref E.2.2.2.2.1), some (.ref c), some (.ref d), some (.ref o), some (.int (nI i)), o5, o6] [] := by
  refine v_aload_n (pc' := 157) dL_law_156 rfl rfl ?_
  refine v_aload_n (pc' := 158) dL_law_157 rfl rfl ?_
  refine v_iload (pc' := 160) dL_law_158 rfl rfl ?_
  refine v_iconst (pc' := 161) dL_law_160 kc_1 rfl ?_
  refine v_iadd (pc' := 162) dL_law_161 rfl ?_
  refine v_sld (j := i + 1) (pc' := 163) dL_law_162 (nI_add i 1) (by omega) hN rfl ?_
  refine v_aload_n (pc' := 164) dL_law_163 rfl rfl ?_
  refine v_callSW (na := 3) (pc' := 167) (w_append hl hK hA ho (by omega) (E.2.2.2.2.2.2 (i + 1))) dL_law_164 lk_L_94 mwwL_append mwcL_append (by decide +kernel) msL_append rfl rfl (by decide) ⟨by omega, by omega⟩ (Nat.le_of_ble_eq_true rfl) rfl ?_
  rintro _ _ I1 s1 ⟨rfl, rfl, hs1, ho1, hA1, hW1⟩
  have he3 : (e_append S (E.2.2.2.2.2.2 (i + 1))) < 3 := by unfold e_append; split <;> (try split) <;> omega
  have hM1 : AbsM I1 d S := hM.cg (by rw [hW1 d (by omega) (by omega)]) (by rw [hW1 d (by omega) (by omega)]) (fun q q1 q2 q3 => hW1 q (by omega) (by omega))
  generalize hke : (e_append S (E.2.2.2.2.2.2 (i + 1))) = ke at he3 ho1 hA1
  show z_V _ _ _ _ _ _ _ _ _ _ _ _ _ _ [.int (nI ke)]
  refine v_istore5 (pc' := 169) dL_law_167 (by decide) rfl rfl ?_
  refine v_aload_n (pc' := 170) dL_law_169 rfl rfl ?_
  refine v_aload_n (pc' := 171) dL_law_170 rfl rfl ?_
  refine v_iload (pc' := 173) dL_law_171 rfl rfl ?_
  refine v_iconst (pc' := 174) dL_law_173 kc_1 rfl ?_
  refine v_iadd (pc' := 175) dL_law_174 rfl ?_
  refine v_sld (j := i + 1) (pc' := 176) dL_law_175 (nI_add i 1) (by omega) hN rfl ?_
  refine v_cVI (pc' := 179) (hk9 := by omega) (hn9 := by omega) (m_append hl hD hM1 (E.2.2.2.2.2.2 (i + 1))) dL_law_176 lk_L_99 mwX5_append miX5_append hD.1 rfl rfl rfl rfl (by decide) (Nat.le_of_ble_eq_true rfl) rfl ?_
  rintro y9 I2 ⟨r2, v2, hM2, hF2⟩
  rw [hke] at r2 v2 hM2
  have hA2 : AbsK I2 c (if ke = 0 then s_append S (E.2.2.2.2.2.2 (i + 1)) else S) := hA1.out (fun q q1 q2 => hF2 q (by omega))
  refine v_istore6 (pc' := 181) dL_law_179 (by decide) rfl rfl ?_
  refine v_aload_n (pc' := 182) dL_law_181 rfl rfl ?_
  refine v_cVR (pc' := 185) (hk9 := by omega) (hn9 := by omega) (c5_thrown hl hD.1) dL_law_182 lk_L_100 mwX5_thrown miX5_thrown hD.1 rfl rfl rfl rfl (by decide) (Nat.le_of_ble_eq_true rfl) rfl ?_
  rw [r2]
  refine v_iload (pc' := 187) dL_law_185 rfl rfl ?_
  refine v_icmp_eq (tgt := 192) (pc' := 190) dL_law_187 (by decide) rfl (fun c_187 => ?_) (fun c_187 => ?_)
  · refine v_iload (pc' := 194) dL_law_192 rfl rfl ?_
    refine v_if_ne (tgt := 209) (pc' := 197) dL_law_194 (by decide) rfl (fun c_194 => ?_) (fun c_194 => ?_)
    · refine v_goto (tgt := 1643) dL_law_209 (by decide) ?_
      exact cont _ I2 s1 _ _ rfl rfl hA2 hM2
    · have hz : ke = 0 := by
        rcases Nat.eq_zero_or_pos ke with q | q
        · exact q
        · exact absurd c_194 (nI_ne0i he3 (by omega))
      refine v_aload_n (pc' := 198) dL_law_197 rfl rfl ?_
      refine v_iconst (pc' := 199) dL_law_198 kc_0 rfl ?_
      refine v_lald (pc' := 200) dL_law_199 (0) rfl ho (by decide) (by decide) rfl ?_
      refine v_iload (pc' := 202) dL_law_200 rfl rfl ?_
      refine v_i2l (pc' := 203) dL_law_202 rfl ?_
      refine v_lcmp (pc' := 204) dL_law_203 rfl ?_
      rw [hF2 o (by omega), ho1 hz, v2 hz, lg_same]
      refine v_if_eq (tgt := 209) (pc' := 207) dL_law_204 (by decide) rfl (fun c_204 => ?_) (fun c_204 => ?_)
      · refine v_goto (tgt := 1643) dL_law_209 (by decide) ?_
        exact cont _ I2 s1 _ _ rfl rfl hA2 hM2
      · exact absurd rfl c_204
  · exact absurd rfl c_187
end LOOP
