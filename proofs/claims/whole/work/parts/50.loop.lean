/-! THE LAW's loop: one case each (written by wip/whole/gen_loop.py) -/
abbrev mL_law (nm : String) (hh : List (Nat × Nat × Nat × Nat)) : zM := (⟨RL, nm, "([I)Z"⟩, cL_law, 7, some .boolean, hh)
def Q_law : zQ := z_q (fun v' _ _ _ => v' = some (.int 1))
def lg2 (a b : Int32) : Int64 := a.toInt64 <<< ((32 : Int32).toInt64 &&& 63) ||| (b.toInt64 &&& 4294967295)
theorem lg_same (x : Int64) : lg_cmp x x = 0 := by
  unfold lg_cmp
  rw [if_neg (fun h => absurd (Int64.lt_iff_toInt_lt.mp h) (Int.lt_irrefl _)), if_pos rfl]
theorem nI_ne0i {k : Nat} (h : k < 3) (h2 : ¬ k = 0) : ¬ nI k = 0 := fun q => h2 ((nI_eq (b := 0) (by omega) (by omega)).mp q)
section LOOP
variable {E : zE} {l : Launch} {G : zG} {I : zI} {sz c d o kk nn : Nat} {S : zS} {nm : String} {hh : List (Nat × Nat × Nat × Nat)}
set_option maxRecDepth 20000 in
set_option maxHeartbeats 4000000 in
theorem law_0 (hl : l.stackTraces = false) (hK : ShK E G c) (hD : ShM E G d) (hd : d = c + 187) (hoo : o = c + 194) (ho : (o, sJ E 1) ∈ G) (hA : AbsK I c S) (hM : AbsM I d S) (i : Nat) (hi : i + 3 < E.2.2.2.2.2.1) (hN : E.2.2.2.2.2.1 < 2 ^ 31) (hkk : kk + 1 ≤ 20000) (hnn : nn + 6 ≤ 200000) (o5 o6 : Option Value) (h5 : z_c1 o5 = true) (h6 : z_c1 o6 = true) (cont : ∀ (S1 : zS) (I1 : zI) (s1 : Nat) (p5 p6 : Option Value), z_c1 p5 = true → z_c1 p6 = true → AbsK I1 c S1 → AbsM I1 d S1 → z_V E l (mL_law nm hh) (z_rm 10 20000 200000) 20000 200000 Q_law (kk + 1) (nn + 6) G I1 s1 1643 [some (.ref E.2.2.2.2.1), some (.ref c), some (.ref d), some (.ref o), some (.int (nI i)), p5, p6] []) : z_V E l (mL_law nm hh) (z_rm 10 20000 200000) 20000 200000 Q_law (kk) (nn) G I sz 156 [some (.ref E.2.2.2.2.1), some (.ref c), some (.ref d), some (.ref o), some (.int (nI i)), o5, o6] [] := by
  refine v_aload_n (pc' := 157) dL_law_156 rfl rfl ?_
  refine v_aload_n (pc' := 158) dL_law_157 rfl rfl ?_
  refine v_iload (pc' := 160) dL_law_158 rfl rfl ?_
  refine v_iconst (pc' := 161) dL_law_160 kc_1 rfl ?_
  refine v_iadd (pc' := 162) dL_law_161 rfl ?_
  refine v_sld (j := i + 1) (pc' := 163) dL_law_162 (nI_add i 1) (by omega) hN rfl ?_
  refine v_aload_n (pc' := 164) dL_law_163 rfl rfl ?_
  refine v_callSW (na := 3) (pc' := 167) (w_append hl hK hA ho (by omega) (E.2.2.2.2.2.2 (i + 1))) dL_law_164 lk_L_94 mwwL_append mwcL_append (by decide +kernel) msL_append rfl rfl (by decide) ⟨by omega, by omega⟩ (Nat.le_of_ble_eq_true rfl) rfl ?_
  rintro _ _ I1 s1 ⟨rfl, rfl, hs1, ho1, hA1, hW1⟩
  have he3 : (e_append S (E.2.2.2.2.2.2 (i + 1))) < 3 := by unfold e_append; split <;> (try split) <;> omega
  have hM1 : AbsM I1 d S := hM.cg (by rw [hW1 d (by omega) (by omega)]) (by rw [hW1 d (by omega) (by omega)]) (fun q q1 q2 q3 => hW1 q (by omega) (by omega))
  generalize hke : (e_append S (E.2.2.2.2.2.2 (i + 1))) = ke at he3 ho1 hA1
  show z_V _ _ _ _ _ _ _ _ _ _ _ _ _ _ [.int (nI ke)]
  refine v_istore5 (pc' := 169) dL_law_167 (by decide) rfl rfl ?_
  refine v_aload_n (pc' := 170) dL_law_169 rfl rfl ?_
  refine v_aload_n (pc' := 171) dL_law_170 rfl rfl ?_
  refine v_iload (pc' := 173) dL_law_171 rfl rfl ?_
  refine v_iconst (pc' := 174) dL_law_173 kc_1 rfl ?_
  refine v_iadd (pc' := 175) dL_law_174 rfl ?_
  refine v_sld (j := i + 1) (pc' := 176) dL_law_175 (nI_add i 1) (by omega) hN rfl ?_
  refine v_cVI (pc' := 179) (hk9 := by omega) (hn9 := by omega) (m_append hl hD hM1 (E.2.2.2.2.2.2 (i + 1))) dL_law_176 lk_L_99 mwX5_append miX5_append hD.1 rfl rfl rfl rfl (by decide) (Nat.le_of_ble_eq_true rfl) rfl ?_
  rintro y9 I2 ⟨r2, v2, hM2, hF2⟩
  rw [hke] at r2 v2 hM2
  have hA2 : AbsK I2 c (if ke = 0 then s_append S (E.2.2.2.2.2.2 (i + 1)) else S) := hA1.out (fun q q1 q2 => hF2 q (by omega))
  refine v_istore6 (pc' := 181) dL_law_179 (by decide) rfl rfl ?_
  refine v_aload_n (pc' := 182) dL_law_181 rfl rfl ?_
  refine v_cVR (pc' := 185) (hk9 := by omega) (hn9 := by omega) (c5_thrown hl hD.1) dL_law_182 lk_L_100 mwX5_thrown miX5_thrown hD.1 rfl rfl rfl rfl (by decide) (Nat.le_of_ble_eq_true rfl) rfl ?_
  rw [r2]
  refine v_iload (pc' := 187) dL_law_185 rfl rfl ?_
  refine v_icmp_eq (tgt := 192) (pc' := 190) dL_law_187 (by decide) rfl (fun c_187 => ?_) (fun c_187 => ?_)
  · refine v_iload (pc' := 194) dL_law_192 rfl rfl ?_
    refine v_if_ne (tgt := 209) (pc' := 197) dL_law_194 (by decide) rfl (fun c_194 => ?_) (fun c_194 => ?_)
    · refine v_goto (tgt := 1643) dL_law_209 (by decide) ?_
      exact cont _ I2 s1 _ _ rfl rfl hA2 hM2
    · have hz : ke = 0 := by
        rcases Nat.eq_zero_or_pos ke with q | q
        · exact q
        · exact absurd c_194 (nI_ne0i he3 (by omega))
      refine v_aload_n (pc' := 198) dL_law_197 rfl rfl ?_
      refine v_iconst (pc' := 199) dL_law_198 kc_0 rfl ?_
      refine v_lald (pc' := 200) dL_law_199 (0) rfl ho (by decide) (by decide) rfl ?_
      refine v_iload (pc' := 202) dL_law_200 rfl rfl ?_
      refine v_i2l (pc' := 203) dL_law_202 rfl ?_
      refine v_lcmp (pc' := 204) dL_law_203 rfl ?_
      rw [hF2 o (by omega), ho1 hz, v2 hz, lg_same]
      refine v_if_eq (tgt := 209) (pc' := 207) dL_law_204 (by decide) rfl (fun c_204 => ?_) (fun c_204 => ?_)
      · refine v_goto (tgt := 1643) dL_law_209 (by decide) ?_
        exact cont _ I2 s1 _ _ rfl rfl hA2 hM2
      · exact absurd rfl c_204
  · exact absurd rfl c_187
set_option maxRecDepth 20000 in
set_option maxHeartbeats 4000000 in
theorem law_3 (hl : l.stackTraces = false) (hK : ShK E G c) (hD : ShM E G d) (hd : d = c + 187) (hoo : o = c + 194) (ho : (o, sJ E 1) ∈ G) (hA : AbsK I c S) (hM : AbsM I d S) (i : Nat) (hi : i + 3 < E.2.2.2.2.2.1) (hN : E.2.2.2.2.2.1 < 2 ^ 31) (hkk : kk + 1 ≤ 20000) (hnn : nn + 6 ≤ 200000) (o5 o6 : Option Value) (h5 : z_c1 o5 = true) (h6 : z_c1 o6 = true) (cont : ∀ (S1 : zS) (I1 : zI) (s1 : Nat) (p5 p6 : Option Value), z_c1 p5 = true → z_c1 p6 = true → AbsK I1 c S1 → AbsM I1 d S1 → z_V E l (mL_law nm hh) (z_rm 10 20000 200000) 20000 200000 Q_law (kk + 1) (nn + 6) G I1 s1 1643 [some (.ref E.2.2.2.2.1), some (.ref c), some (.ref d), some (.ref o), some (.int (nI i)), p5, p6] []) : z_V E l (mL_law nm hh) (z_rm 10 20000 200000) 20000 200000 Q_law (kk) (nn) G I sz 238 [some (.ref E.2.2.2.2.1), some (.ref c), some (.ref d), some (.ref o), some (.int (nI i)), o5, o6] [] := by
  refine v_aload_n (pc' := 239) dL_law_238 rfl rfl ?_
  refine v_aload_n (pc' := 240) dL_law_239 rfl rfl ?_
  refine v_callSW (na := 2) (pc' := 243) (w_load hl hK hA ho (by omega)) dL_law_240 lk_L_111 mwwL_load mwcL_load (by decide +kernel) msL_load rfl rfl (by decide) ⟨by omega, by omega⟩ (Nat.le_of_ble_eq_true rfl) rfl ?_
  rintro _ _ I1 s1 ⟨rfl, rfl, hs1, ho1, hA1, hW1⟩
  have he3 : (e_load S) < 3 := by unfold e_load; split <;> (try split) <;> omega
  have hM1 : AbsM I1 d S := hM.cg (by rw [hW1 d (by omega) (by omega)]) (by rw [hW1 d (by omega) (by omega)]) (fun q q1 q2 q3 => hW1 q (by omega) (by omega))
  generalize hke : (e_load S) = ke at he3 ho1 hA1
  show z_V _ _ _ _ _ _ _ _ _ _ _ _ _ _ [.int (nI ke)]
  refine v_istore5 (pc' := 245) dL_law_243 (by decide) rfl rfl ?_
  refine v_aload_n (pc' := 246) dL_law_245 rfl rfl ?_
  refine v_cVI (pc' := 249) (hk9 := by omega) (hn9 := by omega) (m_load hl hD hM1) dL_law_246 lk_L_114 mwX5_load miX5_load hD.1 rfl rfl rfl rfl (by decide) (Nat.le_of_ble_eq_true rfl) rfl ?_
  rintro y9 I2 ⟨r2, v2, hM2, hF2⟩
  rw [hke] at r2 v2 hM2
  have hA2 : AbsK I2 c (if ke = 0 then s_load S else S) := hA1.out (fun q q1 q2 => hF2 q (by omega))
  refine v_istore6 (pc' := 251) dL_law_249 (by decide) rfl rfl ?_
  refine v_aload_n (pc' := 252) dL_law_251 rfl rfl ?_
  refine v_cVR (pc' := 255) (hk9 := by omega) (hn9 := by omega) (c5_thrown hl hD.1) dL_law_252 lk_L_100 mwX5_thrown miX5_thrown hD.1 rfl rfl rfl rfl (by decide) (Nat.le_of_ble_eq_true rfl) rfl ?_
  rw [r2]
  refine v_iload (pc' := 257) dL_law_255 rfl rfl ?_
  refine v_icmp_eq (tgt := 262) (pc' := 260) dL_law_257 (by decide) rfl (fun c_257 => ?_) (fun c_257 => ?_)
  · refine v_iload (pc' := 264) dL_law_262 rfl rfl ?_
    refine v_if_ne (tgt := 279) (pc' := 267) dL_law_264 (by decide) rfl (fun c_264 => ?_) (fun c_264 => ?_)
    · refine v_goto (tgt := 1643) dL_law_279 (by decide) ?_
      exact cont _ I2 s1 _ _ rfl rfl hA2 hM2
    · have hz : ke = 0 := by
        rcases Nat.eq_zero_or_pos ke with q | q
        · exact q
        · exact absurd c_264 (nI_ne0i he3 (by omega))
      refine v_aload_n (pc' := 268) dL_law_267 rfl rfl ?_
      refine v_iconst (pc' := 269) dL_law_268 kc_0 rfl ?_
      refine v_lald (pc' := 270) dL_law_269 (0) rfl ho (by decide) (by decide) rfl ?_
      refine v_iload (pc' := 272) dL_law_270 rfl rfl ?_
      refine v_i2l (pc' := 273) dL_law_272 rfl ?_
      refine v_lcmp (pc' := 274) dL_law_273 rfl ?_
      rw [hF2 o (by omega), ho1 hz, v2 hz, lg_same]
      refine v_if_eq (tgt := 279) (pc' := 277) dL_law_274 (by decide) rfl (fun c_274 => ?_) (fun c_274 => ?_)
      · refine v_goto (tgt := 1643) dL_law_279 (by decide) ?_
        exact cont _ I2 s1 _ _ rfl rfl hA2 hM2
      · exact absurd rfl c_274
  · exact absurd rfl c_257
set_option maxRecDepth 20000 in
set_option maxHeartbeats 4000000 in
theorem law_4 (hl : l.stackTraces = false) (hK : ShK E G c) (hD : ShM E G d) (hd : d = c + 187) (hoo : o = c + 194) (ho : (o, sJ E 1) ∈ G) (hA : AbsK I c S) (hM : AbsM I d S) (i : Nat) (hi : i + 3 < E.2.2.2.2.2.1) (hN : E.2.2.2.2.2.1 < 2 ^ 31) (hkk : kk + 1 ≤ 20000) (hnn : nn + 6 ≤ 200000) (o5 o6 : Option Value) (h5 : z_c1 o5 = true) (h6 : z_c1 o6 = true) (cont : ∀ (S1 : zS) (I1 : zI) (s1 : Nat) (p5 p6 : Option Value), z_c1 p5 = true → z_c1 p6 = true → AbsK I1 c S1 → AbsM I1 d S1 → z_V E l (mL_law nm hh) (z_rm 10 20000 200000) 20000 200000 Q_law (kk + 1) (nn + 6) G I1 s1 1643 [some (.ref E.2.2.2.2.1), some (.ref c), some (.ref d), some (.ref o), some (.int (nI i)), p5, p6] []) : z_V E l (mL_law nm hh) (z_rm 10 20000 200000) 20000 200000 Q_law (kk) (nn) G I sz 282 [some (.ref E.2.2.2.2.1), some (.ref c), some (.ref d), some (.ref o), some (.int (nI i)), o5, o6] [] := by
  refine v_aload_n (pc' := 283) dL_law_282 rfl rfl ?_
  refine v_aload_n (pc' := 284) dL_law_283 rfl rfl ?_
  refine v_iload (pc' := 286) dL_law_284 rfl rfl ?_
  refine v_iconst (pc' := 287) dL_law_286 kc_1 rfl ?_
  refine v_iadd (pc' := 288) dL_law_287 rfl ?_
  refine v_sld (j := i + 1) (pc' := 289) dL_law_288 (nI_add i 1) (by omega) hN rfl ?_
  refine v_aload_n (pc' := 290) dL_law_289 rfl rfl ?_
  refine v_callSW (na := 3) (pc' := 293) (w_about hl hK hA ho (by omega) (E.2.2.2.2.2.2 (i + 1))) dL_law_290 lk_L_115 mwwL_about mwcL_about (by decide +kernel) msL_about rfl rfl (by decide) ⟨by omega, by omega⟩ (Nat.le_of_ble_eq_true rfl) rfl ?_
  rintro _ _ I1 s1 ⟨rfl, rfl, hs1, ho1, hA1, hW1⟩
  have he3 : (e_about (E.2.2.2.2.2.2 (i + 1))) < 3 := by unfold e_about; split <;> (try split) <;> omega
  have hM1 : AbsM I1 d S := hM.cg (by rw [hW1 d (by omega) (by omega)]) (by rw [hW1 d (by omega) (by omega)]) (fun q q1 q2 q3 => hW1 q (by omega) (by omega))
  generalize hke : (e_about (E.2.2.2.2.2.2 (i + 1))) = ke at he3 ho1 hA1
  show z_V _ _ _ _ _ _ _ _ _ _ _ _ _ _ [.int (nI ke)]
  refine v_istore5 (pc' := 295) dL_law_293 (by decide) rfl rfl ?_
  refine v_aload_n (pc' := 296) dL_law_295 rfl rfl ?_
  refine v_aload_n (pc' := 297) dL_law_296 rfl rfl ?_
  refine v_iload (pc' := 299) dL_law_297 rfl rfl ?_
  refine v_iconst (pc' := 300) dL_law_299 kc_1 rfl ?_
  refine v_iadd (pc' := 301) dL_law_300 rfl ?_
  refine v_sld (j := i + 1) (pc' := 302) dL_law_301 (nI_add i 1) (by omega) hN rfl ?_
  refine v_cVI (pc' := 305) (hk9 := by omega) (hn9 := by omega) (m_about hl hD hM1 (E.2.2.2.2.2.2 (i + 1))) dL_law_302 lk_L_117 mwX5_about miX5_about hD.1 rfl rfl rfl rfl (by decide) (Nat.le_of_ble_eq_true rfl) rfl ?_
  rintro y9 I2 ⟨r2, v2, hM2, hF2⟩
  rw [hke] at r2 v2 hM2
  have hA2 : AbsK I2 c (if ke = 0 then S else S) := hA1.out (fun q q1 q2 => hF2 q (by omega))
  refine v_istore6 (pc' := 307) dL_law_305 (by decide) rfl rfl ?_
  refine v_aload_n (pc' := 308) dL_law_307 rfl rfl ?_
  refine v_cVR (pc' := 311) (hk9 := by omega) (hn9 := by omega) (c5_thrown hl hD.1) dL_law_308 lk_L_100 mwX5_thrown miX5_thrown hD.1 rfl rfl rfl rfl (by decide) (Nat.le_of_ble_eq_true rfl) rfl ?_
  rw [r2]
  refine v_iload (pc' := 313) dL_law_311 rfl rfl ?_
  refine v_icmp_eq (tgt := 318) (pc' := 316) dL_law_313 (by decide) rfl (fun c_313 => ?_) (fun c_313 => ?_)
  · refine v_iload (pc' := 320) dL_law_318 rfl rfl ?_
    refine v_if_ne (tgt := 335) (pc' := 323) dL_law_320 (by decide) rfl (fun c_320 => ?_) (fun c_320 => ?_)
    · refine v_goto (tgt := 1643) dL_law_335 (by decide) ?_
      exact cont _ I2 s1 _ _ rfl rfl hA2 hM2
    · have hz : ke = 0 := by
        rcases Nat.eq_zero_or_pos ke with q | q
        · exact q
        · exact absurd c_320 (nI_ne0i he3 (by omega))
      refine v_aload_n (pc' := 324) dL_law_323 rfl rfl ?_
      refine v_iconst (pc' := 325) dL_law_324 kc_0 rfl ?_
      refine v_lald (pc' := 326) dL_law_325 (0) rfl ho (by decide) (by decide) rfl ?_
      refine v_iload (pc' := 328) dL_law_326 rfl rfl ?_
      refine v_i2l (pc' := 329) dL_law_328 rfl ?_
      refine v_lcmp (pc' := 330) dL_law_329 rfl ?_
      rw [hF2 o (by omega), ho1 hz, v2 hz, lg_same]
      refine v_if_eq (tgt := 335) (pc' := 333) dL_law_330 (by decide) rfl (fun c_330 => ?_) (fun c_330 => ?_)
      · refine v_goto (tgt := 1643) dL_law_335 (by decide) ?_
        exact cont _ I2 s1 _ _ rfl rfl hA2 hM2
      · exact absurd rfl c_330
  · exact absurd rfl c_313
set_option maxRecDepth 20000 in
set_option maxHeartbeats 4000000 in
theorem law_5 (hl : l.stackTraces = false) (hK : ShK E G c) (hD : ShM E G d) (hd : d = c + 187) (hoo : o = c + 194) (ho : (o, sJ E 1) ∈ G) (hA : AbsK I c S) (hM : AbsM I d S) (i : Nat) (hi : i + 3 < E.2.2.2.2.2.1) (hN : E.2.2.2.2.2.1 < 2 ^ 31) (hkk : kk + 1 ≤ 20000) (hnn : nn + 6 ≤ 200000) (o5 o6 : Option Value) (h5 : z_c1 o5 = true) (h6 : z_c1 o6 = true) (cont : ∀ (S1 : zS) (I1 : zI) (s1 : Nat) (p5 p6 : Option Value), z_c1 p5 = true → z_c1 p6 = true → AbsK I1 c S1 → AbsM I1 d S1 → z_V E l (mL_law nm hh) (z_rm 10 20000 200000) 20000 200000 Q_law (kk + 1) (nn + 6) G I1 s1 1643 [some (.ref E.2.2.2.2.1), some (.ref c), some (.ref d), some (.ref o), some (.int (nI i)), p5, p6] []) : z_V E l (mL_law nm hh) (z_rm 10 20000 200000) 20000 200000 Q_law (kk) (nn) G I sz 338 [some (.ref E.2.2.2.2.1), some (.ref c), some (.ref d), some (.ref o), some (.int (nI i)), o5, o6] [] := by
  refine v_aload_n (pc' := 339) dL_law_338 rfl rfl ?_
  refine v_aload_n (pc' := 340) dL_law_339 rfl rfl ?_
  refine v_iload (pc' := 342) dL_law_340 rfl rfl ?_
  refine v_iconst (pc' := 343) dL_law_342 kc_1 rfl ?_
  refine v_iadd (pc' := 344) dL_law_343 rfl ?_
  refine v_sld (j := i + 1) (pc' := 345) dL_law_344 (nI_add i 1) (by omega) hN rfl ?_
  refine v_aload_n (pc' := 346) dL_law_345 rfl rfl ?_
  refine v_iload (pc' := 348) dL_law_346 rfl rfl ?_
  refine v_iconst (pc' := 349) dL_law_348 kc_2 rfl ?_
  refine v_iadd (pc' := 350) dL_law_349 rfl ?_
  refine v_sld (j := i + 2) (pc' := 351) dL_law_350 (nI_add i 2) (by omega) hN rfl ?_
  refine v_aload_n (pc' := 352) dL_law_351 rfl rfl ?_
  refine v_callSW (na := 4) (pc' := 355) (w_task hl hK hA ho (by omega) (E.2.2.2.2.2.2 (i + 1)) (E.2.2.2.2.2.2 (i + 2))) dL_law_352 lk_L_118 mwwL_task mwcL_task (by decide +kernel) msL_task rfl rfl (by decide) ⟨by omega, by omega⟩ (Nat.le_of_ble_eq_true rfl) rfl ?_
  rintro _ _ I1 s1 ⟨rfl, rfl, hs1, ho1, hA1, hW1⟩
  have he3 : (e_task S.1 (E.2.2.2.2.2.2 (i + 1)) (E.2.2.2.2.2.2 (i + 2))) < 3 := by unfold e_task; split <;> (try split) <;> omega
  have hM1 : AbsM I1 d S := hM.cg (by rw [hW1 d (by omega) (by omega)]) (by rw [hW1 d (by omega) (by omega)]) (fun q q1 q2 q3 => hW1 q (by omega) (by omega))
  generalize hke : (e_task S.1 (E.2.2.2.2.2.2 (i + 1)) (E.2.2.2.2.2.2 (i + 2))) = ke at he3 ho1 hA1
  show z_V _ _ _ _ _ _ _ _ _ _ _ _ _ _ [.int (nI ke)]
  refine v_istore5 (pc' := 357) dL_law_355 (by decide) rfl rfl ?_
  refine v_aload_n (pc' := 358) dL_law_357 rfl rfl ?_
  refine v_aload_n (pc' := 359) dL_law_358 rfl rfl ?_
  refine v_iload (pc' := 361) dL_law_359 rfl rfl ?_
  refine v_iconst (pc' := 362) dL_law_361 kc_1 rfl ?_
  refine v_iadd (pc' := 363) dL_law_362 rfl ?_
  refine v_sld (j := i + 1) (pc' := 364) dL_law_363 (nI_add i 1) (by omega) hN rfl ?_
  refine v_aload_n (pc' := 365) dL_law_364 rfl rfl ?_
  refine v_iload (pc' := 367) dL_law_365 rfl rfl ?_
  refine v_iconst (pc' := 368) dL_law_367 kc_2 rfl ?_
  refine v_iadd (pc' := 369) dL_law_368 rfl ?_
  refine v_sld (j := i + 2) (pc' := 370) dL_law_369 (nI_add i 2) (by omega) hN rfl ?_
  refine v_cVI (pc' := 373) (hk9 := by omega) (hn9 := by omega) (m_task hl hD hM1 (E.2.2.2.2.2.2 (i + 1)) (E.2.2.2.2.2.2 (i + 2))) dL_law_370 lk_L_121 mwX5_task miX5_task hD.1 rfl rfl rfl rfl (by decide) (Nat.le_of_ble_eq_true rfl) rfl ?_
  rintro y9 I2 ⟨r2, v2, hM2, hF2⟩
  rw [hke] at r2 v2 hM2
  have hA2 : AbsK I2 c (if ke = 0 then S else S) := hA1.out (fun q q1 q2 => hF2 q (by omega))
  refine v_istore6 (pc' := 375) dL_law_373 (by decide) rfl rfl ?_
  refine v_aload_n (pc' := 376) dL_law_375 rfl rfl ?_
  refine v_cVR (pc' := 379) (hk9 := by omega) (hn9 := by omega) (c5_thrown hl hD.1) dL_law_376 lk_L_100 mwX5_thrown miX5_thrown hD.1 rfl rfl rfl rfl (by decide) (Nat.le_of_ble_eq_true rfl) rfl ?_
  rw [r2]
  refine v_iload (pc' := 381) dL_law_379 rfl rfl ?_
  refine v_icmp_eq (tgt := 386) (pc' := 384) dL_law_381 (by decide) rfl (fun c_381 => ?_) (fun c_381 => ?_)
  · refine v_iload (pc' := 388) dL_law_386 rfl rfl ?_
    refine v_if_ne (tgt := 403) (pc' := 391) dL_law_388 (by decide) rfl (fun c_388 => ?_) (fun c_388 => ?_)
    · refine v_goto (tgt := 1643) dL_law_403 (by decide) ?_
      exact cont _ I2 s1 _ _ rfl rfl hA2 hM2
    · have hz : ke = 0 := by
        rcases Nat.eq_zero_or_pos ke with q | q
        · exact q
        · exact absurd c_388 (nI_ne0i he3 (by omega))
      refine v_aload_n (pc' := 392) dL_law_391 rfl rfl ?_
      refine v_iconst (pc' := 393) dL_law_392 kc_0 rfl ?_
      refine v_lald (pc' := 394) dL_law_393 (0) rfl ho (by decide) (by decide) rfl ?_
      refine v_iload (pc' := 396) dL_law_394 rfl rfl ?_
      refine v_i2l (pc' := 397) dL_law_396 rfl ?_
      refine v_lcmp (pc' := 398) dL_law_397 rfl ?_
      rw [hF2 o (by omega), ho1 hz, v2 hz, lg_same]
      refine v_if_eq (tgt := 403) (pc' := 401) dL_law_398 (by decide) rfl (fun c_398 => ?_) (fun c_398 => ?_)
      · refine v_goto (tgt := 1643) dL_law_403 (by decide) ?_
        exact cont _ I2 s1 _ _ rfl rfl hA2 hM2
      · exact absurd rfl c_398
  · exact absurd rfl c_381
set_option maxRecDepth 20000 in
set_option maxHeartbeats 4000000 in
theorem law_6 (hl : l.stackTraces = false) (hK : ShK E G c) (hD : ShM E G d) (hd : d = c + 187) (hoo : o = c + 194) (ho : (o, sJ E 1) ∈ G) (hA : AbsK I c S) (hM : AbsM I d S) (i : Nat) (hi : i + 3 < E.2.2.2.2.2.1) (hN : E.2.2.2.2.2.1 < 2 ^ 31) (hkk : kk + 1 ≤ 20000) (hnn : nn + 6 ≤ 200000) (o5 o6 : Option Value) (h5 : z_c1 o5 = true) (h6 : z_c1 o6 = true) (cont : ∀ (S1 : zS) (I1 : zI) (s1 : Nat) (p5 p6 : Option Value), z_c1 p5 = true → z_c1 p6 = true → AbsK I1 c S1 → AbsM I1 d S1 → z_V E l (mL_law nm hh) (z_rm 10 20000 200000) 20000 200000 Q_law (kk + 1) (nn + 6) G I1 s1 1643 [some (.ref E.2.2.2.2.1), some (.ref c), some (.ref d), some (.ref o), some (.int (nI i)), p5, p6] []) : z_V E l (mL_law nm hh) (z_rm 10 20000 200000) 20000 200000 Q_law (kk) (nn) G I sz 406 [some (.ref E.2.2.2.2.1), some (.ref c), some (.ref d), some (.ref o), some (.int (nI i)), o5, o6] [] := by
  refine v_aload_n (pc' := 407) dL_law_406 rfl rfl ?_
  refine v_aload_n (pc' := 408) dL_law_407 rfl rfl ?_
  refine v_iload (pc' := 410) dL_law_408 rfl rfl ?_
  refine v_iconst (pc' := 411) dL_law_410 kc_1 rfl ?_
  refine v_iadd (pc' := 412) dL_law_411 rfl ?_
  refine v_sld (j := i + 1) (pc' := 413) dL_law_412 (nI_add i 1) (by omega) hN rfl ?_
  refine v_aload_n (pc' := 414) dL_law_413 rfl rfl ?_
  refine v_iload (pc' := 416) dL_law_414 rfl rfl ?_
  refine v_iconst (pc' := 417) dL_law_416 kc_2 rfl ?_
  refine v_iadd (pc' := 418) dL_law_417 rfl ?_
  refine v_sld (j := i + 2) (pc' := 419) dL_law_418 (nI_add i 2) (by omega) hN rfl ?_
  refine v_aload_n (pc' := 420) dL_law_419 rfl rfl ?_
  refine v_callSW (na := 4) (pc' := 423) (w_stripe hl hK hA ho (by omega) (E.2.2.2.2.2.2 (i + 1)) (E.2.2.2.2.2.2 (i + 2))) dL_law_420 lk_L_122 mwwL_stripe mwcL_stripe (by decide +kernel) msL_stripe rfl rfl (by decide) ⟨by omega, by omega⟩ (Nat.le_of_ble_eq_true rfl) rfl ?_
  rintro _ _ I1 s1 ⟨rfl, rfl, hs1, ho1, hA1, hW1⟩
  have he3 : (e_stripe (E.2.2.2.2.2.2 (i + 1)) (E.2.2.2.2.2.2 (i + 2))) < 3 := by unfold e_stripe; split <;> (try split) <;> omega
  have hM1 : AbsM I1 d S := hM.cg (by rw [hW1 d (by omega) (by omega)]) (by rw [hW1 d (by omega) (by omega)]) (fun q q1 q2 q3 => hW1 q (by omega) (by omega))
  generalize hke : (e_stripe (E.2.2.2.2.2.2 (i + 1)) (E.2.2.2.2.2.2 (i + 2))) = ke at he3 ho1 hA1
  show z_V _ _ _ _ _ _ _ _ _ _ _ _ _ _ [.int (nI ke)]
  refine v_istore5 (pc' := 425) dL_law_423 (by decide) rfl rfl ?_
  refine v_aload_n (pc' := 426) dL_law_425 rfl rfl ?_
  refine v_aload_n (pc' := 427) dL_law_426 rfl rfl ?_
  refine v_iload (pc' := 429) dL_law_427 rfl rfl ?_
  refine v_iconst (pc' := 430) dL_law_429 kc_1 rfl ?_
  refine v_iadd (pc' := 431) dL_law_430 rfl ?_
  refine v_sld (j := i + 1) (pc' := 432) dL_law_431 (nI_add i 1) (by omega) hN rfl ?_
  refine v_aload_n (pc' := 433) dL_law_432 rfl rfl ?_
  refine v_iload (pc' := 435) dL_law_433 rfl rfl ?_
  refine v_iconst (pc' := 436) dL_law_435 kc_2 rfl ?_
  refine v_iadd (pc' := 437) dL_law_436 rfl ?_
  refine v_sld (j := i + 2) (pc' := 438) dL_law_437 (nI_add i 2) (by omega) hN rfl ?_
  refine v_cVI (pc' := 441) (hk9 := by omega) (hn9 := by omega) (m_stripe hl hD hM1 (E.2.2.2.2.2.2 (i + 1)) (E.2.2.2.2.2.2 (i + 2))) dL_law_438 lk_L_124 mwX5_stripe miX5_stripe hD.1 rfl rfl rfl rfl (by decide) (Nat.le_of_ble_eq_true rfl) rfl ?_
  rintro y9 I2 ⟨r2, v2, hM2, hF2⟩
  rw [hke] at r2 v2 hM2
  have hA2 : AbsK I2 c (if ke = 0 then S else S) := hA1.out (fun q q1 q2 => hF2 q (by omega))
  refine v_istore6 (pc' := 443) dL_law_441 (by decide) rfl rfl ?_
  refine v_aload_n (pc' := 444) dL_law_443 rfl rfl ?_
  refine v_cVR (pc' := 447) (hk9 := by omega) (hn9 := by omega) (c5_thrown hl hD.1) dL_law_444 lk_L_100 mwX5_thrown miX5_thrown hD.1 rfl rfl rfl rfl (by decide) (Nat.le_of_ble_eq_true rfl) rfl ?_
  rw [r2]
  refine v_iload (pc' := 449) dL_law_447 rfl rfl ?_
  refine v_icmp_eq (tgt := 454) (pc' := 452) dL_law_449 (by decide) rfl (fun c_449 => ?_) (fun c_449 => ?_)
  · refine v_iload (pc' := 456) dL_law_454 rfl rfl ?_
    refine v_if_ne (tgt := 471) (pc' := 459) dL_law_456 (by decide) rfl (fun c_456 => ?_) (fun c_456 => ?_)
    · refine v_goto (tgt := 1643) dL_law_471 (by decide) ?_
      exact cont _ I2 s1 _ _ rfl rfl hA2 hM2
    · have hz : ke = 0 := by
        rcases Nat.eq_zero_or_pos ke with q | q
        · exact q
        · exact absurd c_456 (nI_ne0i he3 (by omega))
      refine v_aload_n (pc' := 460) dL_law_459 rfl rfl ?_
      refine v_iconst (pc' := 461) dL_law_460 kc_0 rfl ?_
      refine v_lald (pc' := 462) dL_law_461 (0) rfl ho (by decide) (by decide) rfl ?_
      refine v_iload (pc' := 464) dL_law_462 rfl rfl ?_
      refine v_i2l (pc' := 465) dL_law_464 rfl ?_
      refine v_lcmp (pc' := 466) dL_law_465 rfl ?_
      rw [hF2 o (by omega), ho1 hz, v2 hz, lg_same]
      refine v_if_eq (tgt := 471) (pc' := 469) dL_law_466 (by decide) rfl (fun c_466 => ?_) (fun c_466 => ?_)
      · refine v_goto (tgt := 1643) dL_law_471 (by decide) ?_
        exact cont _ I2 s1 _ _ rfl rfl hA2 hM2
      · exact absurd rfl c_466
  · exact absurd rfl c_449
set_option maxRecDepth 20000 in
set_option maxHeartbeats 4000000 in
theorem law_7 (hl : l.stackTraces = false) (hK : ShK E G c) (hD : ShM E G d) (hd : d = c + 187) (hoo : o = c + 194) (ho : (o, sJ E 1) ∈ G) (hA : AbsK I c S) (hM : AbsM I d S) (i : Nat) (hi : i + 3 < E.2.2.2.2.2.1) (hN : E.2.2.2.2.2.1 < 2 ^ 31) (hkk : kk + 1 ≤ 20000) (hnn : nn + 6 ≤ 200000) (o5 o6 : Option Value) (h5 : z_c1 o5 = true) (h6 : z_c1 o6 = true) (cont : ∀ (S1 : zS) (I1 : zI) (s1 : Nat) (p5 p6 : Option Value), z_c1 p5 = true → z_c1 p6 = true → AbsK I1 c S1 → AbsM I1 d S1 → z_V E l (mL_law nm hh) (z_rm 10 20000 200000) 20000 200000 Q_law (kk + 1) (nn + 6) G I1 s1 1643 [some (.ref E.2.2.2.2.1), some (.ref c), some (.ref d), some (.ref o), some (.int (nI i)), p5, p6] []) : z_V E l (mL_law nm hh) (z_rm 10 20000 200000) 20000 200000 Q_law (kk) (nn) G I sz 474 [some (.ref E.2.2.2.2.1), some (.ref c), some (.ref d), some (.ref o), some (.int (nI i)), o5, o6] [] := by
  refine v_aload_n (pc' := 475) dL_law_474 rfl rfl ?_
  refine v_aload_n (pc' := 476) dL_law_475 rfl rfl ?_
  refine v_iload (pc' := 478) dL_law_476 rfl rfl ?_
  refine v_iconst (pc' := 479) dL_law_478 kc_1 rfl ?_
  refine v_iadd (pc' := 480) dL_law_479 rfl ?_
  refine v_sld (j := i + 1) (pc' := 481) dL_law_480 (nI_add i 1) (by omega) hN rfl ?_
  refine v_aload_n (pc' := 482) dL_law_481 rfl rfl ?_
  refine v_callSW (na := 3) (pc' := 485) (w_job hl hK hA ho (by omega) (E.2.2.2.2.2.2 (i + 1))) dL_law_482 lk_L_125 mwwL_job mwcL_job (by decide +kernel) msL_job rfl rfl (by decide) ⟨by omega, by omega⟩ (Nat.le_of_ble_eq_true rfl) rfl ?_
  rintro _ _ I1 s1 ⟨rfl, rfl, hs1, ho1, hA1, hW1⟩
  have he3 : (e_job (E.2.2.2.2.2.2 (i + 1))) < 3 := by unfold e_job; split <;> (try split) <;> omega
  have hM1 : AbsM I1 d S := hM.cg (by rw [hW1 d (by omega) (by omega)]) (by rw [hW1 d (by omega) (by omega)]) (fun q q1 q2 q3 => hW1 q (by omega) (by omega))
  generalize hke : (e_job (E.2.2.2.2.2.2 (i + 1))) = ke at he3 ho1 hA1
  show z_V _ _ _ _ _ _ _ _ _ _ _ _ _ _ [.int (nI ke)]
  refine v_istore5 (pc' := 487) dL_law_485 (by decide) rfl rfl ?_
  refine v_aload_n (pc' := 488) dL_law_487 rfl rfl ?_
  refine v_aload_n (pc' := 489) dL_law_488 rfl rfl ?_
  refine v_iload (pc' := 491) dL_law_489 rfl rfl ?_
  refine v_iconst (pc' := 492) dL_law_491 kc_1 rfl ?_
  refine v_iadd (pc' := 493) dL_law_492 rfl ?_
  refine v_sld (j := i + 1) (pc' := 494) dL_law_493 (nI_add i 1) (by omega) hN rfl ?_
  refine v_cVI (pc' := 497) (hk9 := by omega) (hn9 := by omega) (m_job hl hD hM1 (E.2.2.2.2.2.2 (i + 1))) dL_law_494 lk_L_127 mwX5_job miX5_job hD.1 rfl rfl rfl rfl (by decide) (Nat.le_of_ble_eq_true rfl) rfl ?_
  rintro y9 I2 ⟨r2, v2, hM2, hF2⟩
  rw [hke] at r2 v2 hM2
  have hA2 : AbsK I2 c (if ke = 0 then S else S) := hA1.out (fun q q1 q2 => hF2 q (by omega))
  refine v_istore6 (pc' := 499) dL_law_497 (by decide) rfl rfl ?_
  refine v_aload_n (pc' := 500) dL_law_499 rfl rfl ?_
  refine v_cVR (pc' := 503) (hk9 := by omega) (hn9 := by omega) (c5_thrown hl hD.1) dL_law_500 lk_L_100 mwX5_thrown miX5_thrown hD.1 rfl rfl rfl rfl (by decide) (Nat.le_of_ble_eq_true rfl) rfl ?_
  rw [r2]
  refine v_iload (pc' := 505) dL_law_503 rfl rfl ?_
  refine v_icmp_eq (tgt := 510) (pc' := 508) dL_law_505 (by decide) rfl (fun c_505 => ?_) (fun c_505 => ?_)
  · refine v_iload (pc' := 512) dL_law_510 rfl rfl ?_
    refine v_if_ne (tgt := 527) (pc' := 515) dL_law_512 (by decide) rfl (fun c_512 => ?_) (fun c_512 => ?_)
    · refine v_goto (tgt := 1643) dL_law_527 (by decide) ?_
      exact cont _ I2 s1 _ _ rfl rfl hA2 hM2
    · have hz : ke = 0 := by
        rcases Nat.eq_zero_or_pos ke with q | q
        · exact q
        · exact absurd c_512 (nI_ne0i he3 (by omega))
      refine v_aload_n (pc' := 516) dL_law_515 rfl rfl ?_
      refine v_iconst (pc' := 517) dL_law_516 kc_0 rfl ?_
      refine v_lald (pc' := 518) dL_law_517 (0) rfl ho (by decide) (by decide) rfl ?_
      refine v_iload (pc' := 520) dL_law_518 rfl rfl ?_
      refine v_i2l (pc' := 521) dL_law_520 rfl ?_
      refine v_lcmp (pc' := 522) dL_law_521 rfl ?_
      rw [hF2 o (by omega), ho1 hz, v2 hz, lg_same]
      refine v_if_eq (tgt := 527) (pc' := 525) dL_law_522 (by decide) rfl (fun c_522 => ?_) (fun c_522 => ?_)
      · refine v_goto (tgt := 1643) dL_law_527 (by decide) ?_
        exact cont _ I2 s1 _ _ rfl rfl hA2 hM2
      · exact absurd rfl c_522
  · exact absurd rfl c_505
set_option maxRecDepth 20000 in
set_option maxHeartbeats 4000000 in
theorem law_8 (hl : l.stackTraces = false) (hK : ShK E G c) (hD : ShM E G d) (hd : d = c + 187) (hoo : o = c + 194) (ho : (o, sJ E 1) ∈ G) (hA : AbsK I c S) (hM : AbsM I d S) (i : Nat) (hi : i + 3 < E.2.2.2.2.2.1) (hN : E.2.2.2.2.2.1 < 2 ^ 31) (hkk : kk + 1 ≤ 20000) (hnn : nn + 6 ≤ 200000) (o5 o6 : Option Value) (h5 : z_c1 o5 = true) (h6 : z_c1 o6 = true) (cont : ∀ (S1 : zS) (I1 : zI) (s1 : Nat) (p5 p6 : Option Value), z_c1 p5 = true → z_c1 p6 = true → AbsK I1 c S1 → AbsM I1 d S1 → z_V E l (mL_law nm hh) (z_rm 10 20000 200000) 20000 200000 Q_law (kk + 1) (nn + 6) G I1 s1 1643 [some (.ref E.2.2.2.2.1), some (.ref c), some (.ref d), some (.ref o), some (.int (nI i)), p5, p6] []) : z_V E l (mL_law nm hh) (z_rm 10 20000 200000) 20000 200000 Q_law (kk) (nn) G I sz 530 [some (.ref E.2.2.2.2.1), some (.ref c), some (.ref d), some (.ref o), some (.int (nI i)), o5, o6] [] := by
  refine v_aload_n (pc' := 531) dL_law_530 rfl rfl ?_
  refine v_aload_n (pc' := 532) dL_law_531 rfl rfl ?_
  refine v_iload (pc' := 534) dL_law_532 rfl rfl ?_
  refine v_iconst (pc' := 535) dL_law_534 kc_1 rfl ?_
  refine v_iadd (pc' := 536) dL_law_535 rfl ?_
  refine v_sld (j := i + 1) (pc' := 537) dL_law_536 (nI_add i 1) (by omega) hN rfl ?_
  refine v_aload_n (pc' := 538) dL_law_537 rfl rfl ?_
  refine v_callSW (na := 3) (pc' := 541) (w_setting hl hK hA ho (by omega) (E.2.2.2.2.2.2 (i + 1))) dL_law_538 lk_L_128 mwwL_setting mwcL_setting (by decide +kernel) msL_setting rfl rfl (by decide) ⟨by omega, by omega⟩ (Nat.le_of_ble_eq_true rfl) rfl ?_
  rintro _ _ I1 s1 ⟨rfl, rfl, hs1, ho1, hA1, hW1⟩
  have he3 : (e_job (E.2.2.2.2.2.2 (i + 1))) < 3 := by unfold e_job; split <;> (try split) <;> omega
  have hM1 : AbsM I1 d S := hM.cg (by rw [hW1 d (by omega) (by omega)]) (by rw [hW1 d (by omega) (by omega)]) (fun q q1 q2 q3 => hW1 q (by omega) (by omega))
  generalize hke : (e_job (E.2.2.2.2.2.2 (i + 1))) = ke at he3 ho1 hA1
  show z_V _ _ _ _ _ _ _ _ _ _ _ _ _ _ [.int (nI ke)]
  refine v_istore5 (pc' := 543) dL_law_541 (by decide) rfl rfl ?_
  refine v_aload_n (pc' := 544) dL_law_543 rfl rfl ?_
  refine v_aload_n (pc' := 545) dL_law_544 rfl rfl ?_
  refine v_iload (pc' := 547) dL_law_545 rfl rfl ?_
  refine v_iconst (pc' := 548) dL_law_547 kc_1 rfl ?_
  refine v_iadd (pc' := 549) dL_law_548 rfl ?_
  refine v_sld (j := i + 1) (pc' := 550) dL_law_549 (nI_add i 1) (by omega) hN rfl ?_
  refine v_cVI (pc' := 553) (hk9 := by omega) (hn9 := by omega) (m_setting hl hD hM1 (E.2.2.2.2.2.2 (i + 1))) dL_law_550 lk_L_130 mwX5_setting miX5_setting hD.1 rfl rfl rfl rfl (by decide) (Nat.le_of_ble_eq_true rfl) rfl ?_
  rintro y9 I2 ⟨r2, v2, hM2, hF2⟩
  rw [hke] at r2 v2 hM2
  have hA2 : AbsK I2 c (if ke = 0 then S else S) := hA1.out (fun q q1 q2 => hF2 q (by omega))
  refine v_istore6 (pc' := 555) dL_law_553 (by decide) rfl rfl ?_
  refine v_aload_n (pc' := 556) dL_law_555 rfl rfl ?_
  refine v_cVR (pc' := 559) (hk9 := by omega) (hn9 := by omega) (c5_thrown hl hD.1) dL_law_556 lk_L_100 mwX5_thrown miX5_thrown hD.1 rfl rfl rfl rfl (by decide) (Nat.le_of_ble_eq_true rfl) rfl ?_
  rw [r2]
  refine v_iload (pc' := 561) dL_law_559 rfl rfl ?_
  refine v_icmp_eq (tgt := 566) (pc' := 564) dL_law_561 (by decide) rfl (fun c_561 => ?_) (fun c_561 => ?_)
  · refine v_iload (pc' := 568) dL_law_566 rfl rfl ?_
    refine v_if_ne (tgt := 583) (pc' := 571) dL_law_568 (by decide) rfl (fun c_568 => ?_) (fun c_568 => ?_)
    · refine v_goto (tgt := 1643) dL_law_583 (by decide) ?_
      exact cont _ I2 s1 _ _ rfl rfl hA2 hM2
    · have hz : ke = 0 := by
        rcases Nat.eq_zero_or_pos ke with q | q
        · exact q
        · exact absurd c_568 (nI_ne0i he3 (by omega))
      refine v_aload_n (pc' := 572) dL_law_571 rfl rfl ?_
      refine v_iconst (pc' := 573) dL_law_572 kc_0 rfl ?_
      refine v_lald (pc' := 574) dL_law_573 (0) rfl ho (by decide) (by decide) rfl ?_
      refine v_iload (pc' := 576) dL_law_574 rfl rfl ?_
      refine v_i2l (pc' := 577) dL_law_576 rfl ?_
      refine v_lcmp (pc' := 578) dL_law_577 rfl ?_
      rw [hF2 o (by omega), ho1 hz, v2 hz, lg_same]
      refine v_if_eq (tgt := 583) (pc' := 581) dL_law_578 (by decide) rfl (fun c_578 => ?_) (fun c_578 => ?_)
      · refine v_goto (tgt := 1643) dL_law_583 (by decide) ?_
        exact cont _ I2 s1 _ _ rfl rfl hA2 hM2
      · exact absurd rfl c_578
  · exact absurd rfl c_561
set_option maxRecDepth 20000 in
set_option maxHeartbeats 4000000 in
theorem law_9 (hl : l.stackTraces = false) (hK : ShK E G c) (hD : ShM E G d) (hd : d = c + 187) (hoo : o = c + 194) (ho : (o, sJ E 1) ∈ G) (hA : AbsK I c S) (hM : AbsM I d S) (i : Nat) (hi : i + 3 < E.2.2.2.2.2.1) (hN : E.2.2.2.2.2.1 < 2 ^ 31) (hkk : kk + 1 ≤ 20000) (hnn : nn + 6 ≤ 200000) (o5 o6 : Option Value) (h5 : z_c1 o5 = true) (h6 : z_c1 o6 = true) (cont : ∀ (S1 : zS) (I1 : zI) (s1 : Nat) (p5 p6 : Option Value), z_c1 p5 = true → z_c1 p6 = true → AbsK I1 c S1 → AbsM I1 d S1 → z_V E l (mL_law nm hh) (z_rm 10 20000 200000) 20000 200000 Q_law (kk + 1) (nn + 6) G I1 s1 1643 [some (.ref E.2.2.2.2.1), some (.ref c), some (.ref d), some (.ref o), some (.int (nI i)), p5, p6] []) : z_V E l (mL_law nm hh) (z_rm 10 20000 200000) 20000 200000 Q_law (kk) (nn) G I sz 586 [some (.ref E.2.2.2.2.1), some (.ref c), some (.ref d), some (.ref o), some (.int (nI i)), o5, o6] [] := by
  refine v_aload_n (pc' := 587) dL_law_586 rfl rfl ?_
  refine v_aload_n (pc' := 588) dL_law_587 rfl rfl ?_
  refine v_iload (pc' := 590) dL_law_588 rfl rfl ?_
  refine v_iconst (pc' := 591) dL_law_590 kc_1 rfl ?_
  refine v_iadd (pc' := 592) dL_law_591 rfl ?_
  refine v_sld (j := i + 1) (pc' := 593) dL_law_592 (nI_add i 1) (by omega) hN rfl ?_
  refine v_aload_n (pc' := 594) dL_law_593 rfl rfl ?_
  refine v_iload (pc' := 596) dL_law_594 rfl rfl ?_
  refine v_iconst (pc' := 597) dL_law_596 kc_2 rfl ?_
  refine v_iadd (pc' := 598) dL_law_597 rfl ?_
  refine v_sld (j := i + 2) (pc' := 599) dL_law_598 (nI_add i 2) (by omega) hN rfl ?_
  refine v_aload_n (pc' := 600) dL_law_599 rfl rfl ?_
  refine v_callSW (na := 4) (pc' := 603) (w_add hl hK hA ho (by omega) (E.2.2.2.2.2.2 (i + 1)) (E.2.2.2.2.2.2 (i + 2))) dL_law_600 lk_L_131 mwwL_add mwcL_add (by decide +kernel) msL_add rfl rfl (by decide) ⟨by omega, by omega⟩ (Nat.le_of_ble_eq_true rfl) rfl ?_
  rintro _ _ I1 s1 ⟨rfl, rfl, hs1, ho1, hA1, hW1⟩
  have he3 : (e_add S.1 (E.2.2.2.2.2.2 (i + 1)) (E.2.2.2.2.2.2 (i + 2))) < 3 := by unfold e_add; split <;> (try split) <;> omega
  have hM1 : AbsM I1 d S := hM.cg (by rw [hW1 d (by omega) (by omega)]) (by rw [hW1 d (by omega) (by omega)]) (fun q q1 q2 q3 => hW1 q (by omega) (by omega))
  generalize hke : (e_add S.1 (E.2.2.2.2.2.2 (i + 1)) (E.2.2.2.2.2.2 (i + 2))) = ke at he3 ho1 hA1
  show z_V _ _ _ _ _ _ _ _ _ _ _ _ _ _ [.int (nI ke)]
  refine v_istore5 (pc' := 605) dL_law_603 (by decide) rfl rfl ?_
  refine v_aload_n (pc' := 606) dL_law_605 rfl rfl ?_
  refine v_aload_n (pc' := 607) dL_law_606 rfl rfl ?_
  refine v_iload (pc' := 609) dL_law_607 rfl rfl ?_
  refine v_iconst (pc' := 610) dL_law_609 kc_1 rfl ?_
  refine v_iadd (pc' := 611) dL_law_610 rfl ?_
  refine v_sld (j := i + 1) (pc' := 612) dL_law_611 (nI_add i 1) (by omega) hN rfl ?_
  refine v_aload_n (pc' := 613) dL_law_612 rfl rfl ?_
  refine v_iload (pc' := 615) dL_law_613 rfl rfl ?_
  refine v_iconst (pc' := 616) dL_law_615 kc_2 rfl ?_
  refine v_iadd (pc' := 617) dL_law_616 rfl ?_
  refine v_sld (j := i + 2) (pc' := 618) dL_law_617 (nI_add i 2) (by omega) hN rfl ?_
  refine v_cVI (pc' := 621) (hk9 := by omega) (hn9 := by omega) (m_add hl hD hM1 (E.2.2.2.2.2.2 (i + 1)) (E.2.2.2.2.2.2 (i + 2))) dL_law_618 lk_L_133 mwX5_add miX5_add hD.1 rfl rfl rfl rfl (by decide) (Nat.le_of_ble_eq_true rfl) rfl ?_
  rintro y9 I2 ⟨r2, v2, hM2, hF2⟩
  rw [hke] at r2 v2 hM2
  have hA2 : AbsK I2 c (if ke = 0 then s_now S (t_add S.1 (E.2.2.2.2.2.2 (i + 1)) (E.2.2.2.2.2.2 (i + 2))) else S) := hA1.out (fun q q1 q2 => hF2 q (by omega))
  refine v_istore6 (pc' := 623) dL_law_621 (by decide) rfl rfl ?_
  refine v_aload_n (pc' := 624) dL_law_623 rfl rfl ?_
  refine v_cVR (pc' := 627) (hk9 := by omega) (hn9 := by omega) (c5_thrown hl hD.1) dL_law_624 lk_L_100 mwX5_thrown miX5_thrown hD.1 rfl rfl rfl rfl (by decide) (Nat.le_of_ble_eq_true rfl) rfl ?_
  rw [r2]
  refine v_iload (pc' := 629) dL_law_627 rfl rfl ?_
  refine v_icmp_eq (tgt := 634) (pc' := 632) dL_law_629 (by decide) rfl (fun c_629 => ?_) (fun c_629 => ?_)
  · refine v_iload (pc' := 636) dL_law_634 rfl rfl ?_
    refine v_if_ne (tgt := 651) (pc' := 639) dL_law_636 (by decide) rfl (fun c_636 => ?_) (fun c_636 => ?_)
    · refine v_goto (tgt := 1643) dL_law_651 (by decide) ?_
      exact cont _ I2 s1 _ _ rfl rfl hA2 hM2
    · have hz : ke = 0 := by
        rcases Nat.eq_zero_or_pos ke with q | q
        · exact q
        · exact absurd c_636 (nI_ne0i he3 (by omega))
      refine v_aload_n (pc' := 640) dL_law_639 rfl rfl ?_
      refine v_iconst (pc' := 641) dL_law_640 kc_0 rfl ?_
      refine v_lald (pc' := 642) dL_law_641 (0) rfl ho (by decide) (by decide) rfl ?_
      refine v_iload (pc' := 644) dL_law_642 rfl rfl ?_
      refine v_i2l (pc' := 645) dL_law_644 rfl ?_
      refine v_lcmp (pc' := 646) dL_law_645 rfl ?_
      rw [hF2 o (by omega), ho1 hz, v2 hz, lg_same]
      refine v_if_eq (tgt := 651) (pc' := 649) dL_law_646 (by decide) rfl (fun c_646 => ?_) (fun c_646 => ?_)
      · refine v_goto (tgt := 1643) dL_law_651 (by decide) ?_
        exact cont _ I2 s1 _ _ rfl rfl hA2 hM2
      · exact absurd rfl c_646
  · exact absurd rfl c_629
set_option maxRecDepth 20000 in
set_option maxHeartbeats 4000000 in
theorem law_10 (hl : l.stackTraces = false) (hK : ShK E G c) (hD : ShM E G d) (hd : d = c + 187) (hoo : o = c + 194) (ho : (o, sJ E 1) ∈ G) (hA : AbsK I c S) (hM : AbsM I d S) (i : Nat) (hi : i + 3 < E.2.2.2.2.2.1) (hN : E.2.2.2.2.2.1 < 2 ^ 31) (hkk : kk + 1 ≤ 20000) (hnn : nn + 6 ≤ 200000) (o5 o6 : Option Value) (h5 : z_c1 o5 = true) (h6 : z_c1 o6 = true) (cont : ∀ (S1 : zS) (I1 : zI) (s1 : Nat) (p5 p6 : Option Value), z_c1 p5 = true → z_c1 p6 = true → AbsK I1 c S1 → AbsM I1 d S1 → z_V E l (mL_law nm hh) (z_rm 10 20000 200000) 20000 200000 Q_law (kk + 1) (nn + 6) G I1 s1 1643 [some (.ref E.2.2.2.2.1), some (.ref c), some (.ref d), some (.ref o), some (.int (nI i)), p5, p6] []) : z_V E l (mL_law nm hh) (z_rm 10 20000 200000) 20000 200000 Q_law (kk) (nn) G I sz 654 [some (.ref E.2.2.2.2.1), some (.ref c), some (.ref d), some (.ref o), some (.int (nI i)), o5, o6] [] := by
  refine v_aload_n (pc' := 655) dL_law_654 rfl rfl ?_
  refine v_aload_n (pc' := 656) dL_law_655 rfl rfl ?_
  refine v_iload (pc' := 658) dL_law_656 rfl rfl ?_
  refine v_iconst (pc' := 659) dL_law_658 kc_1 rfl ?_
  refine v_iadd (pc' := 660) dL_law_659 rfl ?_
  refine v_sld (j := i + 1) (pc' := 661) dL_law_660 (nI_add i 1) (by omega) hN rfl ?_
  refine v_aload_n (pc' := 662) dL_law_661 rfl rfl ?_
  refine v_iload (pc' := 664) dL_law_662 rfl rfl ?_
  refine v_iconst (pc' := 665) dL_law_664 kc_2 rfl ?_
  refine v_iadd (pc' := 666) dL_law_665 rfl ?_
  refine v_sld (j := i + 2) (pc' := 667) dL_law_666 (nI_add i 2) (by omega) hN rfl ?_
  refine v_aload_n (pc' := 668) dL_law_667 rfl rfl ?_
  refine v_callSW (na := 4) (pc' := 671) (w_bring hl hK hA ho (by omega) (E.2.2.2.2.2.2 (i + 1)) (E.2.2.2.2.2.2 (i + 2))) dL_law_668 lk_L_134 mwwL_bring mwcL_bring (by decide +kernel) msL_bring rfl rfl (by decide) ⟨by omega, by omega⟩ (Nat.le_of_ble_eq_true rfl) rfl ?_
  rintro _ _ I1 s1 ⟨rfl, rfl, hs1, ho1, hA1, hW1⟩
  have he3 : (e_bring S.1 (E.2.2.2.2.2.2 (i + 1)) (E.2.2.2.2.2.2 (i + 2))) < 3 := by unfold e_bring; split <;> (try split) <;> omega
  have hM1 : AbsM I1 d S := hM.cg (by rw [hW1 d (by omega) (by omega)]) (by rw [hW1 d (by omega) (by omega)]) (fun q q1 q2 q3 => hW1 q (by omega) (by omega))
  generalize hke : (e_bring S.1 (E.2.2.2.2.2.2 (i + 1)) (E.2.2.2.2.2.2 (i + 2))) = ke at he3 ho1 hA1
  show z_V _ _ _ _ _ _ _ _ _ _ _ _ _ _ [.int (nI ke)]
  refine v_istore5 (pc' := 673) dL_law_671 (by decide) rfl rfl ?_
  refine v_aload_n (pc' := 674) dL_law_673 rfl rfl ?_
  refine v_aload_n (pc' := 675) dL_law_674 rfl rfl ?_
  refine v_iload (pc' := 677) dL_law_675 rfl rfl ?_
  refine v_iconst (pc' := 678) dL_law_677 kc_1 rfl ?_
  refine v_iadd (pc' := 679) dL_law_678 rfl ?_
  refine v_sld (j := i + 1) (pc' := 680) dL_law_679 (nI_add i 1) (by omega) hN rfl ?_
  refine v_aload_n (pc' := 681) dL_law_680 rfl rfl ?_
  refine v_iload (pc' := 683) dL_law_681 rfl rfl ?_
  refine v_iconst (pc' := 684) dL_law_683 kc_2 rfl ?_
  refine v_iadd (pc' := 685) dL_law_684 rfl ?_
  refine v_sld (j := i + 2) (pc' := 686) dL_law_685 (nI_add i 2) (by omega) hN rfl ?_
  refine v_cVI (pc' := 689) (hk9 := by omega) (hn9 := by omega) (m_bring hl hD hM1 (E.2.2.2.2.2.2 (i + 1)) (E.2.2.2.2.2.2 (i + 2))) dL_law_686 lk_L_136 mwX5_bring miX5_bring hD.1 rfl rfl rfl rfl (by decide) (Nat.le_of_ble_eq_true rfl) rfl ?_
  rintro y9 I2 ⟨r2, v2, hM2, hF2⟩
  rw [hke] at r2 v2 hM2
  have hA2 : AbsK I2 c (if ke = 0 then s_now S (t_job S.1 (E.2.2.2.2.2.2 (i + 1)) (E.2.2.2.2.2.2 (i + 2))) else S) := hA1.out (fun q q1 q2 => hF2 q (by omega))
  refine v_istore6 (pc' := 691) dL_law_689 (by decide) rfl rfl ?_
  refine v_aload_n (pc' := 692) dL_law_691 rfl rfl ?_
  refine v_cVR (pc' := 695) (hk9 := by omega) (hn9 := by omega) (c5_thrown hl hD.1) dL_law_692 lk_L_100 mwX5_thrown miX5_thrown hD.1 rfl rfl rfl rfl (by decide) (Nat.le_of_ble_eq_true rfl) rfl ?_
  rw [r2]
  refine v_iload (pc' := 697) dL_law_695 rfl rfl ?_
  refine v_icmp_eq (tgt := 702) (pc' := 700) dL_law_697 (by decide) rfl (fun c_697 => ?_) (fun c_697 => ?_)
  · refine v_iload (pc' := 704) dL_law_702 rfl rfl ?_
    refine v_if_ne (tgt := 719) (pc' := 707) dL_law_704 (by decide) rfl (fun c_704 => ?_) (fun c_704 => ?_)
    · refine v_goto (tgt := 1643) dL_law_719 (by decide) ?_
      exact cont _ I2 s1 _ _ rfl rfl hA2 hM2
    · have hz : ke = 0 := by
        rcases Nat.eq_zero_or_pos ke with q | q
        · exact q
        · exact absurd c_704 (nI_ne0i he3 (by omega))
      refine v_aload_n (pc' := 708) dL_law_707 rfl rfl ?_
      refine v_iconst (pc' := 709) dL_law_708 kc_0 rfl ?_
      refine v_lald (pc' := 710) dL_law_709 (0) rfl ho (by decide) (by decide) rfl ?_
      refine v_iload (pc' := 712) dL_law_710 rfl rfl ?_
      refine v_i2l (pc' := 713) dL_law_712 rfl ?_
      refine v_lcmp (pc' := 714) dL_law_713 rfl ?_
      rw [hF2 o (by omega), ho1 hz, v2 hz, lg_same]
      refine v_if_eq (tgt := 719) (pc' := 717) dL_law_714 (by decide) rfl (fun c_714 => ?_) (fun c_714 => ?_)
      · refine v_goto (tgt := 1643) dL_law_719 (by decide) ?_
        exact cont _ I2 s1 _ _ rfl rfl hA2 hM2
      · exact absurd rfl c_714
  · exact absurd rfl c_697
set_option maxRecDepth 20000 in
set_option maxHeartbeats 4000000 in
theorem law_11 (hl : l.stackTraces = false) (hK : ShK E G c) (hD : ShM E G d) (hd : d = c + 187) (hoo : o = c + 194) (ho : (o, sJ E 1) ∈ G) (hA : AbsK I c S) (hM : AbsM I d S) (i : Nat) (hi : i + 3 < E.2.2.2.2.2.1) (hN : E.2.2.2.2.2.1 < 2 ^ 31) (hkk : kk + 1 ≤ 20000) (hnn : nn + 6 ≤ 200000) (o5 o6 : Option Value) (h5 : z_c1 o5 = true) (h6 : z_c1 o6 = true) (cont : ∀ (S1 : zS) (I1 : zI) (s1 : Nat) (p5 p6 : Option Value), z_c1 p5 = true → z_c1 p6 = true → AbsK I1 c S1 → AbsM I1 d S1 → z_V E l (mL_law nm hh) (z_rm 10 20000 200000) 20000 200000 Q_law (kk + 1) (nn + 6) G I1 s1 1643 [some (.ref E.2.2.2.2.1), some (.ref c), some (.ref d), some (.ref o), some (.int (nI i)), p5, p6] []) : z_V E l (mL_law nm hh) (z_rm 10 20000 200000) 20000 200000 Q_law (kk) (nn) G I sz 722 [some (.ref E.2.2.2.2.1), some (.ref c), some (.ref d), some (.ref o), some (.int (nI i)), o5, o6] [] := by
  refine v_aload_n (pc' := 723) dL_law_722 rfl rfl ?_
  refine v_aload_n (pc' := 724) dL_law_723 rfl rfl ?_
  refine v_iload (pc' := 726) dL_law_724 rfl rfl ?_
  refine v_iconst (pc' := 727) dL_law_726 kc_1 rfl ?_
  refine v_iadd (pc' := 728) dL_law_727 rfl ?_
  refine v_sld (j := i + 1) (pc' := 729) dL_law_728 (nI_add i 1) (by omega) hN rfl ?_
  refine v_aload_n (pc' := 730) dL_law_729 rfl rfl ?_
  refine v_callSW (na := 3) (pc' := 733) (w_stop hl hK hA ho (by omega) (E.2.2.2.2.2.2 (i + 1))) dL_law_730 lk_L_137 mwwL_stop mwcL_stop (by decide +kernel) msL_stop rfl rfl (by decide) ⟨by omega, by omega⟩ (Nat.le_of_ble_eq_true rfl) rfl ?_
  rintro _ _ I1 s1 ⟨rfl, rfl, hs1, ho1, hA1, hW1⟩
  have he3 : (e_stop S.1 (E.2.2.2.2.2.2 (i + 1))) < 3 := by unfold e_stop; split <;> (try split) <;> omega
  have hM1 : AbsM I1 d S := hM.cg (by rw [hW1 d (by omega) (by omega)]) (by rw [hW1 d (by omega) (by omega)]) (fun q q1 q2 q3 => hW1 q (by omega) (by omega))
  generalize hke : (e_stop S.1 (E.2.2.2.2.2.2 (i + 1))) = ke at he3 ho1 hA1
  show z_V _ _ _ _ _ _ _ _ _ _ _ _ _ _ [.int (nI ke)]
  refine v_istore5 (pc' := 735) dL_law_733 (by decide) rfl rfl ?_
  refine v_aload_n (pc' := 736) dL_law_735 rfl rfl ?_
  refine v_aload_n (pc' := 737) dL_law_736 rfl rfl ?_
  refine v_iload (pc' := 739) dL_law_737 rfl rfl ?_
  refine v_iconst (pc' := 740) dL_law_739 kc_1 rfl ?_
  refine v_iadd (pc' := 741) dL_law_740 rfl ?_
  refine v_sld (j := i + 1) (pc' := 742) dL_law_741 (nI_add i 1) (by omega) hN rfl ?_
  refine v_cVI (pc' := 745) (hk9 := by omega) (hn9 := by omega) (m_stop hl hD hM1 (E.2.2.2.2.2.2 (i + 1))) dL_law_742 lk_L_139 mwX5_stop miX5_stop hD.1 rfl rfl rfl rfl (by decide) (Nat.le_of_ble_eq_true rfl) rfl ?_
  rintro y9 I2 ⟨r2, v2, hM2, hF2⟩
  rw [hke] at r2 v2 hM2
  have hA2 : AbsK I2 c (if ke = 0 then s_now S (t_stop S.1 (E.2.2.2.2.2.2 (i + 1))) else S) := hA1.out (fun q q1 q2 => hF2 q (by omega))
  refine v_istore6 (pc' := 747) dL_law_745 (by decide) rfl rfl ?_
  refine v_aload_n (pc' := 748) dL_law_747 rfl rfl ?_
  refine v_cVR (pc' := 751) (hk9 := by omega) (hn9 := by omega) (c5_thrown hl hD.1) dL_law_748 lk_L_100 mwX5_thrown miX5_thrown hD.1 rfl rfl rfl rfl (by decide) (Nat.le_of_ble_eq_true rfl) rfl ?_
  rw [r2]
  refine v_iload (pc' := 753) dL_law_751 rfl rfl ?_
  refine v_icmp_eq (tgt := 758) (pc' := 756) dL_law_753 (by decide) rfl (fun c_753 => ?_) (fun c_753 => ?_)
  · refine v_iload (pc' := 760) dL_law_758 rfl rfl ?_
    refine v_if_ne (tgt := 775) (pc' := 763) dL_law_760 (by decide) rfl (fun c_760 => ?_) (fun c_760 => ?_)
    · refine v_goto (tgt := 1643) dL_law_775 (by decide) ?_
      exact cont _ I2 s1 _ _ rfl rfl hA2 hM2
    · have hz : ke = 0 := by
        rcases Nat.eq_zero_or_pos ke with q | q
        · exact q
        · exact absurd c_760 (nI_ne0i he3 (by omega))
      refine v_aload_n (pc' := 764) dL_law_763 rfl rfl ?_
      refine v_iconst (pc' := 765) dL_law_764 kc_0 rfl ?_
      refine v_lald (pc' := 766) dL_law_765 (0) rfl ho (by decide) (by decide) rfl ?_
      refine v_iload (pc' := 768) dL_law_766 rfl rfl ?_
      refine v_i2l (pc' := 769) dL_law_768 rfl ?_
      refine v_lcmp (pc' := 770) dL_law_769 rfl ?_
      rw [hF2 o (by omega), ho1 hz, v2 hz, lg_same]
      refine v_if_eq (tgt := 775) (pc' := 773) dL_law_770 (by decide) rfl (fun c_770 => ?_) (fun c_770 => ?_)
      · refine v_goto (tgt := 1643) dL_law_775 (by decide) ?_
        exact cont _ I2 s1 _ _ rfl rfl hA2 hM2
      · exact absurd rfl c_770
  · exact absurd rfl c_753
set_option maxRecDepth 20000 in
set_option maxHeartbeats 4000000 in
theorem law_12 (hl : l.stackTraces = false) (hK : ShK E G c) (hD : ShM E G d) (hd : d = c + 187) (hoo : o = c + 194) (ho : (o, sJ E 1) ∈ G) (hA : AbsK I c S) (hM : AbsM I d S) (i : Nat) (hi : i + 3 < E.2.2.2.2.2.1) (hN : E.2.2.2.2.2.1 < 2 ^ 31) (hkk : kk + 1 ≤ 20000) (hnn : nn + 6 ≤ 200000) (o5 o6 : Option Value) (h5 : z_c1 o5 = true) (h6 : z_c1 o6 = true) (cont : ∀ (S1 : zS) (I1 : zI) (s1 : Nat) (p5 p6 : Option Value), z_c1 p5 = true → z_c1 p6 = true → AbsK I1 c S1 → AbsM I1 d S1 → z_V E l (mL_law nm hh) (z_rm 10 20000 200000) 20000 200000 Q_law (kk + 1) (nn + 6) G I1 s1 1643 [some (.ref E.2.2.2.2.1), some (.ref c), some (.ref d), some (.ref o), some (.int (nI i)), p5, p6] []) : z_V E l (mL_law nm hh) (z_rm 10 20000 200000) 20000 200000 Q_law (kk) (nn) G I sz 778 [some (.ref E.2.2.2.2.1), some (.ref c), some (.ref d), some (.ref o), some (.int (nI i)), o5, o6] [] := by
  refine v_aload_n (pc' := 779) dL_law_778 rfl rfl ?_
  refine v_aload_n (pc' := 780) dL_law_779 rfl rfl ?_
  refine v_iload (pc' := 782) dL_law_780 rfl rfl ?_
  refine v_iconst (pc' := 783) dL_law_782 kc_1 rfl ?_
  refine v_iadd (pc' := 784) dL_law_783 rfl ?_
  refine v_sld (j := i + 1) (pc' := 785) dL_law_784 (nI_add i 1) (by omega) hN rfl ?_
  refine v_aload_n (pc' := 786) dL_law_785 rfl rfl ?_
  refine v_callSW (na := 3) (pc' := 789) (w_turnBad hl hK hA ho (by omega) (E.2.2.2.2.2.2 (i + 1))) dL_law_786 lk_L_140 mwwL_turnBad mwcL_turnBad (by decide +kernel) msL_turnBad rfl rfl (by decide) ⟨by omega, by omega⟩ (Nat.le_of_ble_eq_true rfl) rfl ?_
  rintro _ _ I1 s1 ⟨rfl, rfl, hs1, ho1, hA1, hW1⟩
  have he3 : (e_strp (E.2.2.2.2.2.2 (i + 1))) < 3 := by unfold e_strp; split <;> (try split) <;> omega
  have hM1 : AbsM I1 d S := hM.cg (by rw [hW1 d (by omega) (by omega)]) (by rw [hW1 d (by omega) (by omega)]) (fun q q1 q2 q3 => hW1 q (by omega) (by omega))
  generalize hke : (e_strp (E.2.2.2.2.2.2 (i + 1))) = ke at he3 ho1 hA1
  show z_V _ _ _ _ _ _ _ _ _ _ _ _ _ _ [.int (nI ke)]
  refine v_istore5 (pc' := 791) dL_law_789 (by decide) rfl rfl ?_
  refine v_aload_n (pc' := 792) dL_law_791 rfl rfl ?_
  refine v_aload_n (pc' := 793) dL_law_792 rfl rfl ?_
  refine v_iload (pc' := 795) dL_law_793 rfl rfl ?_
  refine v_iconst (pc' := 796) dL_law_795 kc_1 rfl ?_
  refine v_iadd (pc' := 797) dL_law_796 rfl ?_
  refine v_sld (j := i + 1) (pc' := 798) dL_law_797 (nI_add i 1) (by omega) hN rfl ?_
  refine v_cVI (pc' := 801) (hk9 := by omega) (hn9 := by omega) (m_turnBad hl hD hM1 (E.2.2.2.2.2.2 (i + 1))) dL_law_798 lk_L_142 mwX5_turnBad miX5_turnBad hD.1 rfl rfl rfl rfl (by decide) (Nat.le_of_ble_eq_true rfl) rfl ?_
  rintro y9 I2 ⟨r2, v2, hM2, hF2⟩
  rw [hke] at r2 v2 hM2
  have hA2 : AbsK I2 c (if ke = 0 then s_now S (t_bad S.1 (E.2.2.2.2.2.2 (i + 1))) else S) := hA1.out (fun q q1 q2 => hF2 q (by omega))
  refine v_istore6 (pc' := 803) dL_law_801 (by decide) rfl rfl ?_
  refine v_aload_n (pc' := 804) dL_law_803 rfl rfl ?_
  refine v_cVR (pc' := 807) (hk9 := by omega) (hn9 := by omega) (c5_thrown hl hD.1) dL_law_804 lk_L_100 mwX5_thrown miX5_thrown hD.1 rfl rfl rfl rfl (by decide) (Nat.le_of_ble_eq_true rfl) rfl ?_
  rw [r2]
  refine v_iload (pc' := 809) dL_law_807 rfl rfl ?_
  refine v_icmp_eq (tgt := 814) (pc' := 812) dL_law_809 (by decide) rfl (fun c_809 => ?_) (fun c_809 => ?_)
  · refine v_iload (pc' := 816) dL_law_814 rfl rfl ?_
    refine v_if_ne (tgt := 831) (pc' := 819) dL_law_816 (by decide) rfl (fun c_816 => ?_) (fun c_816 => ?_)
    · refine v_goto (tgt := 1643) dL_law_831 (by decide) ?_
      exact cont _ I2 s1 _ _ rfl rfl hA2 hM2
    · have hz : ke = 0 := by
        rcases Nat.eq_zero_or_pos ke with q | q
        · exact q
        · exact absurd c_816 (nI_ne0i he3 (by omega))
      refine v_aload_n (pc' := 820) dL_law_819 rfl rfl ?_
      refine v_iconst (pc' := 821) dL_law_820 kc_0 rfl ?_
      refine v_lald (pc' := 822) dL_law_821 (0) rfl ho (by decide) (by decide) rfl ?_
      refine v_iload (pc' := 824) dL_law_822 rfl rfl ?_
      refine v_i2l (pc' := 825) dL_law_824 rfl ?_
      refine v_lcmp (pc' := 826) dL_law_825 rfl ?_
      rw [hF2 o (by omega), ho1 hz, v2 hz, lg_same]
      refine v_if_eq (tgt := 831) (pc' := 829) dL_law_826 (by decide) rfl (fun c_826 => ?_) (fun c_826 => ?_)
      · refine v_goto (tgt := 1643) dL_law_831 (by decide) ?_
        exact cont _ I2 s1 _ _ rfl rfl hA2 hM2
      · exact absurd rfl c_826
  · exact absurd rfl c_809
set_option maxRecDepth 20000 in
set_option maxHeartbeats 4000000 in
theorem law_13 (hl : l.stackTraces = false) (hK : ShK E G c) (hD : ShM E G d) (hd : d = c + 187) (hoo : o = c + 194) (ho : (o, sJ E 1) ∈ G) (hA : AbsK I c S) (hM : AbsM I d S) (i : Nat) (hi : i + 3 < E.2.2.2.2.2.1) (hN : E.2.2.2.2.2.1 < 2 ^ 31) (hkk : kk + 1 ≤ 20000) (hnn : nn + 6 ≤ 200000) (o5 o6 : Option Value) (h5 : z_c1 o5 = true) (h6 : z_c1 o6 = true) (cont : ∀ (S1 : zS) (I1 : zI) (s1 : Nat) (p5 p6 : Option Value), z_c1 p5 = true → z_c1 p6 = true → AbsK I1 c S1 → AbsM I1 d S1 → z_V E l (mL_law nm hh) (z_rm 10 20000 200000) 20000 200000 Q_law (kk + 1) (nn + 6) G I1 s1 1643 [some (.ref E.2.2.2.2.1), some (.ref c), some (.ref d), some (.ref o), some (.int (nI i)), p5, p6] []) : z_V E l (mL_law nm hh) (z_rm 10 20000 200000) 20000 200000 Q_law (kk) (nn) G I sz 834 [some (.ref E.2.2.2.2.1), some (.ref c), some (.ref d), some (.ref o), some (.int (nI i)), o5, o6] [] := by
  refine v_aload_n (pc' := 835) dL_law_834 rfl rfl ?_
  refine v_aload_n (pc' := 836) dL_law_835 rfl rfl ?_
  refine v_iload (pc' := 838) dL_law_836 rfl rfl ?_
  refine v_iconst (pc' := 839) dL_law_838 kc_1 rfl ?_
  refine v_iadd (pc' := 840) dL_law_839 rfl ?_
  refine v_sld (j := i + 1) (pc' := 841) dL_law_840 (nI_add i 1) (by omega) hN rfl ?_
  refine v_aload_n (pc' := 842) dL_law_841 rfl rfl ?_
  refine v_callSW (na := 3) (pc' := 845) (w_mend hl hK hA ho (by omega) (E.2.2.2.2.2.2 (i + 1))) dL_law_842 lk_L_143 mwwL_mend mwcL_mend (by decide +kernel) msL_mend rfl rfl (by decide) ⟨by omega, by omega⟩ (Nat.le_of_ble_eq_true rfl) rfl ?_
  rintro _ _ I1 s1 ⟨rfl, rfl, hs1, ho1, hA1, hW1⟩
  have he3 : (e_strp (E.2.2.2.2.2.2 (i + 1))) < 3 := by unfold e_strp; split <;> (try split) <;> omega
  have hM1 : AbsM I1 d S := hM.cg (by rw [hW1 d (by omega) (by omega)]) (by rw [hW1 d (by omega) (by omega)]) (fun q q1 q2 q3 => hW1 q (by omega) (by omega))
  generalize hke : (e_strp (E.2.2.2.2.2.2 (i + 1))) = ke at he3 ho1 hA1
  show z_V _ _ _ _ _ _ _ _ _ _ _ _ _ _ [.int (nI ke)]
  refine v_istore5 (pc' := 847) dL_law_845 (by decide) rfl rfl ?_
  refine v_aload_n (pc' := 848) dL_law_847 rfl rfl ?_
  refine v_aload_n (pc' := 849) dL_law_848 rfl rfl ?_
  refine v_iload (pc' := 851) dL_law_849 rfl rfl ?_
  refine v_iconst (pc' := 852) dL_law_851 kc_1 rfl ?_
  refine v_iadd (pc' := 853) dL_law_852 rfl ?_
  refine v_sld (j := i + 1) (pc' := 854) dL_law_853 (nI_add i 1) (by omega) hN rfl ?_
  refine v_cVI (pc' := 857) (hk9 := by omega) (hn9 := by omega) (m_mend hl hD hM1 (E.2.2.2.2.2.2 (i + 1))) dL_law_854 lk_L_145 mwX5_mend miX5_mend hD.1 rfl rfl rfl rfl (by decide) (Nat.le_of_ble_eq_true rfl) rfl ?_
  rintro y9 I2 ⟨r2, v2, hM2, hF2⟩
  rw [hke] at r2 v2 hM2
  have hA2 : AbsK I2 c (if ke = 0 then s_now S (t_mend S.1 (E.2.2.2.2.2.2 (i + 1))) else S) := hA1.out (fun q q1 q2 => hF2 q (by omega))
  refine v_istore6 (pc' := 859) dL_law_857 (by decide) rfl rfl ?_
  refine v_aload_n (pc' := 860) dL_law_859 rfl rfl ?_
  refine v_cVR (pc' := 863) (hk9 := by omega) (hn9 := by omega) (c5_thrown hl hD.1) dL_law_860 lk_L_100 mwX5_thrown miX5_thrown hD.1 rfl rfl rfl rfl (by decide) (Nat.le_of_ble_eq_true rfl) rfl ?_
  rw [r2]
  refine v_iload (pc' := 865) dL_law_863 rfl rfl ?_
  refine v_icmp_eq (tgt := 870) (pc' := 868) dL_law_865 (by decide) rfl (fun c_865 => ?_) (fun c_865 => ?_)
  · refine v_iload (pc' := 872) dL_law_870 rfl rfl ?_
    refine v_if_ne (tgt := 887) (pc' := 875) dL_law_872 (by decide) rfl (fun c_872 => ?_) (fun c_872 => ?_)
    · refine v_goto (tgt := 1643) dL_law_887 (by decide) ?_
      exact cont _ I2 s1 _ _ rfl rfl hA2 hM2
    · have hz : ke = 0 := by
        rcases Nat.eq_zero_or_pos ke with q | q
        · exact q
        · exact absurd c_872 (nI_ne0i he3 (by omega))
      refine v_aload_n (pc' := 876) dL_law_875 rfl rfl ?_
      refine v_iconst (pc' := 877) dL_law_876 kc_0 rfl ?_
      refine v_lald (pc' := 878) dL_law_877 (0) rfl ho (by decide) (by decide) rfl ?_
      refine v_iload (pc' := 880) dL_law_878 rfl rfl ?_
      refine v_i2l (pc' := 881) dL_law_880 rfl ?_
      refine v_lcmp (pc' := 882) dL_law_881 rfl ?_
      rw [hF2 o (by omega), ho1 hz, v2 hz, lg_same]
      refine v_if_eq (tgt := 887) (pc' := 885) dL_law_882 (by decide) rfl (fun c_882 => ?_) (fun c_882 => ?_)
      · refine v_goto (tgt := 1643) dL_law_887 (by decide) ?_
        exact cont _ I2 s1 _ _ rfl rfl hA2 hM2
      · exact absurd rfl c_882
  · exact absurd rfl c_865
set_option maxRecDepth 20000 in
set_option maxHeartbeats 4000000 in
theorem law_14 (hl : l.stackTraces = false) (hK : ShK E G c) (hD : ShM E G d) (hd : d = c + 187) (hoo : o = c + 194) (ho : (o, sJ E 1) ∈ G) (hA : AbsK I c S) (hM : AbsM I d S) (i : Nat) (hi : i + 3 < E.2.2.2.2.2.1) (hN : E.2.2.2.2.2.1 < 2 ^ 31) (hkk : kk + 1 ≤ 20000) (hnn : nn + 6 ≤ 200000) (o5 o6 : Option Value) (h5 : z_c1 o5 = true) (h6 : z_c1 o6 = true) (cont : ∀ (S1 : zS) (I1 : zI) (s1 : Nat) (p5 p6 : Option Value), z_c1 p5 = true → z_c1 p6 = true → AbsK I1 c S1 → AbsM I1 d S1 → z_V E l (mL_law nm hh) (z_rm 10 20000 200000) 20000 200000 Q_law (kk + 1) (nn + 6) G I1 s1 1643 [some (.ref E.2.2.2.2.1), some (.ref c), some (.ref d), some (.ref o), some (.int (nI i)), p5, p6] []) : z_V E l (mL_law nm hh) (z_rm 10 20000 200000) 20000 200000 Q_law (kk) (nn) G I sz 890 [some (.ref E.2.2.2.2.1), some (.ref c), some (.ref d), some (.ref o), some (.int (nI i)), o5, o6] [] := by
  refine v_aload_n (pc' := 891) dL_law_890 rfl rfl ?_
  refine v_aload_n (pc' := 892) dL_law_891 rfl rfl ?_
  refine v_iload (pc' := 894) dL_law_892 rfl rfl ?_
  refine v_iconst (pc' := 895) dL_law_894 kc_1 rfl ?_
  refine v_iadd (pc' := 896) dL_law_895 rfl ?_
  refine v_sld (j := i + 1) (pc' := 897) dL_law_896 (nI_add i 1) (by omega) hN rfl ?_
  refine v_aload_n (pc' := 898) dL_law_897 rfl rfl ?_
  refine v_callSW (na := 3) (pc' := 901) (w_run hl hK hA ho (by omega) (E.2.2.2.2.2.2 (i + 1))) dL_law_898 lk_L_146 mwwL_run mwcL_run (by decide +kernel) msL_run rfl rfl (by decide) ⟨by omega, by omega⟩ (Nat.le_of_ble_eq_true rfl) rfl ?_
  rintro _ _ I1 s1 ⟨rfl, rfl, hs1, ho1, hA1, hW1⟩
  have he3 : (e_run (E.2.2.2.2.2.2 (i + 1))) < 3 := by unfold e_run; split <;> (try split) <;> omega
  have hM1 : AbsM I1 d S := hM.cg (by rw [hW1 d (by omega) (by omega)]) (by rw [hW1 d (by omega) (by omega)]) (fun q q1 q2 q3 => hW1 q (by omega) (by omega))
  generalize hke : (e_run (E.2.2.2.2.2.2 (i + 1))) = ke at he3 ho1 hA1
  show z_V _ _ _ _ _ _ _ _ _ _ _ _ _ _ [.int (nI ke)]
  refine v_istore5 (pc' := 903) dL_law_901 (by decide) rfl rfl ?_
  refine v_aload_n (pc' := 904) dL_law_903 rfl rfl ?_
  refine v_aload_n (pc' := 905) dL_law_904 rfl rfl ?_
  refine v_iload (pc' := 907) dL_law_905 rfl rfl ?_
  refine v_iconst (pc' := 908) dL_law_907 kc_1 rfl ?_
  refine v_iadd (pc' := 909) dL_law_908 rfl ?_
  refine v_sld (j := i + 1) (pc' := 910) dL_law_909 (nI_add i 1) (by omega) hN rfl ?_
  refine v_cVI (pc' := 913) (hk9 := by omega) (hn9 := by omega) (m_run hl hD hM1 (E.2.2.2.2.2.2 (i + 1))) dL_law_910 lk_L_148 mwX5_run miX5_run hD.1 rfl rfl rfl rfl (by decide) (Nat.le_of_ble_eq_true rfl) rfl ?_
  rintro y9 I2 ⟨r2, v2, hM2, hF2⟩
  rw [hke] at r2 v2 hM2
  have hA2 : AbsK I2 c (if ke = 0 then s_now S (t_run S.1 (E.2.2.2.2.2.2 (i + 1))) else S) := hA1.out (fun q q1 q2 => hF2 q (by omega))
  refine v_istore6 (pc' := 915) dL_law_913 (by decide) rfl rfl ?_
  refine v_aload_n (pc' := 916) dL_law_915 rfl rfl ?_
  refine v_cVR (pc' := 919) (hk9 := by omega) (hn9 := by omega) (c5_thrown hl hD.1) dL_law_916 lk_L_100 mwX5_thrown miX5_thrown hD.1 rfl rfl rfl rfl (by decide) (Nat.le_of_ble_eq_true rfl) rfl ?_
  rw [r2]
  refine v_iload (pc' := 921) dL_law_919 rfl rfl ?_
  refine v_icmp_eq (tgt := 926) (pc' := 924) dL_law_921 (by decide) rfl (fun c_921 => ?_) (fun c_921 => ?_)
  · refine v_iload (pc' := 928) dL_law_926 rfl rfl ?_
    refine v_if_ne (tgt := 943) (pc' := 931) dL_law_928 (by decide) rfl (fun c_928 => ?_) (fun c_928 => ?_)
    · refine v_goto (tgt := 1643) dL_law_943 (by decide) ?_
      exact cont _ I2 s1 _ _ rfl rfl hA2 hM2
    · have hz : ke = 0 := by
        rcases Nat.eq_zero_or_pos ke with q | q
        · exact q
        · exact absurd c_928 (nI_ne0i he3 (by omega))
      refine v_aload_n (pc' := 932) dL_law_931 rfl rfl ?_
      refine v_iconst (pc' := 933) dL_law_932 kc_0 rfl ?_
      refine v_lald (pc' := 934) dL_law_933 (0) rfl ho (by decide) (by decide) rfl ?_
      refine v_iload (pc' := 936) dL_law_934 rfl rfl ?_
      refine v_i2l (pc' := 937) dL_law_936 rfl ?_
      refine v_lcmp (pc' := 938) dL_law_937 rfl ?_
      rw [hF2 o (by omega), ho1 hz, v2 hz, lg_same]
      refine v_if_eq (tgt := 943) (pc' := 941) dL_law_938 (by decide) rfl (fun c_938 => ?_) (fun c_938 => ?_)
      · refine v_goto (tgt := 1643) dL_law_943 (by decide) ?_
        exact cont _ I2 s1 _ _ rfl rfl hA2 hM2
      · exact absurd rfl c_938
  · exact absurd rfl c_921
set_option maxRecDepth 20000 in
set_option maxHeartbeats 4000000 in
theorem law_15 (hl : l.stackTraces = false) (hK : ShK E G c) (hD : ShM E G d) (hd : d = c + 187) (hoo : o = c + 194) (ho : (o, sJ E 1) ∈ G) (hA : AbsK I c S) (hM : AbsM I d S) (i : Nat) (hi : i + 3 < E.2.2.2.2.2.1) (hN : E.2.2.2.2.2.1 < 2 ^ 31) (hkk : kk + 1 ≤ 20000) (hnn : nn + 6 ≤ 200000) (o5 o6 : Option Value) (h5 : z_c1 o5 = true) (h6 : z_c1 o6 = true) (cont : ∀ (S1 : zS) (I1 : zI) (s1 : Nat) (p5 p6 : Option Value), z_c1 p5 = true → z_c1 p6 = true → AbsK I1 c S1 → AbsM I1 d S1 → z_V E l (mL_law nm hh) (z_rm 10 20000 200000) 20000 200000 Q_law (kk + 1) (nn + 6) G I1 s1 1643 [some (.ref E.2.2.2.2.1), some (.ref c), some (.ref d), some (.ref o), some (.int (nI i)), p5, p6] []) : z_V E l (mL_law nm hh) (z_rm 10 20000 200000) 20000 200000 Q_law (kk) (nn) G I sz 946 [some (.ref E.2.2.2.2.1), some (.ref c), some (.ref d), some (.ref o), some (.int (nI i)), o5, o6] [] := by
  refine v_aload_n (pc' := 947) dL_law_946 rfl rfl ?_
  refine v_aload_n (pc' := 948) dL_law_947 rfl rfl ?_
  refine v_iload (pc' := 950) dL_law_948 rfl rfl ?_
  refine v_iconst (pc' := 951) dL_law_950 kc_1 rfl ?_
  refine v_iadd (pc' := 952) dL_law_951 rfl ?_
  refine v_sld (j := i + 1) (pc' := 953) dL_law_952 (nI_add i 1) (by omega) hN rfl ?_
  refine v_aload_n (pc' := 954) dL_law_953 rfl rfl ?_
  refine v_iload (pc' := 956) dL_law_954 rfl rfl ?_
  refine v_iconst (pc' := 957) dL_law_956 kc_2 rfl ?_
  refine v_iadd (pc' := 958) dL_law_957 rfl ?_
  refine v_sld (j := i + 2) (pc' := 959) dL_law_958 (nI_add i 2) (by omega) hN rfl ?_
  refine v_aload_n (pc' := 960) dL_law_959 rfl rfl ?_
  refine v_callSW (na := 4) (pc' := 963) (w_set hl hK hA ho (by omega) (E.2.2.2.2.2.2 (i + 1)) (E.2.2.2.2.2.2 (i + 2))) dL_law_960 lk_L_149 mwwL_set mwcL_set (by decide +kernel) msL_set rfl rfl (by decide) ⟨by omega, by omega⟩ (Nat.le_of_ble_eq_true rfl) rfl ?_
  rintro _ _ I1 s1 ⟨rfl, rfl, hs1, ho1, hA1, hW1⟩
  have he3 : (e_set (E.2.2.2.2.2.2 (i + 1)) (E.2.2.2.2.2.2 (i + 2))) < 3 := by unfold e_set; split <;> (try split) <;> omega
  have hM1 : AbsM I1 d S := hM.cg (by rw [hW1 d (by omega) (by omega)]) (by rw [hW1 d (by omega) (by omega)]) (fun q q1 q2 q3 => hW1 q (by omega) (by omega))
  generalize hke : (e_set (E.2.2.2.2.2.2 (i + 1)) (E.2.2.2.2.2.2 (i + 2))) = ke at he3 ho1 hA1
  show z_V _ _ _ _ _ _ _ _ _ _ _ _ _ _ [.int (nI ke)]
  refine v_istore5 (pc' := 965) dL_law_963 (by decide) rfl rfl ?_
  refine v_aload_n (pc' := 966) dL_law_965 rfl rfl ?_
  refine v_aload_n (pc' := 967) dL_law_966 rfl rfl ?_
  refine v_iload (pc' := 969) dL_law_967 rfl rfl ?_
  refine v_iconst (pc' := 970) dL_law_969 kc_1 rfl ?_
  refine v_iadd (pc' := 971) dL_law_970 rfl ?_
  refine v_sld (j := i + 1) (pc' := 972) dL_law_971 (nI_add i 1) (by omega) hN rfl ?_
  refine v_aload_n (pc' := 973) dL_law_972 rfl rfl ?_
  refine v_iload (pc' := 975) dL_law_973 rfl rfl ?_
  refine v_iconst (pc' := 976) dL_law_975 kc_2 rfl ?_
  refine v_iadd (pc' := 977) dL_law_976 rfl ?_
  refine v_sld (j := i + 2) (pc' := 978) dL_law_977 (nI_add i 2) (by omega) hN rfl ?_
  refine v_cVI (pc' := 981) (hk9 := by omega) (hn9 := by omega) (m_set hl hD hM1 (E.2.2.2.2.2.2 (i + 1)) (E.2.2.2.2.2.2 (i + 2))) dL_law_978 lk_L_151 mwX5_set miX5_set hD.1 rfl rfl rfl rfl (by decide) (Nat.le_of_ble_eq_true rfl) rfl ?_
  rintro y9 I2 ⟨r2, v2, hM2, hF2⟩
  rw [hke] at r2 v2 hM2
  have hA2 : AbsK I2 c (if ke = 0 then s_now S (upd S.1 (8 + (E.2.2.2.2.2.2 (i + 1)).toNatClampNeg) (E.2.2.2.2.2.2 (i + 2))) else S) := hA1.out (fun q q1 q2 => hF2 q (by omega))
  refine v_istore6 (pc' := 983) dL_law_981 (by decide) rfl rfl ?_
  refine v_aload_n (pc' := 984) dL_law_983 rfl rfl ?_
  refine v_cVR (pc' := 987) (hk9 := by omega) (hn9 := by omega) (c5_thrown hl hD.1) dL_law_984 lk_L_100 mwX5_thrown miX5_thrown hD.1 rfl rfl rfl rfl (by decide) (Nat.le_of_ble_eq_true rfl) rfl ?_
  rw [r2]
  refine v_iload (pc' := 989) dL_law_987 rfl rfl ?_
  refine v_icmp_eq (tgt := 994) (pc' := 992) dL_law_989 (by decide) rfl (fun c_989 => ?_) (fun c_989 => ?_)
  · refine v_iload (pc' := 996) dL_law_994 rfl rfl ?_
    refine v_if_ne (tgt := 1011) (pc' := 999) dL_law_996 (by decide) rfl (fun c_996 => ?_) (fun c_996 => ?_)
    · refine v_goto (tgt := 1643) dL_law_1011 (by decide) ?_
      exact cont _ I2 s1 _ _ rfl rfl hA2 hM2
    · have hz : ke = 0 := by
        rcases Nat.eq_zero_or_pos ke with q | q
        · exact q
        · exact absurd c_996 (nI_ne0i he3 (by omega))
      refine v_aload_n (pc' := 1000) dL_law_999 rfl rfl ?_
      refine v_iconst (pc' := 1001) dL_law_1000 kc_0 rfl ?_
      refine v_lald (pc' := 1002) dL_law_1001 (0) rfl ho (by decide) (by decide) rfl ?_
      refine v_iload (pc' := 1004) dL_law_1002 rfl rfl ?_
      refine v_i2l (pc' := 1005) dL_law_1004 rfl ?_
      refine v_lcmp (pc' := 1006) dL_law_1005 rfl ?_
      rw [hF2 o (by omega), ho1 hz, v2 hz, lg_same]
      refine v_if_eq (tgt := 1011) (pc' := 1009) dL_law_1006 (by decide) rfl (fun c_1006 => ?_) (fun c_1006 => ?_)
      · refine v_goto (tgt := 1643) dL_law_1011 (by decide) ?_
        exact cont _ I2 s1 _ _ rfl rfl hA2 hM2
      · exact absurd rfl c_1006
  · exact absurd rfl c_989
set_option maxRecDepth 20000 in
set_option maxHeartbeats 4000000 in
theorem law_16 (hl : l.stackTraces = false) (hK : ShK E G c) (hD : ShM E G d) (hd : d = c + 187) (hoo : o = c + 194) (ho : (o, sJ E 1) ∈ G) (hA : AbsK I c S) (hM : AbsM I d S) (i : Nat) (hi : i + 3 < E.2.2.2.2.2.1) (hN : E.2.2.2.2.2.1 < 2 ^ 31) (hkk : kk + 1 ≤ 20000) (hnn : nn + 6 ≤ 200000) (o5 o6 : Option Value) (h5 : z_c1 o5 = true) (h6 : z_c1 o6 = true) (cont : ∀ (S1 : zS) (I1 : zI) (s1 : Nat) (p5 p6 : Option Value), z_c1 p5 = true → z_c1 p6 = true → AbsK I1 c S1 → AbsM I1 d S1 → z_V E l (mL_law nm hh) (z_rm 10 20000 200000) 20000 200000 Q_law (kk + 1) (nn + 6) G I1 s1 1643 [some (.ref E.2.2.2.2.1), some (.ref c), some (.ref d), some (.ref o), some (.int (nI i)), p5, p6] []) : z_V E l (mL_law nm hh) (z_rm 10 20000 200000) 20000 200000 Q_law (kk) (nn) G I sz 1014 [some (.ref E.2.2.2.2.1), some (.ref c), some (.ref d), some (.ref o), some (.int (nI i)), o5, o6] [] := by
  refine v_aload_n (pc' := 1015) dL_law_1014 rfl rfl ?_
  refine v_aload_n (pc' := 1016) dL_law_1015 rfl rfl ?_
  refine v_callSW (na := 2) (pc' := 1019) (w_undo hl hK hA ho (by omega)) dL_law_1016 lk_L_152 mwwL_undo mwcL_undo (by decide +kernel) msL_undo rfl rfl (by decide) ⟨by omega, by omega⟩ (Nat.le_of_ble_eq_true rfl) rfl ?_
  rintro _ _ I1 s1 ⟨rfl, rfl, hs1, ho1, hA1, hW1⟩
  have he3 : (e_undo S) < 3 := by unfold e_undo; split <;> (try split) <;> omega
  have hM1 : AbsM I1 d S := hM.cg (by rw [hW1 d (by omega) (by omega)]) (by rw [hW1 d (by omega) (by omega)]) (fun q q1 q2 q3 => hW1 q (by omega) (by omega))
  generalize hke : (e_undo S) = ke at he3 ho1 hA1
  show z_V _ _ _ _ _ _ _ _ _ _ _ _ _ _ [.int (nI ke)]
  refine v_istore5 (pc' := 1021) dL_law_1019 (by decide) rfl rfl ?_
  refine v_aload_n (pc' := 1022) dL_law_1021 rfl rfl ?_
  refine v_cVI (pc' := 1025) (hk9 := by omega) (hn9 := by omega) (m_undo hl hD hM1) dL_law_1022 lk_L_154 mwX5_undo miX5_undo hD.1 rfl rfl rfl rfl (by decide) (Nat.le_of_ble_eq_true rfl) rfl ?_
  rintro y9 I2 ⟨r2, v2, hM2, hF2⟩
  rw [hke] at r2 v2 hM2
  have hA2 : AbsK I2 c (if ke = 0 then s_undo S else S) := hA1.out (fun q q1 q2 => hF2 q (by omega))
  refine v_istore6 (pc' := 1027) dL_law_1025 (by decide) rfl rfl ?_
  refine v_aload_n (pc' := 1028) dL_law_1027 rfl rfl ?_
  refine v_cVR (pc' := 1031) (hk9 := by omega) (hn9 := by omega) (c5_thrown hl hD.1) dL_law_1028 lk_L_100 mwX5_thrown miX5_thrown hD.1 rfl rfl rfl rfl (by decide) (Nat.le_of_ble_eq_true rfl) rfl ?_
  rw [r2]
  refine v_iload (pc' := 1033) dL_law_1031 rfl rfl ?_
  refine v_icmp_eq (tgt := 1038) (pc' := 1036) dL_law_1033 (by decide) rfl (fun c_1033 => ?_) (fun c_1033 => ?_)
  · refine v_iload (pc' := 1040) dL_law_1038 rfl rfl ?_
    refine v_if_ne (tgt := 1055) (pc' := 1043) dL_law_1040 (by decide) rfl (fun c_1040 => ?_) (fun c_1040 => ?_)
    · refine v_goto (tgt := 1643) dL_law_1055 (by decide) ?_
      exact cont _ I2 s1 _ _ rfl rfl hA2 hM2
    · have hz : ke = 0 := by
        rcases Nat.eq_zero_or_pos ke with q | q
        · exact q
        · exact absurd c_1040 (nI_ne0i he3 (by omega))
      refine v_aload_n (pc' := 1044) dL_law_1043 rfl rfl ?_
      refine v_iconst (pc' := 1045) dL_law_1044 kc_0 rfl ?_
      refine v_lald (pc' := 1046) dL_law_1045 (0) rfl ho (by decide) (by decide) rfl ?_
      refine v_iload (pc' := 1048) dL_law_1046 rfl rfl ?_
      refine v_i2l (pc' := 1049) dL_law_1048 rfl ?_
      refine v_lcmp (pc' := 1050) dL_law_1049 rfl ?_
      rw [hF2 o (by omega), ho1 hz, v2 hz, lg_same]
      refine v_if_eq (tgt := 1055) (pc' := 1053) dL_law_1050 (by decide) rfl (fun c_1050 => ?_) (fun c_1050 => ?_)
      · refine v_goto (tgt := 1643) dL_law_1055 (by decide) ?_
        exact cont _ I2 s1 _ _ rfl rfl hA2 hM2
      · exact absurd rfl c_1050
  · exact absurd rfl c_1033
set_option maxRecDepth 20000 in
set_option maxHeartbeats 4000000 in
theorem law_17 (hl : l.stackTraces = false) (hK : ShK E G c) (hD : ShM E G d) (hd : d = c + 187) (hoo : o = c + 194) (ho : (o, sJ E 1) ∈ G) (hA : AbsK I c S) (hM : AbsM I d S) (i : Nat) (hi : i + 3 < E.2.2.2.2.2.1) (hN : E.2.2.2.2.2.1 < 2 ^ 31) (hkk : kk + 1 ≤ 20000) (hnn : nn + 6 ≤ 200000) (o5 o6 : Option Value) (h5 : z_c1 o5 = true) (h6 : z_c1 o6 = true) (cont : ∀ (S1 : zS) (I1 : zI) (s1 : Nat) (p5 p6 : Option Value), z_c1 p5 = true → z_c1 p6 = true → AbsK I1 c S1 → AbsM I1 d S1 → z_V E l (mL_law nm hh) (z_rm 10 20000 200000) 20000 200000 Q_law (kk + 1) (nn + 6) G I1 s1 1643 [some (.ref E.2.2.2.2.1), some (.ref c), some (.ref d), some (.ref o), some (.int (nI i)), p5, p6] []) : z_V E l (mL_law nm hh) (z_rm 10 20000 200000) 20000 200000 Q_law (kk) (nn) G I sz 1058 [some (.ref E.2.2.2.2.1), some (.ref c), some (.ref d), some (.ref o), some (.int (nI i)), o5, o6] [] := by
  refine v_aload_n (pc' := 1059) dL_law_1058 rfl rfl ?_
  refine v_aload_n (pc' := 1060) dL_law_1059 rfl rfl ?_
  refine v_iload (pc' := 1062) dL_law_1060 rfl rfl ?_
  refine v_iconst (pc' := 1063) dL_law_1062 kc_1 rfl ?_
  refine v_iadd (pc' := 1064) dL_law_1063 rfl ?_
  refine v_sld (j := i + 1) (pc' := 1065) dL_law_1064 (nI_add i 1) (by omega) hN rfl ?_
  refine v_aload_n (pc' := 1066) dL_law_1065 rfl rfl ?_
  refine v_callSW (na := 3) (pc' := 1069) (w_bestGap hl hK hA ho (by omega) (E.2.2.2.2.2.2 (i + 1))) dL_law_1066 lk_L_155 mwwL_bestGap mwcL_bestGap (by decide +kernel) msL_bestGap rfl rfl (by decide) ⟨by omega, by omega⟩ (Nat.le_of_ble_eq_true rfl) rfl ?_
  rintro _ _ I1 s1 ⟨rfl, rfl, hs1, ho1, hA1, hW1⟩
  have he3 : (e_gap (E.2.2.2.2.2.2 (i + 1))) < 3 := by unfold e_gap; split <;> (try split) <;> omega
  have hM1 : AbsM I1 d S := hM.cg (by rw [hW1 d (by omega) (by omega)]) (by rw [hW1 d (by omega) (by omega)]) (fun q q1 q2 q3 => hW1 q (by omega) (by omega))
  generalize hke : (e_gap (E.2.2.2.2.2.2 (i + 1))) = ke at he3 ho1 hA1
  show z_V _ _ _ _ _ _ _ _ _ _ _ _ _ _ [.int (nI ke)]
  refine v_istore5 (pc' := 1071) dL_law_1069 (by decide) rfl rfl ?_
  refine v_aload_n (pc' := 1072) dL_law_1071 rfl rfl ?_
  refine v_aload_n (pc' := 1073) dL_law_1072 rfl rfl ?_
  refine v_iload (pc' := 1075) dL_law_1073 rfl rfl ?_
  refine v_iconst (pc' := 1076) dL_law_1075 kc_1 rfl ?_
  refine v_iadd (pc' := 1077) dL_law_1076 rfl ?_
  refine v_sld (j := i + 1) (pc' := 1078) dL_law_1077 (nI_add i 1) (by omega) hN rfl ?_
  refine v_cVI (pc' := 1081) (hk9 := by omega) (hn9 := by omega) (m_bestGap hl hD hM1 (E.2.2.2.2.2.2 (i + 1))) dL_law_1078 lk_L_157 mwX5_bestGap miX5_bestGap hD.1 rfl rfl rfl rfl (by decide) (Nat.le_of_ble_eq_true rfl) rfl ?_
  rintro y9 I2 ⟨r2, v2, hM2, hF2⟩
  rw [hke] at r2 v2 hM2
  have hA2 : AbsK I2 c (if ke = 0 then S else S) := hA1.out (fun q q1 q2 => hF2 q (by omega))
  refine v_istore6 (pc' := 1083) dL_law_1081 (by decide) rfl rfl ?_
  refine v_aload_n (pc' := 1084) dL_law_1083 rfl rfl ?_
  refine v_cVR (pc' := 1087) (hk9 := by omega) (hn9 := by omega) (c5_thrown hl hD.1) dL_law_1084 lk_L_100 mwX5_thrown miX5_thrown hD.1 rfl rfl rfl rfl (by decide) (Nat.le_of_ble_eq_true rfl) rfl ?_
  rw [r2]
  refine v_iload (pc' := 1089) dL_law_1087 rfl rfl ?_
  refine v_icmp_eq (tgt := 1094) (pc' := 1092) dL_law_1089 (by decide) rfl (fun c_1089 => ?_) (fun c_1089 => ?_)
  · refine v_iload (pc' := 1096) dL_law_1094 rfl rfl ?_
    refine v_if_ne (tgt := 1111) (pc' := 1099) dL_law_1096 (by decide) rfl (fun c_1096 => ?_) (fun c_1096 => ?_)
    · refine v_goto (tgt := 1643) dL_law_1111 (by decide) ?_
      exact cont _ I2 s1 _ _ rfl rfl hA2 hM2
    · have hz : ke = 0 := by
        rcases Nat.eq_zero_or_pos ke with q | q
        · exact q
        · exact absurd c_1096 (nI_ne0i he3 (by omega))
      refine v_aload_n (pc' := 1100) dL_law_1099 rfl rfl ?_
      refine v_iconst (pc' := 1101) dL_law_1100 kc_0 rfl ?_
      refine v_lald (pc' := 1102) dL_law_1101 (0) rfl ho (by decide) (by decide) rfl ?_
      refine v_iload (pc' := 1104) dL_law_1102 rfl rfl ?_
      refine v_i2l (pc' := 1105) dL_law_1104 rfl ?_
      refine v_lcmp (pc' := 1106) dL_law_1105 rfl ?_
      rw [hF2 o (by omega), ho1 hz, v2 hz, lg_same]
      refine v_if_eq (tgt := 1111) (pc' := 1109) dL_law_1106 (by decide) rfl (fun c_1106 => ?_) (fun c_1106 => ?_)
      · refine v_goto (tgt := 1643) dL_law_1111 (by decide) ?_
        exact cont _ I2 s1 _ _ rfl rfl hA2 hM2
      · exact absurd rfl c_1106
  · exact absurd rfl c_1089
set_option maxRecDepth 20000 in
set_option maxHeartbeats 4000000 in
theorem law_18 (hl : l.stackTraces = false) (hK : ShK E G c) (hD : ShM E G d) (hd : d = c + 187) (hoo : o = c + 194) (ho : (o, sJ E 1) ∈ G) (hA : AbsK I c S) (hM : AbsM I d S) (i : Nat) (hi : i + 3 < E.2.2.2.2.2.1) (hN : E.2.2.2.2.2.1 < 2 ^ 31) (hkk : kk + 1 ≤ 20000) (hnn : nn + 6 ≤ 200000) (o5 o6 : Option Value) (h5 : z_c1 o5 = true) (h6 : z_c1 o6 = true) (cont : ∀ (S1 : zS) (I1 : zI) (s1 : Nat) (p5 p6 : Option Value), z_c1 p5 = true → z_c1 p6 = true → AbsK I1 c S1 → AbsM I1 d S1 → z_V E l (mL_law nm hh) (z_rm 10 20000 200000) 20000 200000 Q_law (kk + 1) (nn + 6) G I1 s1 1643 [some (.ref E.2.2.2.2.1), some (.ref c), some (.ref d), some (.ref o), some (.int (nI i)), p5, p6] []) : z_V E l (mL_law nm hh) (z_rm 10 20000 200000) 20000 200000 Q_law (kk) (nn) G I sz 1114 [some (.ref E.2.2.2.2.1), some (.ref c), some (.ref d), some (.ref o), some (.int (nI i)), o5, o6] [] := by
  refine v_aload_n (pc' := 1115) dL_law_1114 rfl rfl ?_
  refine v_aload_n (pc' := 1116) dL_law_1115 rfl rfl ?_
  refine v_iload (pc' := 1118) dL_law_1116 rfl rfl ?_
  refine v_iconst (pc' := 1119) dL_law_1118 kc_1 rfl ?_
  refine v_iadd (pc' := 1120) dL_law_1119 rfl ?_
  refine v_sld (j := i + 1) (pc' := 1121) dL_law_1120 (nI_add i 1) (by omega) hN rfl ?_
  refine v_aload_n (pc' := 1122) dL_law_1121 rfl rfl ?_
  refine v_iload (pc' := 1124) dL_law_1122 rfl rfl ?_
  refine v_iconst (pc' := 1125) dL_law_1124 kc_2 rfl ?_
  refine v_iadd (pc' := 1126) dL_law_1125 rfl ?_
  refine v_sld (j := i + 2) (pc' := 1127) dL_law_1126 (nI_add i 2) (by omega) hN rfl ?_
  refine v_aload_n (pc' := 1128) dL_law_1127 rfl rfl ?_
  refine v_callSW (na := 4) (pc' := 1131) (w_window hl hK hA ho (by omega) (E.2.2.2.2.2.2 (i + 1)) (E.2.2.2.2.2.2 (i + 2))) dL_law_1128 lk_L_158 mwwL_window mwcL_window (by decide +kernel) msL_window rfl rfl (by decide) ⟨by omega, by omega⟩ (Nat.le_of_ble_eq_true rfl) rfl ?_
  rintro _ _ I1 s1 ⟨rfl, rfl, hs1, ho1, hA1, hW1⟩
  have he3 : (e_win (E.2.2.2.2.2.2 (i + 1)) (E.2.2.2.2.2.2 (i + 2))) < 3 := by unfold e_win; split <;> (try split) <;> omega
  have hM1 : AbsM I1 d S := hM.cg (by rw [hW1 d (by omega) (by omega)]) (by rw [hW1 d (by omega) (by omega)]) (fun q q1 q2 q3 => hW1 q (by omega) (by omega))
  generalize hke : (e_win (E.2.2.2.2.2.2 (i + 1)) (E.2.2.2.2.2.2 (i + 2))) = ke at he3 ho1 hA1
  show z_V _ _ _ _ _ _ _ _ _ _ _ _ _ _ [.int (nI ke)]
  refine v_istore5 (pc' := 1133) dL_law_1131 (by decide) rfl rfl ?_
  refine v_aload_n (pc' := 1134) dL_law_1133 rfl rfl ?_
  refine v_aload_n (pc' := 1135) dL_law_1134 rfl rfl ?_
  refine v_iload (pc' := 1137) dL_law_1135 rfl rfl ?_
  refine v_iconst (pc' := 1138) dL_law_1137 kc_1 rfl ?_
  refine v_iadd (pc' := 1139) dL_law_1138 rfl ?_
  refine v_sld (j := i + 1) (pc' := 1140) dL_law_1139 (nI_add i 1) (by omega) hN rfl ?_
  refine v_aload_n (pc' := 1141) dL_law_1140 rfl rfl ?_
  refine v_iload (pc' := 1143) dL_law_1141 rfl rfl ?_
  refine v_iconst (pc' := 1144) dL_law_1143 kc_2 rfl ?_
  refine v_iadd (pc' := 1145) dL_law_1144 rfl ?_
  refine v_sld (j := i + 2) (pc' := 1146) dL_law_1145 (nI_add i 2) (by omega) hN rfl ?_
  refine v_cVI (pc' := 1149) (hk9 := by omega) (hn9 := by omega) (m_window hl hD hM1 (E.2.2.2.2.2.2 (i + 1)) (E.2.2.2.2.2.2 (i + 2))) dL_law_1146 lk_L_160 mwX5_window miX5_window hD.1 rfl rfl rfl rfl (by decide) (Nat.le_of_ble_eq_true rfl) rfl ?_
  rintro y9 I2 ⟨r2, v2, hM2, hF2⟩
  rw [hke] at r2 v2 hM2
  have hA2 : AbsK I2 c (if ke = 0 then S else S) := hA1.out (fun q q1 q2 => hF2 q (by omega))
  refine v_istore6 (pc' := 1151) dL_law_1149 (by decide) rfl rfl ?_
  refine v_aload_n (pc' := 1152) dL_law_1151 rfl rfl ?_
  refine v_cVR (pc' := 1155) (hk9 := by omega) (hn9 := by omega) (c5_thrown hl hD.1) dL_law_1152 lk_L_100 mwX5_thrown miX5_thrown hD.1 rfl rfl rfl rfl (by decide) (Nat.le_of_ble_eq_true rfl) rfl ?_
  rw [r2]
  refine v_iload (pc' := 1157) dL_law_1155 rfl rfl ?_
  refine v_icmp_eq (tgt := 1162) (pc' := 1160) dL_law_1157 (by decide) rfl (fun c_1157 => ?_) (fun c_1157 => ?_)
  · refine v_iload (pc' := 1164) dL_law_1162 rfl rfl ?_
    refine v_if_ne (tgt := 1179) (pc' := 1167) dL_law_1164 (by decide) rfl (fun c_1164 => ?_) (fun c_1164 => ?_)
    · refine v_goto (tgt := 1643) dL_law_1179 (by decide) ?_
      exact cont _ I2 s1 _ _ rfl rfl hA2 hM2
    · have hz : ke = 0 := by
        rcases Nat.eq_zero_or_pos ke with q | q
        · exact q
        · exact absurd c_1164 (nI_ne0i he3 (by omega))
      refine v_aload_n (pc' := 1168) dL_law_1167 rfl rfl ?_
      refine v_iconst (pc' := 1169) dL_law_1168 kc_0 rfl ?_
      refine v_lald (pc' := 1170) dL_law_1169 (0) rfl ho (by decide) (by decide) rfl ?_
      refine v_iload (pc' := 1172) dL_law_1170 rfl rfl ?_
      refine v_i2l (pc' := 1173) dL_law_1172 rfl ?_
      refine v_lcmp (pc' := 1174) dL_law_1173 rfl ?_
      rw [hF2 o (by omega), ho1 hz, v2 hz, lg_same]
      refine v_if_eq (tgt := 1179) (pc' := 1177) dL_law_1174 (by decide) rfl (fun c_1174 => ?_) (fun c_1174 => ?_)
      · refine v_goto (tgt := 1643) dL_law_1179 (by decide) ?_
        exact cont _ I2 s1 _ _ rfl rfl hA2 hM2
      · exact absurd rfl c_1174
  · exact absurd rfl c_1157
set_option maxRecDepth 20000 in
set_option maxHeartbeats 4000000 in
theorem law_20 (hl : l.stackTraces = false) (hK : ShK E G c) (hD : ShM E G d) (hd : d = c + 187) (hoo : o = c + 194) (ho : (o, sJ E 1) ∈ G) (hA : AbsK I c S) (hM : AbsM I d S) (i : Nat) (hi : i + 3 < E.2.2.2.2.2.1) (hN : E.2.2.2.2.2.1 < 2 ^ 31) (hkk : kk + 1 ≤ 20000) (hnn : nn + 6 ≤ 200000) (o5 o6 : Option Value) (h5 : z_c1 o5 = true) (h6 : z_c1 o6 = true) (cont : ∀ (S1 : zS) (I1 : zI) (s1 : Nat) (p5 p6 : Option Value), z_c1 p5 = true → z_c1 p6 = true → AbsK I1 c S1 → AbsM I1 d S1 → z_V E l (mL_law nm hh) (z_rm 10 20000 200000) 20000 200000 Q_law (kk + 1) (nn + 6) G I1 s1 1643 [some (.ref E.2.2.2.2.1), some (.ref c), some (.ref d), some (.ref o), some (.int (nI i)), p5, p6] []) : z_V E l (mL_law nm hh) (z_rm 10 20000 200000) 20000 200000 Q_law (kk) (nn) G I sz 1195 [some (.ref E.2.2.2.2.1), some (.ref c), some (.ref d), some (.ref o), some (.int (nI i)), o5, o6] [] := by
  refine v_aload_n (pc' := 1196) dL_law_1195 rfl rfl ?_
  refine v_aload_n (pc' := 1197) dL_law_1196 rfl rfl ?_
  refine v_iload (pc' := 1199) dL_law_1197 rfl rfl ?_
  refine v_iconst (pc' := 1200) dL_law_1199 kc_1 rfl ?_
  refine v_iadd (pc' := 1201) dL_law_1200 rfl ?_
  refine v_sld (j := i + 1) (pc' := 1202) dL_law_1201 (nI_add i 1) (by omega) hN rfl ?_
  refine v_aload_n (pc' := 1203) dL_law_1202 rfl rfl ?_
  refine v_iload (pc' := 1205) dL_law_1203 rfl rfl ?_
  refine v_iconst (pc' := 1206) dL_law_1205 kc_2 rfl ?_
  refine v_iadd (pc' := 1207) dL_law_1206 rfl ?_
  refine v_sld (j := i + 2) (pc' := 1208) dL_law_1207 (nI_add i 2) (by omega) hN rfl ?_
  refine v_aload_n (pc' := 1209) dL_law_1208 rfl rfl ?_
  refine v_iload (pc' := 1211) dL_law_1209 rfl rfl ?_
  refine v_iconst (pc' := 1212) dL_law_1211 kc_3 rfl ?_
  refine v_iadd (pc' := 1213) dL_law_1212 rfl ?_
  refine v_sld (j := i + 3) (pc' := 1214) dL_law_1213 (nI_add i 3) (by omega) hN rfl ?_
  refine v_aload_n (pc' := 1215) dL_law_1214 rfl rfl ?_
  refine v_callSW (na := 5) (pc' := 1218) (w_coming hl hK hA ho (by omega) (E.2.2.2.2.2.2 (i + 1)) (E.2.2.2.2.2.2 (i + 2)) (E.2.2.2.2.2.2 (i + 3))) dL_law_1215 lk_L_165 mwwL_coming mwcL_coming (by decide +kernel) msL_coming rfl rfl (by decide) ⟨by omega, by omega⟩ (Nat.le_of_ble_eq_true rfl) rfl ?_
  rintro _ _ I1 s1 ⟨rfl, rfl, hs1, ho1, hA1, hW1⟩
  have he3 : (e_coming S.1 (E.2.2.2.2.2.2 (i + 1)) (E.2.2.2.2.2.2 (i + 2)) (E.2.2.2.2.2.2 (i + 3))) < 3 := by unfold e_coming; split <;> (try split) <;> omega
  have hM1 : AbsM I1 d S := hM.cg (by rw [hW1 d (by omega) (by omega)]) (by rw [hW1 d (by omega) (by omega)]) (fun q q1 q2 q3 => hW1 q (by omega) (by omega))
  generalize hke : (e_coming S.1 (E.2.2.2.2.2.2 (i + 1)) (E.2.2.2.2.2.2 (i + 2)) (E.2.2.2.2.2.2 (i + 3))) = ke at he3 ho1 hA1
  show z_V _ _ _ _ _ _ _ _ _ _ _ _ _ _ [.int (nI ke)]
  refine v_istore5 (pc' := 1220) dL_law_1218 (by decide) rfl rfl ?_
  refine v_aload_n (pc' := 1221) dL_law_1220 rfl rfl ?_
  refine v_aload_n (pc' := 1222) dL_law_1221 rfl rfl ?_
  refine v_iload (pc' := 1224) dL_law_1222 rfl rfl ?_
  refine v_iconst (pc' := 1225) dL_law_1224 kc_1 rfl ?_
  refine v_iadd (pc' := 1226) dL_law_1225 rfl ?_
  refine v_sld (j := i + 1) (pc' := 1227) dL_law_1226 (nI_add i 1) (by omega) hN rfl ?_
  refine v_aload_n (pc' := 1228) dL_law_1227 rfl rfl ?_
  refine v_iload (pc' := 1230) dL_law_1228 rfl rfl ?_
  refine v_iconst (pc' := 1231) dL_law_1230 kc_2 rfl ?_
  refine v_iadd (pc' := 1232) dL_law_1231 rfl ?_
  refine v_sld (j := i + 2) (pc' := 1233) dL_law_1232 (nI_add i 2) (by omega) hN rfl ?_
  refine v_aload_n (pc' := 1234) dL_law_1233 rfl rfl ?_
  refine v_iload (pc' := 1236) dL_law_1234 rfl rfl ?_
  refine v_iconst (pc' := 1237) dL_law_1236 kc_3 rfl ?_
  refine v_iadd (pc' := 1238) dL_law_1237 rfl ?_
  refine v_sld (j := i + 3) (pc' := 1239) dL_law_1238 (nI_add i 3) (by omega) hN rfl ?_
  refine v_cVI (pc' := 1242) (hk9 := by omega) (hn9 := by omega) (m_coming hl hD hM1 (E.2.2.2.2.2.2 (i + 1)) (E.2.2.2.2.2.2 (i + 2)) (E.2.2.2.2.2.2 (i + 3))) dL_law_1239 lk_L_168 mwX5_coming miX5_coming hD.1 rfl rfl rfl rfl (by decide) (Nat.le_of_ble_eq_true rfl) rfl ?_
  rintro y9 I2 ⟨r2, v2, hM2, hF2⟩
  rw [hke] at r2 v2 hM2
  have hA2 : AbsK I2 c (if ke = 0 then S else S) := hA1.out (fun q q1 q2 => hF2 q (by omega))
  refine v_istore6 (pc' := 1244) dL_law_1242 (by decide) rfl rfl ?_
  refine v_aload_n (pc' := 1245) dL_law_1244 rfl rfl ?_
  refine v_cVR (pc' := 1248) (hk9 := by omega) (hn9 := by omega) (c5_thrown hl hD.1) dL_law_1245 lk_L_100 mwX5_thrown miX5_thrown hD.1 rfl rfl rfl rfl (by decide) (Nat.le_of_ble_eq_true rfl) rfl ?_
  rw [r2]
  refine v_iload (pc' := 1250) dL_law_1248 rfl rfl ?_
  refine v_icmp_eq (tgt := 1255) (pc' := 1253) dL_law_1250 (by decide) rfl (fun c_1250 => ?_) (fun c_1250 => ?_)
  · refine v_iload (pc' := 1257) dL_law_1255 rfl rfl ?_
    refine v_if_ne (tgt := 1272) (pc' := 1260) dL_law_1257 (by decide) rfl (fun c_1257 => ?_) (fun c_1257 => ?_)
    · refine v_goto (tgt := 1643) dL_law_1272 (by decide) ?_
      exact cont _ I2 s1 _ _ rfl rfl hA2 hM2
    · have hz : ke = 0 := by
        rcases Nat.eq_zero_or_pos ke with q | q
        · exact q
        · exact absurd c_1257 (nI_ne0i he3 (by omega))
      refine v_aload_n (pc' := 1261) dL_law_1260 rfl rfl ?_
      refine v_iconst (pc' := 1262) dL_law_1261 kc_0 rfl ?_
      refine v_lald (pc' := 1263) dL_law_1262 (0) rfl ho (by decide) (by decide) rfl ?_
      refine v_iload (pc' := 1265) dL_law_1263 rfl rfl ?_
      refine v_i2l (pc' := 1266) dL_law_1265 rfl ?_
      refine v_lcmp (pc' := 1267) dL_law_1266 rfl ?_
      rw [hF2 o (by omega), ho1 hz, v2 hz, lg_same]
      refine v_if_eq (tgt := 1272) (pc' := 1270) dL_law_1267 (by decide) rfl (fun c_1267 => ?_) (fun c_1267 => ?_)
      · refine v_goto (tgt := 1643) dL_law_1272 (by decide) ?_
        exact cont _ I2 s1 _ _ rfl rfl hA2 hM2
      · exact absurd rfl c_1267
  · exact absurd rfl c_1250
set_option maxRecDepth 20000 in
set_option maxHeartbeats 4000000 in
theorem law_21 (hl : l.stackTraces = false) (hK : ShK E G c) (hD : ShM E G d) (hd : d = c + 187) (hoo : o = c + 194) (ho : (o, sJ E 1) ∈ G) (hA : AbsK I c S) (hM : AbsM I d S) (i : Nat) (hi : i + 3 < E.2.2.2.2.2.1) (hN : E.2.2.2.2.2.1 < 2 ^ 31) (hkk : kk + 1 ≤ 20000) (hnn : nn + 6 ≤ 200000) (o5 o6 : Option Value) (h5 : z_c1 o5 = true) (h6 : z_c1 o6 = true) (cont : ∀ (S1 : zS) (I1 : zI) (s1 : Nat) (p5 p6 : Option Value), z_c1 p5 = true → z_c1 p6 = true → AbsK I1 c S1 → AbsM I1 d S1 → z_V E l (mL_law nm hh) (z_rm 10 20000 200000) 20000 200000 Q_law (kk + 1) (nn + 6) G I1 s1 1643 [some (.ref E.2.2.2.2.1), some (.ref c), some (.ref d), some (.ref o), some (.int (nI i)), p5, p6] []) : z_V E l (mL_law nm hh) (z_rm 10 20000 200000) 20000 200000 Q_law (kk) (nn) G I sz 1275 [some (.ref E.2.2.2.2.1), some (.ref c), some (.ref d), some (.ref o), some (.int (nI i)), o5, o6] [] := by
  refine v_aload_n (pc' := 1276) dL_law_1275 rfl rfl ?_
  refine v_aload_n (pc' := 1277) dL_law_1276 rfl rfl ?_
  refine v_iload (pc' := 1279) dL_law_1277 rfl rfl ?_
  refine v_iconst (pc' := 1280) dL_law_1279 kc_1 rfl ?_
  refine v_iadd (pc' := 1281) dL_law_1280 rfl ?_
  refine v_sld (j := i + 1) (pc' := 1282) dL_law_1281 (nI_add i 1) (by omega) hN rfl ?_
  refine v_aload_n (pc' := 1283) dL_law_1282 rfl rfl ?_
  refine v_callSW (na := 3) (pc' := 1286) (w_lost hl hK hA ho (by omega) (E.2.2.2.2.2.2 (i + 1))) dL_law_1283 lk_L_169 mwwL_lost mwcL_lost (by decide +kernel) msL_lost rfl rfl (by decide) ⟨by omega, by omega⟩ (Nat.le_of_ble_eq_true rfl) rfl ?_
  rintro _ _ I1 s1 ⟨rfl, rfl, hs1, ho1, hA1, hW1⟩
  have he3 : (e_strp (E.2.2.2.2.2.2 (i + 1))) < 3 := by unfold e_strp; split <;> (try split) <;> omega
  have hM1 : AbsM I1 d S := hM.cg (by rw [hW1 d (by omega) (by omega)]) (by rw [hW1 d (by omega) (by omega)]) (fun q q1 q2 q3 => hW1 q (by omega) (by omega))
  generalize hke : (e_strp (E.2.2.2.2.2.2 (i + 1))) = ke at he3 ho1 hA1
  show z_V _ _ _ _ _ _ _ _ _ _ _ _ _ _ [.int (nI ke)]
  refine v_istore5 (pc' := 1288) dL_law_1286 (by decide) rfl rfl ?_
  refine v_aload_n (pc' := 1289) dL_law_1288 rfl rfl ?_
  refine v_aload_n (pc' := 1290) dL_law_1289 rfl rfl ?_
  refine v_iload (pc' := 1292) dL_law_1290 rfl rfl ?_
  refine v_iconst (pc' := 1293) dL_law_1292 kc_1 rfl ?_
  refine v_iadd (pc' := 1294) dL_law_1293 rfl ?_
  refine v_sld (j := i + 1) (pc' := 1295) dL_law_1294 (nI_add i 1) (by omega) hN rfl ?_
  refine v_cVI (pc' := 1298) (hk9 := by omega) (hn9 := by omega) (m_lost hl hD hM1 (E.2.2.2.2.2.2 (i + 1))) dL_law_1295 lk_L_171 mwX5_lost miX5_lost hD.1 rfl rfl rfl rfl (by decide) (Nat.le_of_ble_eq_true rfl) rfl ?_
  rintro y9 I2 ⟨r2, v2, hM2, hF2⟩
  rw [hke] at r2 v2 hM2
  have hA2 : AbsK I2 c (if ke = 0 then S else S) := hA1.out (fun q q1 q2 => hF2 q (by omega))
  refine v_istore6 (pc' := 1300) dL_law_1298 (by decide) rfl rfl ?_
  refine v_aload_n (pc' := 1301) dL_law_1300 rfl rfl ?_
  refine v_cVR (pc' := 1304) (hk9 := by omega) (hn9 := by omega) (c5_thrown hl hD.1) dL_law_1301 lk_L_100 mwX5_thrown miX5_thrown hD.1 rfl rfl rfl rfl (by decide) (Nat.le_of_ble_eq_true rfl) rfl ?_
  rw [r2]
  refine v_iload (pc' := 1306) dL_law_1304 rfl rfl ?_
  refine v_icmp_eq (tgt := 1311) (pc' := 1309) dL_law_1306 (by decide) rfl (fun c_1306 => ?_) (fun c_1306 => ?_)
  · refine v_iload (pc' := 1313) dL_law_1311 rfl rfl ?_
    refine v_if_ne (tgt := 1328) (pc' := 1316) dL_law_1313 (by decide) rfl (fun c_1313 => ?_) (fun c_1313 => ?_)
    · refine v_goto (tgt := 1643) dL_law_1328 (by decide) ?_
      exact cont _ I2 s1 _ _ rfl rfl hA2 hM2
    · have hz : ke = 0 := by
        rcases Nat.eq_zero_or_pos ke with q | q
        · exact q
        · exact absurd c_1313 (nI_ne0i he3 (by omega))
      refine v_aload_n (pc' := 1317) dL_law_1316 rfl rfl ?_
      refine v_iconst (pc' := 1318) dL_law_1317 kc_0 rfl ?_
      refine v_lald (pc' := 1319) dL_law_1318 (0) rfl ho (by decide) (by decide) rfl ?_
      refine v_iload (pc' := 1321) dL_law_1319 rfl rfl ?_
      refine v_i2l (pc' := 1322) dL_law_1321 rfl ?_
      refine v_lcmp (pc' := 1323) dL_law_1322 rfl ?_
      rw [hF2 o (by omega), ho1 hz, v2 hz, lg_same]
      refine v_if_eq (tgt := 1328) (pc' := 1326) dL_law_1323 (by decide) rfl (fun c_1323 => ?_) (fun c_1323 => ?_)
      · refine v_goto (tgt := 1643) dL_law_1328 (by decide) ?_
        exact cont _ I2 s1 _ _ rfl rfl hA2 hM2
      · exact absurd rfl c_1323
  · exact absurd rfl c_1306
set_option maxRecDepth 20000 in
set_option maxHeartbeats 4000000 in
theorem law_24 (hl : l.stackTraces = false) (hK : ShK E G c) (hD : ShM E G d) (hd : d = c + 187) (hoo : o = c + 194) (ho : (o, sJ E 1) ∈ G) (hA : AbsK I c S) (hM : AbsM I d S) (i : Nat) (hi : i + 3 < E.2.2.2.2.2.1) (hN : E.2.2.2.2.2.1 < 2 ^ 31) (hkk : kk + 1 ≤ 20000) (hnn : nn + 6 ≤ 200000) (o5 o6 : Option Value) (h5 : z_c1 o5 = true) (h6 : z_c1 o6 = true) (cont : ∀ (S1 : zS) (I1 : zI) (s1 : Nat) (p5 p6 : Option Value), z_c1 p5 = true → z_c1 p6 = true → AbsK I1 c S1 → AbsM I1 d S1 → z_V E l (mL_law nm hh) (z_rm 10 20000 200000) 20000 200000 Q_law (kk + 1) (nn + 6) G I1 s1 1643 [some (.ref E.2.2.2.2.1), some (.ref c), some (.ref d), some (.ref o), some (.int (nI i)), p5, p6] []) : z_V E l (mL_law nm hh) (z_rm 10 20000 200000) 20000 200000 Q_law (kk) (nn) G I sz 1531 [some (.ref E.2.2.2.2.1), some (.ref c), some (.ref d), some (.ref o), some (.int (nI i)), o5, o6] [] := by
  refine v_aload_n (pc' := 1532) dL_law_1531 rfl rfl ?_
  refine v_aload_n (pc' := 1533) dL_law_1532 rfl rfl ?_
  refine v_iload (pc' := 1535) dL_law_1533 rfl rfl ?_
  refine v_iconst (pc' := 1536) dL_law_1535 kc_1 rfl ?_
  refine v_iadd (pc' := 1537) dL_law_1536 rfl ?_
  refine v_sld (j := i + 1) (pc' := 1538) dL_law_1537 (nI_add i 1) (by omega) hN rfl ?_
  refine v_aload_n (pc' := 1539) dL_law_1538 rfl rfl ?_
  refine v_callSW (na := 3) (pc' := 1542) (w_save hl hK hA ho (by omega) (E.2.2.2.2.2.2 (i + 1))) dL_law_1539 lk_L_182 mwwL_save mwcL_save (by decide +kernel) msL_save rfl rfl (by decide) ⟨by omega, by omega⟩ (Nat.le_of_ble_eq_true rfl) rfl ?_
  rintro _ _ I1 s1 ⟨rfl, rfl, hs1, ho1, hA1, hW1⟩
  have he3 : (e_slot (E.2.2.2.2.2.2 (i + 1))) < 3 := by unfold e_slot; split <;> (try split) <;> omega
  have hM1 : AbsM I1 d S := hM.cg (by rw [hW1 d (by omega) (by omega)]) (by rw [hW1 d (by omega) (by omega)]) (fun q q1 q2 q3 => hW1 q (by omega) (by omega))
  generalize hke : (e_slot (E.2.2.2.2.2.2 (i + 1))) = ke at he3 ho1 hA1
  show z_V _ _ _ _ _ _ _ _ _ _ _ _ _ _ [.int (nI ke)]
  refine v_istore5 (pc' := 1544) dL_law_1542 (by decide) rfl rfl ?_
  refine v_aload_n (pc' := 1545) dL_law_1544 rfl rfl ?_
  refine v_aload_n (pc' := 1546) dL_law_1545 rfl rfl ?_
  refine v_iload (pc' := 1548) dL_law_1546 rfl rfl ?_
  refine v_iconst (pc' := 1549) dL_law_1548 kc_1 rfl ?_
  refine v_iadd (pc' := 1550) dL_law_1549 rfl ?_
  refine v_sld (j := i + 1) (pc' := 1551) dL_law_1550 (nI_add i 1) (by omega) hN rfl ?_
  refine v_cVI (pc' := 1554) (hk9 := by omega) (hn9 := by omega) (m_save hl hD hM1 (E.2.2.2.2.2.2 (i + 1))) dL_law_1551 lk_L_184 mwX5_save miX5_save hD.1 rfl rfl rfl rfl (by decide) (Nat.le_of_ble_eq_true rfl) rfl ?_
  rintro y9 I2 ⟨r2, v2, hM2, hF2⟩
  rw [hke] at r2 v2 hM2
  have hA2 : AbsK I2 c (if ke = 0 then s_save S (E.2.2.2.2.2.2 (i + 1)) else S) := hA1.out (fun q q1 q2 => hF2 q (by omega))
  refine v_istore6 (pc' := 1556) dL_law_1554 (by decide) rfl rfl ?_
  refine v_aload_n (pc' := 1557) dL_law_1556 rfl rfl ?_
  refine v_cVR (pc' := 1560) (hk9 := by omega) (hn9 := by omega) (c5_thrown hl hD.1) dL_law_1557 lk_L_100 mwX5_thrown miX5_thrown hD.1 rfl rfl rfl rfl (by decide) (Nat.le_of_ble_eq_true rfl) rfl ?_
  rw [r2]
  refine v_iload (pc' := 1562) dL_law_1560 rfl rfl ?_
  refine v_icmp_eq (tgt := 1567) (pc' := 1565) dL_law_1562 (by decide) rfl (fun c_1562 => ?_) (fun c_1562 => ?_)
  · refine v_iload (pc' := 1569) dL_law_1567 rfl rfl ?_
    refine v_if_ne (tgt := 1584) (pc' := 1572) dL_law_1569 (by decide) rfl (fun c_1569 => ?_) (fun c_1569 => ?_)
    · refine v_goto (tgt := 1643) dL_law_1584 (by decide) ?_
      exact cont _ I2 s1 _ _ rfl rfl hA2 hM2
    · have hz : ke = 0 := by
        rcases Nat.eq_zero_or_pos ke with q | q
        · exact q
        · exact absurd c_1569 (nI_ne0i he3 (by omega))
      refine v_aload_n (pc' := 1573) dL_law_1572 rfl rfl ?_
      refine v_iconst (pc' := 1574) dL_law_1573 kc_0 rfl ?_
      refine v_lald (pc' := 1575) dL_law_1574 (0) rfl ho (by decide) (by decide) rfl ?_
      refine v_iload (pc' := 1577) dL_law_1575 rfl rfl ?_
      refine v_i2l (pc' := 1578) dL_law_1577 rfl ?_
      refine v_lcmp (pc' := 1579) dL_law_1578 rfl ?_
      rw [hF2 o (by omega), ho1 hz, v2 hz, lg_same]
      refine v_if_eq (tgt := 1584) (pc' := 1582) dL_law_1579 (by decide) rfl (fun c_1579 => ?_) (fun c_1579 => ?_)
      · refine v_goto (tgt := 1643) dL_law_1584 (by decide) ?_
        exact cont _ I2 s1 _ _ rfl rfl hA2 hM2
      · exact absurd rfl c_1579
  · exact absurd rfl c_1562
set_option maxRecDepth 20000 in
set_option maxHeartbeats 4000000 in
theorem law_25 (hl : l.stackTraces = false) (hK : ShK E G c) (hD : ShM E G d) (hd : d = c + 187) (hoo : o = c + 194) (ho : (o, sJ E 1) ∈ G) (hA : AbsK I c S) (hM : AbsM I d S) (i : Nat) (hi : i + 3 < E.2.2.2.2.2.1) (hN : E.2.2.2.2.2.1 < 2 ^ 31) (hkk : kk + 1 ≤ 20000) (hnn : nn + 6 ≤ 200000) (o5 o6 : Option Value) (h5 : z_c1 o5 = true) (h6 : z_c1 o6 = true) (cont : ∀ (S1 : zS) (I1 : zI) (s1 : Nat) (p5 p6 : Option Value), z_c1 p5 = true → z_c1 p6 = true → AbsK I1 c S1 → AbsM I1 d S1 → z_V E l (mL_law nm hh) (z_rm 10 20000 200000) 20000 200000 Q_law (kk + 1) (nn + 6) G I1 s1 1643 [some (.ref E.2.2.2.2.1), some (.ref c), some (.ref d), some (.ref o), some (.int (nI i)), p5, p6] []) : z_V E l (mL_law nm hh) (z_rm 10 20000 200000) 20000 200000 Q_law (kk) (nn) G I sz 1587 [some (.ref E.2.2.2.2.1), some (.ref c), some (.ref d), some (.ref o), some (.int (nI i)), o5, o6] [] := by
  refine v_aload_n (pc' := 1588) dL_law_1587 rfl rfl ?_
  refine v_aload_n (pc' := 1589) dL_law_1588 rfl rfl ?_
  refine v_iload (pc' := 1591) dL_law_1589 rfl rfl ?_
  refine v_iconst (pc' := 1592) dL_law_1591 kc_1 rfl ?_
  refine v_iadd (pc' := 1593) dL_law_1592 rfl ?_
  refine v_sld (j := i + 1) (pc' := 1594) dL_law_1593 (nI_add i 1) (by omega) hN rfl ?_
  refine v_aload_n (pc' := 1595) dL_law_1594 rfl rfl ?_
  refine v_callSW (na := 3) (pc' := 1598) (w_restore hl hK hA ho (by omega) (E.2.2.2.2.2.2 (i + 1))) dL_law_1595 lk_L_185 mwwL_restore mwcL_restore (by decide +kernel) msL_restore rfl rfl (by decide) ⟨by omega, by omega⟩ (Nat.le_of_ble_eq_true rfl) rfl ?_
  rintro _ _ I1 s1 ⟨rfl, rfl, hs1, ho1, hA1, hW1⟩
  have he3 : (e_rest S (E.2.2.2.2.2.2 (i + 1))) < 3 := by unfold e_rest; split <;> (try split) <;> omega
  have hM1 : AbsM I1 d S := hM.cg (by rw [hW1 d (by omega) (by omega)]) (by rw [hW1 d (by omega) (by omega)]) (fun q q1 q2 q3 => hW1 q (by omega) (by omega))
  generalize hke : (e_rest S (E.2.2.2.2.2.2 (i + 1))) = ke at he3 ho1 hA1
  show z_V _ _ _ _ _ _ _ _ _ _ _ _ _ _ [.int (nI ke)]
  refine v_istore5 (pc' := 1600) dL_law_1598 (by decide) rfl rfl ?_
  refine v_aload_n (pc' := 1601) dL_law_1600 rfl rfl ?_
  refine v_aload_n (pc' := 1602) dL_law_1601 rfl rfl ?_
  refine v_iload (pc' := 1604) dL_law_1602 rfl rfl ?_
  refine v_iconst (pc' := 1605) dL_law_1604 kc_1 rfl ?_
  refine v_iadd (pc' := 1606) dL_law_1605 rfl ?_
  refine v_sld (j := i + 1) (pc' := 1607) dL_law_1606 (nI_add i 1) (by omega) hN rfl ?_
  refine v_cVI (pc' := 1610) (hk9 := by omega) (hn9 := by omega) (m_restore hl hD hM1 (E.2.2.2.2.2.2 (i + 1))) dL_law_1607 lk_L_187 mwX5_restore miX5_restore hD.1 rfl rfl rfl rfl (by decide) (Nat.le_of_ble_eq_true rfl) rfl ?_
  rintro y9 I2 ⟨r2, v2, hM2, hF2⟩
  rw [hke] at r2 v2 hM2
  have hA2 : AbsK I2 c (if ke = 0 then s_rest S (E.2.2.2.2.2.2 (i + 1)) else S) := hA1.out (fun q q1 q2 => hF2 q (by omega))
  refine v_istore6 (pc' := 1612) dL_law_1610 (by decide) rfl rfl ?_
  refine v_aload_n (pc' := 1613) dL_law_1612 rfl rfl ?_
  refine v_cVR (pc' := 1616) (hk9 := by omega) (hn9 := by omega) (c5_thrown hl hD.1) dL_law_1613 lk_L_100 mwX5_thrown miX5_thrown hD.1 rfl rfl rfl rfl (by decide) (Nat.le_of_ble_eq_true rfl) rfl ?_
  rw [r2]
  refine v_iload (pc' := 1618) dL_law_1616 rfl rfl ?_
  refine v_icmp_eq (tgt := 1623) (pc' := 1621) dL_law_1618 (by decide) rfl (fun c_1618 => ?_) (fun c_1618 => ?_)
  · refine v_iload (pc' := 1625) dL_law_1623 rfl rfl ?_
    refine v_if_ne (tgt := 1640) (pc' := 1628) dL_law_1625 (by decide) rfl (fun c_1625 => ?_) (fun c_1625 => ?_)
    · refine v_goto (tgt := 1643) dL_law_1640 (by decide) ?_
      exact cont _ I2 s1 _ _ rfl rfl hA2 hM2
    · have hz : ke = 0 := by
        rcases Nat.eq_zero_or_pos ke with q | q
        · exact q
        · exact absurd c_1625 (nI_ne0i he3 (by omega))
      refine v_aload_n (pc' := 1629) dL_law_1628 rfl rfl ?_
      refine v_iconst (pc' := 1630) dL_law_1629 kc_0 rfl ?_
      refine v_lald (pc' := 1631) dL_law_1630 (0) rfl ho (by decide) (by decide) rfl ?_
      refine v_iload (pc' := 1633) dL_law_1631 rfl rfl ?_
      refine v_i2l (pc' := 1634) dL_law_1633 rfl ?_
      refine v_lcmp (pc' := 1635) dL_law_1634 rfl ?_
      rw [hF2 o (by omega), ho1 hz, v2 hz, lg_same]
      refine v_if_eq (tgt := 1640) (pc' := 1638) dL_law_1635 (by decide) rfl (fun c_1635 => ?_) (fun c_1635 => ?_)
      · refine v_goto (tgt := 1643) dL_law_1640 (by decide) ?_
        exact cont _ I2 s1 _ _ rfl rfl hA2 hM2
      · exact absurd rfl c_1635
  · exact absurd rfl c_1618
set_option maxRecDepth 20000 in
set_option maxHeartbeats 4000000 in
theorem law_22 (hl : l.stackTraces = false) (hK : ShK E G c) (hD : ShM E G d) (hd : d = c + 187) (hoo : o = c + 194) (ho : (o, sJ E 1) ∈ G) (hA : AbsK I c S) (hM : AbsM I d S) (i : Nat) (hi : i + 3 < E.2.2.2.2.2.1) (hN : E.2.2.2.2.2.1 < 2 ^ 31) (hkk : kk + 1 ≤ 20000) (hnn : nn + 6 ≤ 200000) (o5 o6 : Option Value) (h5 : z_c1 o5 = true) (h6 : z_c1 o6 = true) (cont : ∀ (S1 : zS) (I1 : zI) (s1 : Nat) (p5 p6 : Option Value), z_c1 p5 = true → z_c1 p6 = true → AbsK I1 c S1 → AbsM I1 d S1 → z_V E l (mL_law nm hh) (z_rm 10 20000 200000) 20000 200000 Q_law (kk + 1) (nn + 6) G I1 s1 1643 [some (.ref E.2.2.2.2.1), some (.ref c), some (.ref d), some (.ref o), some (.int (nI i)), p5, p6] []) : z_V E l (mL_law nm hh) (z_rm 10 20000 200000) 20000 200000 Q_law (kk) (nn) G I sz 1331 [some (.ref E.2.2.2.2.1), some (.ref c), some (.ref d), some (.ref o), some (.int (nI i)), o5, o6] [] := by
  refine v_aload_n (pc' := 1332) dL_law_1331 rfl rfl ?_
  refine v_aload_n (pc' := 1333) dL_law_1332 rfl rfl ?_
  refine v_iload (pc' := 1335) dL_law_1333 rfl rfl ?_
  refine v_iconst (pc' := 1336) dL_law_1335 kc_1 rfl ?_
  refine v_iadd (pc' := 1337) dL_law_1336 rfl ?_
  refine v_sld (j := i + 1) (pc' := 1338) dL_law_1337 (nI_add i 1) (by omega) hN rfl ?_
  refine v_aload_n (pc' := 1339) dL_law_1338 rfl rfl ?_
  refine v_iload (pc' := 1341) dL_law_1339 rfl rfl ?_
  refine v_iconst (pc' := 1342) dL_law_1341 kc_2 rfl ?_
  refine v_iadd (pc' := 1343) dL_law_1342 rfl ?_
  refine v_sld (j := i + 2) (pc' := 1344) dL_law_1343 (nI_add i 2) (by omega) hN rfl ?_
  refine v_i2l (pc' := 1345) dL_law_1344 rfl ?_
  refine v_bipush (pc' := 1347) dL_law_1345 kb_32 rfl ?_
  refine v_lshl (pc' := 1348) dL_law_1347 rfl ?_
  refine v_aload_n (pc' := 1349) dL_law_1348 rfl rfl ?_
  refine v_iload (pc' := 1351) dL_law_1349 rfl rfl ?_
  refine v_iconst (pc' := 1352) dL_law_1351 kc_3 rfl ?_
  refine v_iadd (pc' := 1353) dL_law_1352 rfl ?_
  refine v_sld (j := i + 3) (pc' := 1354) dL_law_1353 (nI_add i 3) (by omega) hN rfl ?_
  refine v_i2l (pc' := 1355) dL_law_1354 rfl ?_
  refine v_ldc2 (pc' := 1358) dL_law_1355 cn_L_172 rfl ?_
  refine v_land (pc' := 1359) dL_law_1358 rfl ?_
  refine v_lor (pc' := 1360) dL_law_1359 rfl ?_
  rw [show ((E.2.2.2.2.2.2 (i + 2)).toInt64 <<< ((32 : Int32).toInt64 &&& 63) ||| ((E.2.2.2.2.2.2 (i + 3)).toInt64 &&& 4294967295) : Int64) = lg2 (E.2.2.2.2.2.2 (i + 2)) (E.2.2.2.2.2.2 (i + 3)) from rfl]
  refine v_aload_n (pc' := 1361) dL_law_1360 rfl rfl ?_
  refine v_callSW (na := 4) (pc' := 1364) (w_runScript hl hK hA ho (by omega) (E.2.2.2.2.2.2 (i + 1)) (lg2 (E.2.2.2.2.2.2 (i + 2)) (E.2.2.2.2.2.2 (i + 3)))) dL_law_1361 lk_L_174 mwwL_runScript mwcL_runScript (by decide +kernel) msL_runScript rfl rfl (by decide) ⟨by omega, by omega⟩ (Nat.le_of_ble_eq_true rfl) rfl ?_
  rintro _ _ I1 s1 ⟨rfl, rfl, hs1, ho1, hA1, hW1⟩
  have he3 : (e_script (E.2.2.2.2.2.2 (i + 1)) (lg2 (E.2.2.2.2.2.2 (i + 2)) (E.2.2.2.2.2.2 (i + 3)))) < 3 := by unfold e_script; split <;> (try split) <;> omega
  have hM1 : AbsM I1 d S := hM.cg (by rw [hW1 d (by omega) (by omega)]) (by rw [hW1 d (by omega) (by omega)]) (fun q q1 q2 q3 => hW1 q (by omega) (by omega))
  generalize hke : (e_script (E.2.2.2.2.2.2 (i + 1)) (lg2 (E.2.2.2.2.2.2 (i + 2)) (E.2.2.2.2.2.2 (i + 3)))) = ke at he3 ho1 hA1
  show z_V _ _ _ _ _ _ _ _ _ _ _ _ _ _ [.int (nI ke)]
  refine v_istore5 (pc' := 1366) dL_law_1364 (by decide) rfl rfl ?_
  refine v_aload_n (pc' := 1367) dL_law_1366 rfl rfl ?_
  refine v_aload_n (pc' := 1368) dL_law_1367 rfl rfl ?_
  refine v_iload (pc' := 1370) dL_law_1368 rfl rfl ?_
  refine v_iconst (pc' := 1371) dL_law_1370 kc_1 rfl ?_
  refine v_iadd (pc' := 1372) dL_law_1371 rfl ?_
  refine v_sld (j := i + 1) (pc' := 1373) dL_law_1372 (nI_add i 1) (by omega) hN rfl ?_
  refine v_aload_n (pc' := 1374) dL_law_1373 rfl rfl ?_
  refine v_iload (pc' := 1376) dL_law_1374 rfl rfl ?_
  refine v_iconst (pc' := 1377) dL_law_1376 kc_2 rfl ?_
  refine v_iadd (pc' := 1378) dL_law_1377 rfl ?_
  refine v_sld (j := i + 2) (pc' := 1379) dL_law_1378 (nI_add i 2) (by omega) hN rfl ?_
  refine v_i2l (pc' := 1380) dL_law_1379 rfl ?_
  refine v_bipush (pc' := 1382) dL_law_1380 kb_32 rfl ?_
  refine v_lshl (pc' := 1383) dL_law_1382 rfl ?_
  refine v_aload_n (pc' := 1384) dL_law_1383 rfl rfl ?_
  refine v_iload (pc' := 1386) dL_law_1384 rfl rfl ?_
  refine v_iconst (pc' := 1387) dL_law_1386 kc_3 rfl ?_
  refine v_iadd (pc' := 1388) dL_law_1387 rfl ?_
  refine v_sld (j := i + 3) (pc' := 1389) dL_law_1388 (nI_add i 3) (by omega) hN rfl ?_
  refine v_i2l (pc' := 1390) dL_law_1389 rfl ?_
  refine v_ldc2 (pc' := 1393) dL_law_1390 cn_L_172 rfl ?_
  refine v_land (pc' := 1394) dL_law_1393 rfl ?_
  refine v_lor (pc' := 1395) dL_law_1394 rfl ?_
  rw [show ((E.2.2.2.2.2.2 (i + 2)).toInt64 <<< ((32 : Int32).toInt64 &&& 63) ||| ((E.2.2.2.2.2.2 (i + 3)).toInt64 &&& 4294967295) : Int64) = lg2 (E.2.2.2.2.2.2 (i + 2)) (E.2.2.2.2.2.2 (i + 3)) from rfl]
  refine v_cVI (pc' := 1398) (hk9 := by omega) (hn9 := by omega) (m_runScript hl hD hM1 (E.2.2.2.2.2.2 (i + 1)) (lg2 (E.2.2.2.2.2.2 (i + 2)) (E.2.2.2.2.2.2 (i + 3)))) dL_law_1395 lk_L_177 mwX5_runScript miX5_runScript hD.1 rfl rfl rfl rfl (by decide) (Nat.le_of_ble_eq_true rfl) rfl ?_
  rintro y9 I2 ⟨r2, v2, hM2, hF2⟩
  rw [hke] at r2 v2 hM2
  have hA2 : AbsK I2 c (if ke = 0 then S else S) := hA1.out (fun q q1 q2 => hF2 q (by omega))
  refine v_istore6 (pc' := 1400) dL_law_1398 (by decide) rfl rfl ?_
  refine v_aload_n (pc' := 1401) dL_law_1400 rfl rfl ?_
  refine v_cVR (pc' := 1404) (hk9 := by omega) (hn9 := by omega) (c5_thrown hl hD.1) dL_law_1401 lk_L_100 mwX5_thrown miX5_thrown hD.1 rfl rfl rfl rfl (by decide) (Nat.le_of_ble_eq_true rfl) rfl ?_
  rw [r2]
  refine v_iload (pc' := 1406) dL_law_1404 rfl rfl ?_
  refine v_icmp_eq (tgt := 1411) (pc' := 1409) dL_law_1406 (by decide) rfl (fun c_1406 => ?_) (fun c_1406 => ?_)
  · refine v_iload (pc' := 1413) dL_law_1411 rfl rfl ?_
    refine v_if_ne (tgt := 1428) (pc' := 1416) dL_law_1413 (by decide) rfl (fun c_1413 => ?_) (fun c_1413 => ?_)
    · refine v_goto (tgt := 1643) dL_law_1428 (by decide) ?_
      exact cont _ I2 s1 _ _ rfl rfl hA2 hM2
    · have hz : ke = 0 := by
        rcases Nat.eq_zero_or_pos ke with q | q
        · exact q
        · exact absurd c_1413 (nI_ne0i he3 (by omega))
      refine v_aload_n (pc' := 1417) dL_law_1416 rfl rfl ?_
      refine v_iconst (pc' := 1418) dL_law_1417 kc_0 rfl ?_
      refine v_lald (pc' := 1419) dL_law_1418 (0) rfl ho (by decide) (by decide) rfl ?_
      refine v_iload (pc' := 1421) dL_law_1419 rfl rfl ?_
      refine v_i2l (pc' := 1422) dL_law_1421 rfl ?_
      refine v_lcmp (pc' := 1423) dL_law_1422 rfl ?_
      rw [hF2 o (by omega), ho1 hz, v2 hz, lg_same]
      refine v_if_eq (tgt := 1428) (pc' := 1426) dL_law_1423 (by decide) rfl (fun c_1423 => ?_) (fun c_1423 => ?_)
      · refine v_goto (tgt := 1643) dL_law_1428 (by decide) ?_
        exact cont _ I2 s1 _ _ rfl rfl hA2 hM2
      · exact absurd rfl c_1423
  · exact absurd rfl c_1406
set_option maxRecDepth 20000 in
set_option maxHeartbeats 4000000 in
theorem law_23 (hl : l.stackTraces = false) (hK : ShK E G c) (hD : ShM E G d) (hd : d = c + 187) (hoo : o = c + 194) (ho : (o, sJ E 1) ∈ G) (hA : AbsK I c S) (hM : AbsM I d S) (i : Nat) (hi : i + 3 < E.2.2.2.2.2.1) (hN : E.2.2.2.2.2.1 < 2 ^ 31) (hkk : kk + 1 ≤ 20000) (hnn : nn + 6 ≤ 200000) (o5 o6 : Option Value) (h5 : z_c1 o5 = true) (h6 : z_c1 o6 = true) (cont : ∀ (S1 : zS) (I1 : zI) (s1 : Nat) (p5 p6 : Option Value), z_c1 p5 = true → z_c1 p6 = true → AbsK I1 c S1 → AbsM I1 d S1 → z_V E l (mL_law nm hh) (z_rm 10 20000 200000) 20000 200000 Q_law (kk + 1) (nn + 6) G I1 s1 1643 [some (.ref E.2.2.2.2.1), some (.ref c), some (.ref d), some (.ref o), some (.int (nI i)), p5, p6] []) : z_V E l (mL_law nm hh) (z_rm 10 20000 200000) 20000 200000 Q_law (kk) (nn) G I sz 1431 [some (.ref E.2.2.2.2.1), some (.ref c), some (.ref d), some (.ref o), some (.int (nI i)), o5, o6] [] := by
  refine v_aload_n (pc' := 1432) dL_law_1431 rfl rfl ?_
  refine v_aload_n (pc' := 1433) dL_law_1432 rfl rfl ?_
  refine v_iload (pc' := 1435) dL_law_1433 rfl rfl ?_
  refine v_iconst (pc' := 1436) dL_law_1435 kc_1 rfl ?_
  refine v_iadd (pc' := 1437) dL_law_1436 rfl ?_
  refine v_sld (j := i + 1) (pc' := 1438) dL_law_1437 (nI_add i 1) (by omega) hN rfl ?_
  refine v_i2l (pc' := 1439) dL_law_1438 rfl ?_
  refine v_bipush (pc' := 1441) dL_law_1439 kb_32 rfl ?_
  refine v_lshl (pc' := 1442) dL_law_1441 rfl ?_
  refine v_aload_n (pc' := 1443) dL_law_1442 rfl rfl ?_
  refine v_iload (pc' := 1445) dL_law_1443 rfl rfl ?_
  refine v_iconst (pc' := 1446) dL_law_1445 kc_2 rfl ?_
  refine v_iadd (pc' := 1447) dL_law_1446 rfl ?_
  refine v_sld (j := i + 2) (pc' := 1448) dL_law_1447 (nI_add i 2) (by omega) hN rfl ?_
  refine v_i2l (pc' := 1449) dL_law_1448 rfl ?_
  refine v_ldc2 (pc' := 1452) dL_law_1449 cn_L_172 rfl ?_
  refine v_land (pc' := 1453) dL_law_1452 rfl ?_
  refine v_lor (pc' := 1454) dL_law_1453 rfl ?_
  rw [show ((E.2.2.2.2.2.2 (i + 1)).toInt64 <<< ((32 : Int32).toInt64 &&& 63) ||| ((E.2.2.2.2.2.2 (i + 2)).toInt64 &&& 4294967295) : Int64) = lg2 (E.2.2.2.2.2.2 (i + 1)) (E.2.2.2.2.2.2 (i + 2)) from rfl]
  refine v_aload_n (pc' := 1455) dL_law_1454 rfl rfl ?_
  refine v_iload (pc' := 1457) dL_law_1455 rfl rfl ?_
  refine v_iconst (pc' := 1458) dL_law_1457 kc_3 rfl ?_
  refine v_iadd (pc' := 1459) dL_law_1458 rfl ?_
  refine v_sld (j := i + 3) (pc' := 1460) dL_law_1459 (nI_add i 3) (by omega) hN rfl ?_
  refine v_aload_n (pc' := 1461) dL_law_1460 rfl rfl ?_
  refine v_callSW (na := 4) (pc' := 1464) (w_simulate hl hK hA ho (by omega) (lg2 (E.2.2.2.2.2.2 (i + 1)) (E.2.2.2.2.2.2 (i + 2))) (E.2.2.2.2.2.2 (i + 3))) dL_law_1461 lk_L_178 mwwL_simulate mwcL_simulate (by decide +kernel) msL_simulate rfl rfl (by decide) ⟨by omega, by omega⟩ (Nat.le_of_ble_eq_true rfl) rfl ?_
  rintro _ _ I1 s1 ⟨rfl, rfl, hs1, ho1, hA1, hW1⟩
  have he3 : (e_sim (E.2.2.2.2.2.2 (i + 3))) < 3 := by unfold e_sim; split <;> (try split) <;> omega
  have hM1 : AbsM I1 d S := hM.cg (by rw [hW1 d (by omega) (by omega)]) (by rw [hW1 d (by omega) (by omega)]) (fun q q1 q2 q3 => hW1 q (by omega) (by omega))
  generalize hke : (e_sim (E.2.2.2.2.2.2 (i + 3))) = ke at he3 ho1 hA1
  show z_V _ _ _ _ _ _ _ _ _ _ _ _ _ _ [.int (nI ke)]
  refine v_istore5 (pc' := 1466) dL_law_1464 (by decide) rfl rfl ?_
  refine v_aload_n (pc' := 1467) dL_law_1466 rfl rfl ?_
  refine v_aload_n (pc' := 1468) dL_law_1467 rfl rfl ?_
  refine v_iload (pc' := 1470) dL_law_1468 rfl rfl ?_
  refine v_iconst (pc' := 1471) dL_law_1470 kc_1 rfl ?_
  refine v_iadd (pc' := 1472) dL_law_1471 rfl ?_
  refine v_sld (j := i + 1) (pc' := 1473) dL_law_1472 (nI_add i 1) (by omega) hN rfl ?_
  refine v_i2l (pc' := 1474) dL_law_1473 rfl ?_
  refine v_bipush (pc' := 1476) dL_law_1474 kb_32 rfl ?_
  refine v_lshl (pc' := 1477) dL_law_1476 rfl ?_
  refine v_aload_n (pc' := 1478) dL_law_1477 rfl rfl ?_
  refine v_iload (pc' := 1480) dL_law_1478 rfl rfl ?_
  refine v_iconst (pc' := 1481) dL_law_1480 kc_2 rfl ?_
  refine v_iadd (pc' := 1482) dL_law_1481 rfl ?_
  refine v_sld (j := i + 2) (pc' := 1483) dL_law_1482 (nI_add i 2) (by omega) hN rfl ?_
  refine v_i2l (pc' := 1484) dL_law_1483 rfl ?_
  refine v_ldc2 (pc' := 1487) dL_law_1484 cn_L_172 rfl ?_
  refine v_land (pc' := 1488) dL_law_1487 rfl ?_
  refine v_lor (pc' := 1489) dL_law_1488 rfl ?_
  rw [show ((E.2.2.2.2.2.2 (i + 1)).toInt64 <<< ((32 : Int32).toInt64 &&& 63) ||| ((E.2.2.2.2.2.2 (i + 2)).toInt64 &&& 4294967295) : Int64) = lg2 (E.2.2.2.2.2.2 (i + 1)) (E.2.2.2.2.2.2 (i + 2)) from rfl]
  refine v_aload_n (pc' := 1490) dL_law_1489 rfl rfl ?_
  refine v_iload (pc' := 1492) dL_law_1490 rfl rfl ?_
  refine v_iconst (pc' := 1493) dL_law_1492 kc_3 rfl ?_
  refine v_iadd (pc' := 1494) dL_law_1493 rfl ?_
  refine v_sld (j := i + 3) (pc' := 1495) dL_law_1494 (nI_add i 3) (by omega) hN rfl ?_
  refine v_cVI (pc' := 1498) (hk9 := by omega) (hn9 := by omega) (m_simulate hl hD hM1 (lg2 (E.2.2.2.2.2.2 (i + 1)) (E.2.2.2.2.2.2 (i + 2))) (E.2.2.2.2.2.2 (i + 3))) dL_law_1495 lk_L_181 mwX5_simulate miX5_simulate hD.1 rfl rfl rfl rfl (by decide) (Nat.le_of_ble_eq_true rfl) rfl ?_
  rintro y9 I2 ⟨r2, v2, hM2, hF2⟩
  rw [hke] at r2 v2 hM2
  have hA2 : AbsK I2 c (if ke = 0 then S else S) := hA1.out (fun q q1 q2 => hF2 q (by omega))
  refine v_istore6 (pc' := 1500) dL_law_1498 (by decide) rfl rfl ?_
  refine v_aload_n (pc' := 1501) dL_law_1500 rfl rfl ?_
  refine v_cVR (pc' := 1504) (hk9 := by omega) (hn9 := by omega) (c5_thrown hl hD.1) dL_law_1501 lk_L_100 mwX5_thrown miX5_thrown hD.1 rfl rfl rfl rfl (by decide) (Nat.le_of_ble_eq_true rfl) rfl ?_
  rw [r2]
  refine v_iload (pc' := 1506) dL_law_1504 rfl rfl ?_
  refine v_icmp_eq (tgt := 1511) (pc' := 1509) dL_law_1506 (by decide) rfl (fun c_1506 => ?_) (fun c_1506 => ?_)
  · refine v_iload (pc' := 1513) dL_law_1511 rfl rfl ?_
    refine v_if_ne (tgt := 1528) (pc' := 1516) dL_law_1513 (by decide) rfl (fun c_1513 => ?_) (fun c_1513 => ?_)
    · refine v_goto (tgt := 1643) dL_law_1528 (by decide) ?_
      exact cont _ I2 s1 _ _ rfl rfl hA2 hM2
    · have hz : ke = 0 := by
        rcases Nat.eq_zero_or_pos ke with q | q
        · exact q
        · exact absurd c_1513 (nI_ne0i he3 (by omega))
      refine v_aload_n (pc' := 1517) dL_law_1516 rfl rfl ?_
      refine v_iconst (pc' := 1518) dL_law_1517 kc_0 rfl ?_
      refine v_lald (pc' := 1519) dL_law_1518 (0) rfl ho (by decide) (by decide) rfl ?_
      refine v_iload (pc' := 1521) dL_law_1519 rfl rfl ?_
      refine v_i2l (pc' := 1522) dL_law_1521 rfl ?_
      refine v_lcmp (pc' := 1523) dL_law_1522 rfl ?_
      rw [hF2 o (by omega), ho1 hz, v2 hz, lg_same]
      refine v_if_eq (tgt := 1528) (pc' := 1526) dL_law_1523 (by decide) rfl (fun c_1523 => ?_) (fun c_1523 => ?_)
      · refine v_goto (tgt := 1643) dL_law_1528 (by decide) ?_
        exact cont _ I2 s1 _ _ rfl rfl hA2 hM2
      · exact absurd rfl c_1523
  · exact absurd rfl c_1506
set_option maxRecDepth 20000 in
set_option maxHeartbeats 4000000 in
theorem law_1 (hl : l.stackTraces = false) (hK : ShK E G c) (hD : ShM E G d) (hd : d = c + 187) (hoo : o = c + 194) (ho : (o, sJ E 1) ∈ G) (hA : AbsK I c S) (hM : AbsM I d S) (i : Nat) (hi : i + 3 < E.2.2.2.2.2.1) (hN : E.2.2.2.2.2.1 < 2 ^ 31) (hkk : kk + 1 ≤ 20000) (hnn : nn + 6 ≤ 200000) (o5 o6 : Option Value) (h5 : z_c1 o5 = true) (h6 : z_c1 o6 = true) (cont : ∀ (S1 : zS) (I1 : zI) (s1 : Nat) (p5 p6 : Option Value), z_c1 p5 = true → z_c1 p6 = true → AbsK I1 c S1 → AbsM I1 d S1 → z_V E l (mL_law nm hh) (z_rm 10 20000 200000) 20000 200000 Q_law (kk + 1) (nn + 6) G I1 s1 1643 [some (.ref E.2.2.2.2.1), some (.ref c), some (.ref d), some (.ref o), some (.int (nI i)), p5, p6] []) : z_V E l (mL_law nm hh) (z_rm 10 20000 200000) 20000 200000 Q_law (kk) (nn) G I sz 212 [some (.ref E.2.2.2.2.1), some (.ref c), some (.ref d), some (.ref o), some (.int (nI i)), o5, o6] [] := by
  refine v_aload_n (pc' := 213) dL_law_212 rfl rfl ?_
  refine v_callVX (pc' := 216) (k_clearText hl hK hA) dL_law_213 lk_L_103 mwX4_clearText miX4_clearText hK.1 rfl rfl rfl rfl (by decide) ⟨by omega, by omega⟩ (Nat.le_of_ble_eq_true rfl) rfl ?_ (fun X G' I' sz' q => by
    obtain ⟨-, -, q9, -⟩ := q
    cases q9)
  rintro _ _ I1 s1 ⟨rfl, hs1, -, y, rfl, rfl, hA1, hW1⟩
  have hM1 : AbsM I1 d S := hM.cg (by rw [hW1 d (by omega)]) (by rw [hW1 d (by omega)]) (fun q q1 q2 q3 => hW1 q (by omega))
  refine v_aload_n (pc' := 217) dL_law_216 rfl rfl ?_
  refine v_cVI (pc' := 220) (hk9 := by omega) (hn9 := by omega) (m_clearText hl hD hM1) dL_law_217 lk_L_106 mwX5_clearText miX5_clearText hD.1 rfl rfl rfl rfl (by decide) (Nat.le_of_ble_eq_true rfl) rfl ?_
  rintro y9 I2 ⟨r2, v2, hM2, hF2⟩
  rw [v2 rfl]
  have hA2 : AbsK I2 c ((S.1, S.2.1, (S.2.2.1.1, 0), S.2.2.2)) := hA1.out (fun q q1 q2 => hF2 q (by omega))
  refine v_icmp_eq (tgt := 1643) (pc' := 223) dL_law_220 (by decide) rfl (fun c_220 => ?_) (fun c_220 => ?_)
  · exact cont _ I2 s1 _ _ h5 h6 hA2 hM2
  · exact absurd rfl c_220
set_option maxRecDepth 20000 in
set_option maxHeartbeats 4000000 in
theorem law_2 (hl : l.stackTraces = false) (hK : ShK E G c) (hD : ShM E G d) (hd : d = c + 187) (hoo : o = c + 194) (ho : (o, sJ E 1) ∈ G) (hA : AbsK I c S) (hM : AbsM I d S) (i : Nat) (hi : i + 3 < E.2.2.2.2.2.1) (hN : E.2.2.2.2.2.1 < 2 ^ 31) (hkk : kk + 1 ≤ 20000) (hnn : nn + 6 ≤ 200000) (o5 o6 : Option Value) (h5 : z_c1 o5 = true) (h6 : z_c1 o6 = true) (cont : ∀ (S1 : zS) (I1 : zI) (s1 : Nat) (p5 p6 : Option Value), z_c1 p5 = true → z_c1 p6 = true → AbsK I1 c S1 → AbsM I1 d S1 → z_V E l (mL_law nm hh) (z_rm 10 20000 200000) 20000 200000 Q_law (kk + 1) (nn + 6) G I1 s1 1643 [some (.ref E.2.2.2.2.1), some (.ref c), some (.ref d), some (.ref o), some (.int (nI i)), p5, p6] []) : z_V E l (mL_law nm hh) (z_rm 10 20000 200000) 20000 200000 Q_law (kk) (nn) G I sz 225 [some (.ref E.2.2.2.2.1), some (.ref c), some (.ref d), some (.ref o), some (.int (nI i)), o5, o6] [] := by
  refine v_aload_n (pc' := 226) dL_law_225 rfl rfl ?_
  refine v_callVX (pc' := 229) (k_errorPosition hl hK hA) dL_law_226 lk_L_107 mwX4_errorPosition miX4_errorPosition hK.1 rfl rfl rfl rfl (by decide) ⟨by omega, by omega⟩ (Nat.le_of_ble_eq_true rfl) rfl ?_ (fun X G' I' sz' q => by
    obtain ⟨-, -, q9, -⟩ := q
    cases q9)
  rintro _ _ I1 s1 ⟨rfl, hs1, -, y, rfl, rfl, hA1, hW1⟩
  have hM1 : AbsM I1 d S := hM.cg (by rw [hW1 d (by omega)]) (by rw [hW1 d (by omega)]) (fun q q1 q2 q3 => hW1 q (by omega))
  refine v_aload_n (pc' := 230) dL_law_229 rfl rfl ?_
  refine v_cVI (pc' := 233) (hk9 := by omega) (hn9 := by omega) (m_errorPosition hl hD hM1) dL_law_230 lk_L_110 mwX5_errorPosition miX5_errorPosition hD.1 rfl rfl rfl rfl (by decide) (Nat.le_of_ble_eq_true rfl) rfl ?_
  rintro y9 I2 ⟨r2, v2, hM2, hF2⟩
  rw [v2 rfl]
  have hA2 : AbsK I2 c (S) := hA1.out (fun q q1 q2 => hF2 q (by omega))
  refine v_icmp_eq (tgt := 1643) (pc' := 236) dL_law_233 (by decide) rfl (fun c_233 => ?_) (fun c_233 => ?_)
  · exact cont _ I2 s1 _ _ h5 h6 hA2 hM2
  · exact absurd rfl c_233
set_option maxRecDepth 20000 in
set_option maxHeartbeats 4000000 in
theorem law_19 (hl : l.stackTraces = false) (hK : ShK E G c) (hD : ShM E G d) (hd : d = c + 187) (hoo : o = c + 194) (ho : (o, sJ E 1) ∈ G) (hA : AbsK I c S) (hM : AbsM I d S) (i : Nat) (hi : i + 3 < E.2.2.2.2.2.1) (hN : E.2.2.2.2.2.1 < 2 ^ 31) (hkk : kk + 1 ≤ 20000) (hnn : nn + 6 ≤ 200000) (o5 o6 : Option Value) (h5 : z_c1 o5 = true) (h6 : z_c1 o6 = true) (cont : ∀ (S1 : zS) (I1 : zI) (s1 : Nat) (p5 p6 : Option Value), z_c1 p5 = true → z_c1 p6 = true → AbsK I1 c S1 → AbsM I1 d S1 → z_V E l (mL_law nm hh) (z_rm 10 20000 200000) 20000 200000 Q_law (kk + 1) (nn + 6) G I1 s1 1643 [some (.ref E.2.2.2.2.1), some (.ref c), some (.ref d), some (.ref o), some (.int (nI i)), p5, p6] []) : z_V E l (mL_law nm hh) (z_rm 10 20000 200000) 20000 200000 Q_law (kk) (nn) G I sz 1182 [some (.ref E.2.2.2.2.1), some (.ref c), some (.ref d), some (.ref o), some (.int (nI i)), o5, o6] [] := by
  refine v_aload_n (pc' := 1183) dL_law_1182 rfl rfl ?_
  refine v_callVX (pc' := 1186) (k_idleIn hl hK hA) dL_law_1183 lk_L_161 mwX4_idleIn miX4_idleIn hK.1 rfl rfl rfl rfl (by decide) ⟨by omega, by omega⟩ (Nat.le_of_ble_eq_true rfl) rfl ?_ (fun X G' I' sz' q => by
    obtain ⟨-, -, q9, -⟩ := q
    cases q9)
  rintro _ _ I1 s1 ⟨rfl, hs1, -, y, rfl, rfl, hA1, hW1⟩
  have hM1 : AbsM I1 d S := hM.cg (by rw [hW1 d (by omega)]) (by rw [hW1 d (by omega)]) (fun q q1 q2 q3 => hW1 q (by omega))
  refine v_aload_n (pc' := 1187) dL_law_1186 rfl rfl ?_
  refine v_cVI (pc' := 1190) (hk9 := by omega) (hn9 := by omega) (m_idleIn hl hD hM1) dL_law_1187 lk_L_164 mwX5_idleIn miX5_idleIn hD.1 rfl rfl rfl rfl (by decide) (Nat.le_of_ble_eq_true rfl) rfl ?_
  rintro y9 I2 ⟨r2, v2, hM2, hF2⟩
  rw [v2 rfl]
  have hA2 : AbsK I2 c (S) := hA1.out (fun q q1 q2 => hF2 q (by omega))
  refine v_icmp_eq (tgt := 1643) (pc' := 1193) dL_law_1190 (by decide) rfl (fun c_1190 => ?_) (fun c_1190 => ?_)
  · exact cont _ I2 s1 _ _ h5 h6 hA2 hM2
  · exact absurd rfl c_1190
end LOOP
