/-! THE LAW's loses (written by wip/p29/gen_loses.py) -/
section LLOSE
variable {E : zE} {l : Launch} {G : zG} {c : Nat} {S : zS}
set_option maxRecDepth 20000 in
set_option maxHeartbeats 4000000 in
theorem loses_loop {sz0 : Nat} (hl : l.stackTraces = false) (hK : ShK E G c) (hQ : ShK E G (c + 187)) (hW : WF S.1) (hacts : S.2.1.1 ≤ 14) (s u n : Nat) (hs : s < 12) (hu : u < cnt S.1) (hn : n ≤ 600) (hh : p_hurt S.1 (nI s) = nI u) (b1 : tf (p_bad S.1 s) u 1 = tf S.1 u 2) (b0 : tf (p_bad S.1 s) u 0 = tf S.1 u 0) (hv : tf S.1 u 1 = p_it (tf S.1 u 0) n (tf S.1 u 2)) (hW2 : WF (s_now S (p_bad S.1 s)).1) (hu2 : u < cnt (s_now S (p_bad S.1 s)).1) (x2 x4 x7 : Int32) : ∀ (f j : Nat) (I : zI) (sz kk nn : Nat), n = j + f → AbsK I c (s_now S (p_bad S.1 s)) → AbsK I (c + 187) (s_now S (p_bad S.1 s)) → kk + f + 10 ≤ 700 → nn + 6 * f + 60 ≤ 4200 → z_V E l mL_loses (z_rm 11 700 4200) 700 4200 (z_q (z_w2 c 1 (s_ru S) (s_ru S) G sz0)) kk nn G I sz 220 [some (.ref c), some (.ref (c + 187)), some (.int x2), some (.int (nI n)), some (.int x4), some (.int (S.1 3)), some (.int (S.1 5)), some (.int x7), some (.int (p_hurt S.1 (nI s))), some (.int (1)), some (.int (p_it (tf S.1 u 0) j (tf (p_bad S.1 s) u 1))), some (.int (nI j))] [] := by
  intro f
  induction f with
  | zero =>
    intro j I sz kk nn hj hA hB hkk hnn
    refine v_iload (pc' := 222) dL_loses_220 rfl rfl ?_
    refine v_iload_n (pc' := 223) dL_loses_222 rfl rfl ?_
    refine v_icmp_ge (tgt := 258) (pc' := 226) dL_loses_223 (by decide) rfl (fun c_223 => ?_) (fun c_223 => ?_)
    · rw [Nat.add_zero] at hj
      subst hj
      refine v_iload (pc' := 260) dL_loses_258 rfl rfl ?_
      refine v_if_eq (tgt := 311) (pc' := 263) dL_loses_260 (by decide) rfl (fun c_260 => ?_) (fun c_260 => ?_)
      · exact absurd c_260 (by decide)
      · refine v_aload_n (pc' := 264) dL_loses_263 rfl rfl ?_
        refine v_bipush (pc' := 266) dL_loses_264 kb_14 rfl ?_
        refine v_iconst (pc' := 267) dL_loses_266 kc_0 rfl ?_
        refine v_iconst (pc' := 268) dL_loses_267 kc_0 rfl ?_
        refine v_iconst (pc' := 269) dL_loses_268 kc_0 rfl ?_
        refine v_k2o (na := 5) (pc' := 272) (z_K1.to (call_14 hl hK hA _ _ _) (x_und _) (s_und _)) hB dL_loses_269 lk_L_164 mwL_call msL_call rfl rfl (by decide) ⟨by omega, by omega⟩ (Nat.le_of_ble_eq_true rfl) rfl ?_
        intro I1 s1 hA1 hB1
        refine v_cSR (pc' := 275) (hk9 := by omega) (hn9 := by omega) (c_thrown hl _ (am_14 _ hacts)) dL_loses_272 lk_L_207 mwL_thrown msL_thrown rfl rfl (by decide) (Nat.le_of_ble_eq_true rfl) rfl ?_
        refine v_if_ne (tgt := 311) (pc' := 278) dL_loses_275 (by decide) rfl (fun c_275 => ?_) (fun c_275 => ?_)
        · exact absurd rfl c_275
        · refine v_aload_n (pc' := 279) dL_loses_278 rfl rfl ?_
          refine v_bipush (pc' := 281) dL_loses_279 kb_14 rfl ?_
          refine v_iconst (pc' := 282) dL_loses_281 kc_0 rfl ?_
          refine v_iconst (pc' := 283) dL_loses_282 kc_0 rfl ?_
          refine v_iconst (pc' := 284) dL_loses_283 kc_0 rfl ?_
          refine v_k2q (na := 5) (pc' := 287) (z_K1.to (call_14 hl hQ hB1 _ _ _) (x_und _) (s_und _)) hA1 dL_loses_284 lk_L_164 mwL_call msL_call rfl rfl (by decide) ⟨by omega, by omega⟩ (Nat.le_of_ble_eq_true rfl) rfl ?_
          intro I2 s2 hA2 hB2
          refine v_cSR (pc' := 290) (hk9 := by omega) (hn9 := by omega) (c_thrown hl _ (am_14 _ hacts)) dL_loses_287 lk_L_207 mwL_thrown msL_thrown rfl rfl (by decide) (Nat.le_of_ble_eq_true rfl) rfl ?_
          refine v_if_ne (tgt := 311) (pc' := 293) dL_loses_290 (by decide) rfl (fun c_290 => ?_) (fun c_290 => ?_)
          · exact absurd rfl c_290
          · refine v_aload_n (pc' := 294) dL_loses_293 rfl rfl ?_
            refine v_iconst (pc' := 295) dL_loses_294 kc_3 rfl ?_
            refine v_iload (pc' := 297) dL_loses_295 rfl rfl ?_
            refine v_iconst (pc' := 298) dL_loses_297 kc_1 rfl ?_
            refine v_iconst (pc' := 299) dL_loses_298 kc_0 rfl ?_
            refine v_k2o (na := 5) (pc' := 302) (z_K1.to (call_3 hl hK hA2 _ _ _) (x_task' 1 (S := s_ru S) hW hu hh) (rfl)) hB2 dL_loses_299 lk_L_164 mwL_call msL_call rfl rfl (by decide) ⟨by omega, by omega⟩ (Nat.le_of_ble_eq_true rfl) rfl ?_
            intro I3 s3 hA3 hB3
            refine v_iload (pc' := 304) dL_loses_302 rfl rfl ?_
            refine v_icmp_ne (tgt := 311) (pc' := 307) dL_loses_304 (by decide) rfl (fun c_304 => ?_) (fun c_304 => ?_)
            · exact absurd (by rw [b1]; exact hv) c_304
            · refine v_iconst (pc' := 308) dL_loses_307 kc_1 rfl ?_
              refine v_goto (tgt := 312) dL_loses_308 (by decide) ?_
              refine v_istore9 (pc' := 314) dL_loses_312 (by decide) rfl rfl ?_
              refine v_goto (tgt := 385) dL_loses_314 (by decide) ?_
              refine v_iload (pc' := 387) dL_loses_385 rfl rfl ?_
              refine v_if_eq (tgt := 421) (pc' := 390) dL_loses_387 (by decide) rfl (fun c_387 => ?_) (fun c_387 => ?_)
              · exact absurd c_387 (by decide)
              · refine v_aload_n (pc' := 391) dL_loses_390 rfl rfl ?_
                refine v_iconst (pc' := 392) dL_loses_391 kc_5 rfl ?_
                refine v_iconst (pc' := 393) dL_loses_392 kc_0 rfl ?_
                refine v_iconst (pc' := 394) dL_loses_393 kc_0 rfl ?_
                refine v_iconst (pc' := 395) dL_loses_394 kc_0 rfl ?_
                refine v_k2o (na := 5) (pc' := 398) (z_K1.to (call_5 hl hK hA3 _ _ _) (x_job (S := s_ru S)) (rfl)) hB3 dL_loses_395 lk_L_164 mwL_call msL_call rfl rfl (by decide) ⟨by omega, by omega⟩ (Nat.le_of_ble_eq_true rfl) rfl ?_
                intro I4 s4 hA4 hB4
                refine v_iload (pc' := 400) dL_loses_398 rfl rfl ?_
                refine v_icmp_ne (tgt := 421) (pc' := 403) dL_loses_400 (by decide) rfl (fun c_400 => ?_) (fun c_400 => ?_)
                · exact absurd rfl c_400
                · refine v_aload_n (pc' := 404) dL_loses_403 rfl rfl ?_
                  refine v_iconst (pc' := 405) dL_loses_404 kc_2 rfl ?_
                  refine v_bipush (pc' := 407) dL_loses_405 kb_7 rfl ?_
                  refine v_iconst (pc' := 408) dL_loses_407 kc_0 rfl ?_
                  refine v_iconst (pc' := 409) dL_loses_408 kc_0 rfl ?_
                  refine v_k2o (na := 5) (pc' := 412) (z_K1.to (call_2 hl hK hA4 _ _ _) (x_ab7 (S := s_ru S)) (rfl)) hB4 dL_loses_409 lk_L_164 mwL_call msL_call rfl rfl (by decide) ⟨by omega, by omega⟩ (Nat.le_of_ble_eq_true rfl) rfl ?_
                  intro I5 s5 hA5 hB5
                  refine v_iload (pc' := 414) dL_loses_412 rfl rfl ?_
                  refine v_icmp_ne (tgt := 421) (pc' := 417) dL_loses_414 (by decide) rfl (fun c_414 => ?_) (fun c_414 => ?_)
                  · exact absurd rfl c_414
                  · refine v_iconst (pc' := 418) dL_loses_417 kc_1 rfl ?_
                    refine v_goto (tgt := 422) dL_loses_418 (by decide) ?_
                    exact v_zret dL_loses_422 rfl (by omega) (by omega) rfl ⟨rfl, rfl, hA5, hB5⟩
    · exact absurd (by rw [hj, Nat.add_zero]; exact Int32.le_refl _) c_223
  | succ f ih =>
    intro j I sz kk nn hj hA hB hkk hnn
    refine v_iload (pc' := 222) dL_loses_220 rfl rfl ?_
    refine v_iload_n (pc' := 223) dL_loses_222 rfl rfl ?_
    refine v_icmp_ge (tgt := 258) (pc' := 226) dL_loses_223 (by decide) rfl (fun c_223 => ?_) (fun c_223 => ?_)
    · exact absurd c_223 (nI_ge (by omega) (by omega))
    · refine v_bipush (pc' := 228) dL_loses_226 kb_31 rfl ?_
      refine v_iload (pc' := 230) dL_loses_228 rfl rfl ?_
      refine v_imul (pc' := 231) dL_loses_230 rfl ?_
      refine v_bipush (pc' := 233) dL_loses_231 kb_7 rfl ?_
      refine v_aload_n (pc' := 234) dL_loses_233 rfl rfl ?_
      refine v_iconst (pc' := 235) dL_loses_234 kc_3 rfl ?_
      refine v_iload (pc' := 237) dL_loses_235 rfl rfl ?_
      refine v_iconst (pc' := 238) dL_loses_237 kc_0 rfl ?_
      refine v_iconst (pc' := 239) dL_loses_238 kc_0 rfl ?_
      refine v_k2o (na := 5) (pc' := 242) (z_K1.to (call_3 hl hK hA _ _ _) ((x_task' 0 (S := s_now S (p_bad S.1 s)) hW2 hu2 hh).trans b0) (rfl)) hB dL_loses_239 lk_L_164 mwL_call msL_call rfl rfl (by decide) ⟨by omega, by omega⟩ (Nat.le_of_ble_eq_true rfl) rfl ?_
      intro I1 s1 hA1 hB1
      refine v_imul (pc' := 243) dL_loses_242 rfl ?_
      refine v_iadd (pc' := 244) dL_loses_243 rfl ?_
      refine v_iconst (pc' := 245) dL_loses_244 kc_1 rfl ?_
      refine v_iadd (pc' := 246) dL_loses_245 rfl ?_
      refine v_sipush (pc' := 249) dL_loses_246 ks_997 rfl ?_
      refine v_irem (pc' := 250) dL_loses_249 (by decide) rfl ?_
      have ep := p_it_s (tf S.1 u 0) j (tf (p_bad S.1 s) u 1)
      unfold p_st z_rem at ep
      rw [← ep]
      refine v_istore10 (pc' := 252) dL_loses_250 (by decide) rfl rfl ?_
      refine v_iinc11 (pc' := 255) dL_loses_252 (by decide) rfl kc_1 (nI_1 j) rfl ?_
      refine v_goto (tgt := 220) dL_loses_255 (by decide) ?_
      exact ih (j + 1) _ _ _ _ (by omega) hA1 hB1 (by omega) (by omega)
set_option maxRecDepth 20000 in
set_option maxHeartbeats 4000000 in
theorem c_loses {I : zI} {sz K : Nat} (hl : l.stackTraces = false) (hK : ShK E G c) (hQ : ShK E G (c + 187)) (hA : AbsK I c S) (hB : AbsK I (c + 187) S) (hacts : S.2.1.1 ≤ 14) (hR : HR K S.1) (hK9 : K ≤ 600) (s : Nat) (hs : s < 12) : z_K2 E l mL_loses 11 700 4200 [.ref c, .ref (c + 187), .int (nI s)] G I sz c 1 (s_ru S) (s_ru S) := by
  refine z_Ct.of hl pn_L [some (.ref c), some (.ref (c + 187)), some (.int (nI s)), none, none, none, none, none, none, none, none, none] rfl (Nat.le_of_ble_eq_true rfl) ?_
  have hW : WF S.1 := hA.2.2.1
  have h6 := hW.1.1
  have hW2 : WF (s_now S (p_bad S.1 s)).1 := WF_bad hW s hs
  have hn3 : (s_now S (p_bad S.1 s)).1 (11 + s) = 1 := (bad_s hW s).resolve_right (by omega)
  obtain ⟨hn1, hn2⟩ := bad_none hW2 (HR_bad hW hR hs).2.1 hs (by rw [hn3]; decide)
  refine v_aload_n (pc' := 1) dL_loses_0 rfl rfl ?_
  refine v_bipush (pc' := 3) dL_loses_1 kb_18 rfl ?_
  refine v_iload_n (pc' := 4) dL_loses_3 rfl rfl ?_
  refine v_iconst (pc' := 5) dL_loses_4 kc_0 rfl ?_
  refine v_iconst (pc' := 6) dL_loses_5 kc_0 rfl ?_
  refine v_k2o (na := 5) (pc' := 9) (z_K1.to (call_18 hl hK hA _ _ _) (x_lost hs) (rfl)) hB dL_loses_6 lk_L_164 mwL_call msL_call rfl rfl (by decide) ⟨by omega, by omega⟩ (Nat.le_of_ble_eq_true rfl) rfl ?_
  intro I1 s1 hA1 hB1
  refine v_istore_n3 (pc' := 10) dL_loses_9 (by decide) rfl rfl ?_
  refine v_aload_n (pc' := 11) dL_loses_10 rfl rfl ?_
  refine v_iconst (pc' := 12) dL_loses_11 kc_4 rfl ?_
  refine v_iload_n (pc' := 13) dL_loses_12 rfl rfl ?_
  refine v_iconst (pc' := 14) dL_loses_13 kc_0 rfl ?_
  refine v_iconst (pc' := 15) dL_loses_14 kc_0 rfl ?_
  refine v_k2o (na := 5) (pc' := 18) (z_K1.to (call_4 hl hK hA1 _ _ _) (x_str0 hs) (rfl)) hB1 dL_loses_15 lk_L_164 mwL_call msL_call rfl rfl (by decide) ⟨by omega, by omega⟩ (Nat.le_of_ble_eq_true rfl) rfl ?_
  intro I2 s2 hA2 hB2
  refine v_istore4 (pc' := 20) dL_loses_18 (by decide) rfl rfl ?_
  refine v_aload_n (pc' := 21) dL_loses_20 rfl rfl ?_
  refine v_iconst (pc' := 22) dL_loses_21 kc_2 rfl ?_
  refine v_bipush (pc' := 24) dL_loses_22 kb_7 rfl ?_
  refine v_iconst (pc' := 25) dL_loses_24 kc_0 rfl ?_
  refine v_iconst (pc' := 26) dL_loses_25 kc_0 rfl ?_
  refine v_k2o (na := 5) (pc' := 29) (z_K1.to (call_2 hl hK hA2 _ _ _) (x_ab7) (rfl)) hB2 dL_loses_26 lk_L_164 mwL_call msL_call rfl rfl (by decide) ⟨by omega, by omega⟩ (Nat.le_of_ble_eq_true rfl) rfl ?_
  intro I3 s3 hA3 hB3
  refine v_istore5 (pc' := 31) dL_loses_29 (by decide) rfl rfl ?_
  refine v_aload_n (pc' := 32) dL_loses_31 rfl rfl ?_
  refine v_iconst (pc' := 33) dL_loses_32 kc_5 rfl ?_
  refine v_iconst (pc' := 34) dL_loses_33 kc_0 rfl ?_
  refine v_iconst (pc' := 35) dL_loses_34 kc_0 rfl ?_
  refine v_iconst (pc' := 36) dL_loses_35 kc_0 rfl ?_
  refine v_k2o (na := 5) (pc' := 39) (z_K1.to (call_5 hl hK hA3 _ _ _) (x_job) (rfl)) hB3 dL_loses_36 lk_L_164 mwL_call msL_call rfl rfl (by decide) ⟨by omega, by omega⟩ (Nat.le_of_ble_eq_true rfl) rfl ?_
  intro I4 s4 hA4 hB4
  refine v_istore6 (pc' := 41) dL_loses_39 (by decide) rfl rfl ?_
  refine v_aload_n (pc' := 42) dL_loses_41 rfl rfl ?_
  refine v_iconst (pc' := 43) dL_loses_42 kc_4 rfl ?_
  refine v_iload_n (pc' := 44) dL_loses_43 rfl rfl ?_
  refine v_iconst (pc' := 45) dL_loses_44 kc_1 rfl ?_
  refine v_iconst (pc' := 46) dL_loses_45 kc_0 rfl ?_
  refine v_k2o (na := 5) (pc' := 49) (z_K1.to (call_4 hl hK hA4 _ _ _) (x_str1 hs) (rfl)) hB4 dL_loses_46 lk_L_164 mwL_call msL_call rfl rfl (by decide) ⟨by omega, by omega⟩ (Nat.le_of_ble_eq_true rfl) rfl ?_
  intro I5 s5 hA5 hB5
  refine v_istore7 (pc' := 51) dL_loses_49 (by decide) rfl rfl ?_
  refine v_aload_n (pc' := 52) dL_loses_51 rfl rfl ?_
  refine v_bipush (pc' := 54) dL_loses_52 kb_10 rfl ?_
  refine v_iload_n (pc' := 55) dL_loses_54 rfl rfl ?_
  refine v_iconst (pc' := 56) dL_loses_55 kc_0 rfl ?_
  refine v_iconst (pc' := 57) dL_loses_56 kc_0 rfl ?_
  refine v_k2o (na := 5) (pc' := 60) (z_K1.to (call_10 hl hK hA5 _ _ _) (x_bad hs) (s_bad hs)) hB5 dL_loses_57 lk_L_164 mwL_call msL_call rfl rfl (by decide) ⟨by omega, by omega⟩ (Nat.le_of_ble_eq_true rfl) rfl ?_
  intro I6 s6 hA6 hB6
  refine v_istore8 (pc' := 62) dL_loses_60 (by decide) rfl rfl ?_
  refine v_aload_n (pc' := 63) dL_loses_62 rfl rfl ?_
  refine v_bipush (pc' := 65) dL_loses_63 kb_10 rfl ?_
  refine v_iload_n (pc' := 66) dL_loses_65 rfl rfl ?_
  refine v_iconst (pc' := 67) dL_loses_66 kc_0 rfl ?_
  refine v_iconst (pc' := 68) dL_loses_67 kc_0 rfl ?_
  refine v_k2q (na := 5) (pc' := 71) (z_K1.to (call_10 hl hQ hB6 _ _ _) (x_bad hs) (s_bad hs)) hA6 dL_loses_68 lk_L_164 mwL_call msL_call rfl rfl (by decide) ⟨by omega, by omega⟩ (Nat.le_of_ble_eq_true rfl) rfl ?_
  intro I7 s7 hA7 hB7
  refine v_iload (pc' := 73) dL_loses_71 rfl rfl ?_
  refine v_icmp_ne (tgt := 159) (pc' := 76) dL_loses_73 (by decide) rfl (fun c_73 => ?_) (fun c_73 => ?_)
  · exact absurd rfl c_73
  · refine v_jn 89 (fun J_76 => ?_) ?_
    · refine v_iload (pc' := 78) dL_loses_76 rfl rfl ?_
      refine v_iconst (pc' := 79) dL_loses_78 kc_m1 rfl ?_
      refine v_icmp_eq (tgt := 89) (pc' := 82) dL_loses_79 (by decide) rfl (fun c_79 => ?_) (fun c_79 => ?_)
      · exact J_76
      · refine v_iload (pc' := 84) dL_loses_82 rfl rfl ?_
        refine v_iload (pc' := 86) dL_loses_84 rfl rfl ?_
        refine v_icmp_ne (tgt := 159) (pc' := 89) dL_loses_86 (by decide) rfl (fun c_86 => ?_) (fun c_86 => ?_)
        · exact absurd (hurt_tk c_79) c_86
        · exact J_76
    refine v_jn 109 (fun J_89 => ?_) ?_
    · refine v_iload (pc' := 91) dL_loses_89 rfl rfl ?_
      refine v_iconst (pc' := 92) dL_loses_91 kc_m1 rfl ?_
      refine v_icmp_eq (tgt := 109) (pc' := 95) dL_loses_92 (by decide) rfl (fun c_92 => ?_) (fun c_92 => ?_)
      · exact J_89
      · refine v_iload (pc' := 97) dL_loses_95 rfl rfl ?_
        refine v_iload (pc' := 99) dL_loses_97 rfl rfl ?_
        refine v_icmp_eq (tgt := 109) (pc' := 102) dL_loses_99 (by decide) rfl (fun c_99 => ?_) (fun c_99 => ?_)
        · exact J_89
        · refine v_iload (pc' := 104) dL_loses_102 rfl rfl ?_
          refine v_iload (pc' := 106) dL_loses_104 rfl rfl ?_
          refine v_icmp_ne (tgt := 159) (pc' := 109) dL_loses_106 (by decide) rfl (fun c_106 => ?_) (fun c_106 => ?_)
          · exact absurd (((hurt_or S.1 (nI s)).resolve_left c_92).resolve_left c_99) c_106
          · exact J_89
    refine v_jn 119 (fun J_109 => ?_) ?_
    · refine v_iload (pc' := 111) dL_loses_109 rfl rfl ?_
      refine v_iconst (pc' := 112) dL_loses_111 kc_m1 rfl ?_
      refine v_icmp_ne (tgt := 119) (pc' := 115) dL_loses_112 (by decide) rfl (fun c_112 => ?_) (fun c_112 => ?_)
      · exact J_109
      · refine v_iload_n (pc' := 116) dL_loses_115 rfl rfl ?_
        refine v_if_ne (tgt := 159) (pc' := 119) dL_loses_116 (by decide) rfl (fun c_116 => ?_) (fun c_116 => ?_)
        · exact absurd (lost_0 c_112) c_116
        · exact J_109
    refine v_aload_n (pc' := 120) dL_loses_119 rfl rfl ?_
    refine v_iconst (pc' := 121) dL_loses_120 kc_4 rfl ?_
    refine v_iload_n (pc' := 122) dL_loses_121 rfl rfl ?_
    refine v_iconst (pc' := 123) dL_loses_122 kc_0 rfl ?_
    refine v_iconst (pc' := 124) dL_loses_123 kc_0 rfl ?_
    refine v_k2o (na := 5) (pc' := 127) (z_K1.to (call_4 hl hK hA7 _ _ _) ((x_str0 hs).trans hn1) (rfl)) hB7 dL_loses_124 lk_L_164 mwL_call msL_call rfl rfl (by decide) ⟨by omega, by omega⟩ (Nat.le_of_ble_eq_true rfl) rfl ?_
    intro I8 s8 hA8 hB8
    refine v_iconst (pc' := 128) dL_loses_127 kc_m1 rfl ?_
    refine v_icmp_ne (tgt := 159) (pc' := 131) dL_loses_128 (by decide) rfl (fun c_128 => ?_) (fun c_128 => ?_)
    · exact absurd rfl c_128
    · refine v_aload_n (pc' := 132) dL_loses_131 rfl rfl ?_
      refine v_iconst (pc' := 133) dL_loses_132 kc_4 rfl ?_
      refine v_iload_n (pc' := 134) dL_loses_133 rfl rfl ?_
      refine v_iconst (pc' := 135) dL_loses_134 kc_1 rfl ?_
      refine v_iconst (pc' := 136) dL_loses_135 kc_0 rfl ?_
      refine v_k2o (na := 5) (pc' := 139) (z_K1.to (call_4 hl hK hA8 _ _ _) ((x_str1 hs).trans hn2) (rfl)) hB8 dL_loses_136 lk_L_164 mwL_call msL_call rfl rfl (by decide) ⟨by omega, by omega⟩ (Nat.le_of_ble_eq_true rfl) rfl ?_
      intro I9 s9 hA9 hB9
      refine v_iconst (pc' := 140) dL_loses_139 kc_m1 rfl ?_
      refine v_icmp_ne (tgt := 159) (pc' := 143) dL_loses_140 (by decide) rfl (fun c_140 => ?_) (fun c_140 => ?_)
      · exact absurd rfl c_140
      · refine v_aload_n (pc' := 144) dL_loses_143 rfl rfl ?_
        refine v_iconst (pc' := 145) dL_loses_144 kc_4 rfl ?_
        refine v_iload_n (pc' := 146) dL_loses_145 rfl rfl ?_
        refine v_iconst (pc' := 147) dL_loses_146 kc_2 rfl ?_
        refine v_iconst (pc' := 148) dL_loses_147 kc_0 rfl ?_
        refine v_k2o (na := 5) (pc' := 151) (z_K1.to (call_4 hl hK hA9 _ _ _) ((x_str2 hs).trans hn3) (rfl)) hB9 dL_loses_148 lk_L_164 mwL_call msL_call rfl rfl (by decide) ⟨by omega, by omega⟩ (Nat.le_of_ble_eq_true rfl) rfl ?_
        intro I10 s10 hA10 hB10
        refine v_iconst (pc' := 152) dL_loses_151 kc_1 rfl ?_
        refine v_icmp_ne (tgt := 159) (pc' := 155) dL_loses_152 (by decide) rfl (fun c_152 => ?_) (fun c_152 => ?_)
        · exact absurd rfl c_152
        · refine v_iconst (pc' := 156) dL_loses_155 kc_1 rfl ?_
          refine v_goto (tgt := 160) dL_loses_156 (by decide) ?_
          refine v_istore9 (pc' := 162) dL_loses_160 (by decide) rfl rfl ?_
          refine v_iload (pc' := 164) dL_loses_162 rfl rfl ?_
          refine v_iconst (pc' := 165) dL_loses_164 kc_m1 rfl ?_
          refine v_icmp_eq (tgt := 317) (pc' := 168) dL_loses_165 (by decide) rfl (fun c_165 => ?_) (fun c_165 => ?_)
          · refine v_iload (pc' := 319) dL_loses_317 rfl rfl ?_
            refine v_if_eq (tgt := 382) (pc' := 322) dL_loses_319 (by decide) rfl (fun c_319 => ?_) (fun c_319 => ?_)
            · exact absurd c_319 (by decide)
            · refine v_aload_n (pc' := 323) dL_loses_322 rfl rfl ?_
              refine v_iconst (pc' := 324) dL_loses_323 kc_2 rfl ?_
              refine v_bipush (pc' := 326) dL_loses_324 kb_7 rfl ?_
              refine v_iconst (pc' := 327) dL_loses_326 kc_0 rfl ?_
              refine v_iconst (pc' := 328) dL_loses_327 kc_0 rfl ?_
              refine v_k2o (na := 5) (pc' := 331) (z_K1.to (call_2 hl hK hA10 _ _ _) (x_ab7 (S := s_now S (p_bad S.1 s))) (rfl)) hB10 dL_loses_328 lk_L_164 mwL_call msL_call rfl rfl (by decide) ⟨by omega, by omega⟩ (Nat.le_of_ble_eq_true rfl) rfl ?_
              intro I11 s11 hA11 hB11
              refine v_iload (pc' := 333) dL_loses_331 rfl rfl ?_
              refine v_iload (pc' := 335) dL_loses_333 rfl rfl ?_
              refine v_iconst (pc' := 336) dL_loses_335 kc_m1 rfl ?_
              refine v_dceq (pc' := 344) dL_loses_336 dL_loses_339 dL_loses_340 dL_loses_343 kc_1 kc_0 rfl ?_
              refine v_iadd (pc' := 345) dL_loses_344 rfl ?_
              refine v_icmp_ne (tgt := 382) (pc' := 348) dL_loses_345 (by decide) rfl (fun c_345 => ?_) (fun c_345 => ?_)
              · exact absurd (bad_3 hs c_165) c_345
              · refine v_aload_n (pc' := 349) dL_loses_348 rfl rfl ?_
                refine v_bipush (pc' := 351) dL_loses_349 kb_14 rfl ?_
                refine v_iconst (pc' := 352) dL_loses_351 kc_0 rfl ?_
                refine v_iconst (pc' := 353) dL_loses_352 kc_0 rfl ?_
                refine v_iconst (pc' := 354) dL_loses_353 kc_0 rfl ?_
                refine v_k2o (na := 5) (pc' := 357) (z_K1.to (call_14 hl hK hA11 _ _ _) (x_und _) (s_und _)) hB11 dL_loses_354 lk_L_164 mwL_call msL_call rfl rfl (by decide) ⟨by omega, by omega⟩ (Nat.le_of_ble_eq_true rfl) rfl ?_
                intro I12 s12 hA12 hB12
                refine v_cSR (pc' := 360) (hk9 := by omega) (hn9 := by omega) (c_thrown hl _ (am_14 _ hacts)) dL_loses_357 lk_L_207 mwL_thrown msL_thrown rfl rfl (by decide) (Nat.le_of_ble_eq_true rfl) rfl ?_
                refine v_if_ne (tgt := 382) (pc' := 363) dL_loses_360 (by decide) rfl (fun c_360 => ?_) (fun c_360 => ?_)
                · exact absurd rfl c_360
                · refine v_aload_n (pc' := 364) dL_loses_363 rfl rfl ?_
                  refine v_bipush (pc' := 366) dL_loses_364 kb_14 rfl ?_
                  refine v_iconst (pc' := 367) dL_loses_366 kc_0 rfl ?_
                  refine v_iconst (pc' := 368) dL_loses_367 kc_0 rfl ?_
                  refine v_iconst (pc' := 369) dL_loses_368 kc_0 rfl ?_
                  refine v_k2q (na := 5) (pc' := 372) (z_K1.to (call_14 hl hQ hB12 _ _ _) (x_und _) (s_und _)) hA12 dL_loses_369 lk_L_164 mwL_call msL_call rfl rfl (by decide) ⟨by omega, by omega⟩ (Nat.le_of_ble_eq_true rfl) rfl ?_
                  intro I13 s13 hA13 hB13
                  refine v_cSR (pc' := 375) (hk9 := by omega) (hn9 := by omega) (c_thrown hl _ (am_14 _ hacts)) dL_loses_372 lk_L_207 mwL_thrown msL_thrown rfl rfl (by decide) (Nat.le_of_ble_eq_true rfl) rfl ?_
                  refine v_if_ne (tgt := 382) (pc' := 378) dL_loses_375 (by decide) rfl (fun c_375 => ?_) (fun c_375 => ?_)
                  · exact absurd rfl c_375
                  · refine v_iconst (pc' := 379) dL_loses_378 kc_1 rfl ?_
                    refine v_goto (tgt := 383) dL_loses_379 (by decide) ?_
                    refine v_istore9 (pc' := 385) dL_loses_383 (by decide) rfl rfl ?_
                    refine v_iload (pc' := 387) dL_loses_385 rfl rfl ?_
                    refine v_if_eq (tgt := 421) (pc' := 390) dL_loses_387 (by decide) rfl (fun c_387 => ?_) (fun c_387 => ?_)
                    · exact absurd c_387 (by decide)
                    · refine v_aload_n (pc' := 391) dL_loses_390 rfl rfl ?_
                      refine v_iconst (pc' := 392) dL_loses_391 kc_5 rfl ?_
                      refine v_iconst (pc' := 393) dL_loses_392 kc_0 rfl ?_
                      refine v_iconst (pc' := 394) dL_loses_393 kc_0 rfl ?_
                      refine v_iconst (pc' := 395) dL_loses_394 kc_0 rfl ?_
                      refine v_k2o (na := 5) (pc' := 398) (z_K1.to (call_5 hl hK hA13 _ _ _) (x_job (S := s_ru S)) (rfl)) hB13 dL_loses_395 lk_L_164 mwL_call msL_call rfl rfl (by decide) ⟨by omega, by omega⟩ (Nat.le_of_ble_eq_true rfl) rfl ?_
                      intro I14 s14 hA14 hB14
                      refine v_iload (pc' := 400) dL_loses_398 rfl rfl ?_
                      refine v_icmp_ne (tgt := 421) (pc' := 403) dL_loses_400 (by decide) rfl (fun c_400 => ?_) (fun c_400 => ?_)
                      · exact absurd rfl c_400
                      · refine v_aload_n (pc' := 404) dL_loses_403 rfl rfl ?_
                        refine v_iconst (pc' := 405) dL_loses_404 kc_2 rfl ?_
                        refine v_bipush (pc' := 407) dL_loses_405 kb_7 rfl ?_
                        refine v_iconst (pc' := 408) dL_loses_407 kc_0 rfl ?_
                        refine v_iconst (pc' := 409) dL_loses_408 kc_0 rfl ?_
                        refine v_k2o (na := 5) (pc' := 412) (z_K1.to (call_2 hl hK hA14 _ _ _) (x_ab7 (S := s_ru S)) (rfl)) hB14 dL_loses_409 lk_L_164 mwL_call msL_call rfl rfl (by decide) ⟨by omega, by omega⟩ (Nat.le_of_ble_eq_true rfl) rfl ?_
                        intro I15 s15 hA15 hB15
                        refine v_iload (pc' := 414) dL_loses_412 rfl rfl ?_
                        refine v_icmp_ne (tgt := 421) (pc' := 417) dL_loses_414 (by decide) rfl (fun c_414 => ?_) (fun c_414 => ?_)
                        · exact absurd rfl c_414
                        · refine v_iconst (pc' := 418) dL_loses_417 kc_1 rfl ?_
                          refine v_goto (tgt := 422) dL_loses_418 (by decide) ?_
                          exact v_zret dL_loses_422 rfl (by omega) (by omega) rfl ⟨rfl, rfl, hA15, hB15⟩
          · obtain ⟨u, hu, hu6, hh⟩ := (p_hurt_cases hW (nI s)).resolve_left c_165
            obtain ⟨b4, b1, b2, b0, n, hnK, hl9, hv⟩ := bad_hurt hW hR hs hh hu
            have hu2 : u < cnt (s_now S (p_bad S.1 s)).1 := by show u < cnt (p_bad S.1 s); rw [cnt_bad]; exact hu
            rw [hl9]
            refine v_iload (pc' := 170) dL_loses_168 rfl rfl ?_
            refine v_if_eq (tgt := 317) (pc' := 173) dL_loses_170 (by decide) rfl (fun c_170 => ?_) (fun c_170 => ?_)
            · exact absurd c_170 (by decide)
            · refine v_aload_n (pc' := 174) dL_loses_173 rfl rfl ?_
              refine v_iconst (pc' := 175) dL_loses_174 kc_3 rfl ?_
              refine v_iload (pc' := 177) dL_loses_175 rfl rfl ?_
              refine v_iconst (pc' := 178) dL_loses_177 kc_1 rfl ?_
              refine v_iconst (pc' := 179) dL_loses_178 kc_0 rfl ?_
              refine v_k2o (na := 5) (pc' := 182) (z_K1.to (call_3 hl hK hA10 _ _ _) (x_task' 1 (S := s_now S (p_bad S.1 s)) hW2 hu2 hh) (rfl)) hB10 dL_loses_179 lk_L_164 mwL_call msL_call rfl rfl (by decide) ⟨by omega, by omega⟩ (Nat.le_of_ble_eq_true rfl) rfl ?_
              intro I16 s16 hA16 hB16
              refine v_istore10 (pc' := 184) dL_loses_182 (by decide) rfl rfl ?_
              refine v_aload_n (pc' := 185) dL_loses_184 rfl rfl ?_
              refine v_iconst (pc' := 186) dL_loses_185 kc_3 rfl ?_
              refine v_iload (pc' := 188) dL_loses_186 rfl rfl ?_
              refine v_iconst (pc' := 189) dL_loses_188 kc_4 rfl ?_
              refine v_iconst (pc' := 190) dL_loses_189 kc_0 rfl ?_
              refine v_k2o (na := 5) (pc' := 193) (z_K1.to (call_3 hl hK hA16 _ _ _) (x_task' 4 (S := s_now S (p_bad S.1 s)) hW2 hu2 hh) (rfl)) hB16 dL_loses_190 lk_L_164 mwL_call msL_call rfl rfl (by decide) ⟨by omega, by omega⟩ (Nat.le_of_ble_eq_true rfl) rfl ?_
              intro I17 s17 hA17 hB17
              refine v_if_ne (tgt := 214) (pc' := 196) dL_loses_193 (by decide) rfl (fun c_193 => ?_) (fun c_193 => ?_)
              · exact absurd b4 c_193
              · refine v_aload_n (pc' := 197) dL_loses_196 rfl rfl ?_
                refine v_iconst (pc' := 198) dL_loses_197 kc_3 rfl ?_
                refine v_iload (pc' := 200) dL_loses_198 rfl rfl ?_
                refine v_iconst (pc' := 201) dL_loses_200 kc_2 rfl ?_
                refine v_iconst (pc' := 202) dL_loses_201 kc_0 rfl ?_
                refine v_k2o (na := 5) (pc' := 205) (z_K1.to (call_3 hl hK hA17 _ _ _) (x_task' 2 (S := s_now S (p_bad S.1 s)) hW2 hu2 hh) (rfl)) hB17 dL_loses_202 lk_L_164 mwL_call msL_call rfl rfl (by decide) ⟨by omega, by omega⟩ (Nat.le_of_ble_eq_true rfl) rfl ?_
                intro I18 s18 hA18 hB18
                refine v_iload (pc' := 207) dL_loses_205 rfl rfl ?_
                refine v_icmp_ne (tgt := 214) (pc' := 210) dL_loses_207 (by decide) rfl (fun c_207 => ?_) (fun c_207 => ?_)
                · exact absurd (b2.trans b1.symm) c_207
                · refine v_iconst (pc' := 211) dL_loses_210 kc_1 rfl ?_
                  refine v_goto (tgt := 215) dL_loses_211 (by decide) ?_
                  refine v_istore9 (pc' := 217) dL_loses_215 (by decide) rfl rfl ?_
                  refine v_iconst (pc' := 218) dL_loses_217 kc_0 rfl ?_
                  refine v_istore11 (pc' := 220) dL_loses_218 (by decide) rfl rfl ?_
                  exact loses_loop hl hK hQ hW hacts s u n hs hu (by omega) hh b1 b0 hv hW2 hu2 _ _ _ n 0 _ _ _ _ (by omega) hA18 hB18 (by omega) (by omega)
end LLOSE
