/-! THE LAW's ticks (written by wip/p29/gen_ticks.py) -/
section LALL
variable {E : zE} {l : Launch} {y : MethodName} {cc : ByteArray} {nL : Nat} {ret : Option FieldType} {hh : List (Nat × Nat × Nat × Nat)} {R : Room} {mc ms : Nat} {Q : zQ} {k n : Nat} {G : zG} {I : zI} {sz pc : Nat} {lv : List (Option Value)} {st : List Value}
theorem v_jall (pc2 : Nat) (P : Int32 → Prop) (h : (∀ x, P x → z_V E l (y, cc, nL, ret, hh) R mc ms Q k n G I sz pc2 lv (.int x :: st)) → z_V E l (y, cc, nL, ret, hh) R mc ms Q k n G I sz pc lv st) (hJ : ∀ x, P x → z_V E l (y, cc, nL, ret, hh) R mc ms Q k n G I sz pc2 lv (.int x :: st)) : z_V E l (y, cc, nL, ret, hh) R mc ms Q k n G I sz pc lv st := h hJ
end LALL
theorem x_task' {S : zS} {x y c3 : Int32} {t : Nat} (w : Nat) (hW : WF S.1) (ht : t < cnt S.1) (hx : x = nI t) (hw : w ≤ 5 := by omega) (hy : y = nI w := by rfl) : cv_3 S x y c3 = tf S.1 t w := by rw [hx]; exact x_task w hW ht hw hy
theorem am_le (acts : Nat) : acts_more acts - 1 < 2 ^ 31 ∨ 14 < acts_more acts := by omega
theorem am_14 (acts : Nat) (h : acts ≤ 14) : acts_more acts - 1 < 2 ^ 31 := by
  unfold acts_more
  split <;> omega
theorem run_0 : ∀ (n : Nat) (r : zR), WF r → ∀ t, t < cnt r → tf (p_run n r) t 0 = tf r t 0
  | 0, _, _, _, _ => rfl
  | n + 1, r, hW, t, ht => by
    rw [p_run, run_0 n (p_tick r) (WF_tick hW) t (by rw [cnt_tick]; exact ht), tick_0 hW ht]
/-- the loader, by what was told of it -/
theorem idle_said {r : zR} (hW : WF r) {n : Nat} (hn : n ≤ 60) : (if p_idle (p_run n r) = 0 then (1 : Int32) else 0) = (if nI n < p_idle r then 0 else 1) ∧ p_run n r 2 = r 2 + (if p_idle r ≤ 0 then 0 else if nI n < p_idle r then 0 else 1) := by
  have en := nI_toInt (show n < 2 ^ 31 by omega)
  by_cases q : r 5 = -1
  · obtain ⟨a, b⟩ := run_idle0 n r q
    have e0 := (idle_0 hW).mpr q
    rw [if_pos ((idle_0 (WF_run n r hW)).mpr a), if_neg (by rw [e0, Int32.lt_iff_toInt_lt, en, i_0]; omega), if_pos (by rw [e0]; exact Int32.le_refl _), b, Int32.add_zero]
    exact ⟨rfl, rfl⟩
  · obtain ⟨f1, f2⟩ := run_idle1 n r hW q
    have h1 := (idle_load hW q).1
    rw [if_neg (c := p_idle r ≤ 0) (by rw [Int32.le_iff_toInt_le, i_0]; omega)]
    by_cases q2 : (p_idle r).toInt ≤ n
    · obtain ⟨a, b⟩ := f1 q2
      rw [if_pos ((idle_0 (WF_run n r hW)).mpr a), if_neg (by rw [Int32.lt_iff_toInt_lt, en]; omega), b]
      exact ⟨rfl, rfl⟩
    · obtain ⟨a, b⟩ := f2 (by omega)
      rw [if_neg (fun q3 => a ((idle_0 (WF_run n r hW)).mp q3)), if_pos (by rw [Int32.lt_iff_toInt_lt, en]; omega), b, Int32.add_zero]
      exact ⟨rfl, rfl⟩
section LTICK
variable {E : zE} {l : Launch} {G : zG} {c : Nat} {S : zS}
set_option maxRecDepth 20000 in
set_option maxHeartbeats 4000000 in
theorem ticks_loop {sz0 : Nat} (hl : l.stackTraces = false) (hK : ShK E G c) (hQ : ShK E G (c + 187)) (hW : WF S.1) (hacts : S.2.1.1 ≤ 14) (t n a : Nat) (ht : t < cnt S.1) (ha60 : a ≤ 60) (e1 : tf (p_run n S.1) t 1 = p_it (tf S.1 t 0) a (tf S.1 t 1)) (x2 x5 x7 x9 x10 x12 : Int32) : ∀ (f j : Nat) (I : zI) (sz kk nn : Nat), a = j + f → AbsK I c (s_now S (p_run n S.1)) → AbsK I (c + 187) (s_now S (p_run n S.1)) → kk + f + 10 ≤ 100 → nn + 6 * f + 60 ≤ 600 → z_V E l mL_ticks (z_rm 11 100 600) 100 600 (z_q (z_w2 c 1 (s_ru S) (s_ru S) G sz0)) kk nn G I sz 271 [some (.ref c), some (.ref (c + 187)), some (.int x2), some (.int (nI t)), some (.int (p_idle S.1)), some (.int x5), some (.int (tf (p_run n S.1) t 1)), some (.int x7), some (.int (nI a)), some (.int x9), some (.int x10), some (.int (tf S.1 t 1)), some (.int x12), some (.int (1)), some (.int (p_it (tf S.1 t 0) j (tf S.1 t 1))), some (.int (nI j))] [] := by
  intro f
  induction f with
  | zero =>
    intro j I sz kk nn ha hA hB hkk hnn
    refine v_iload (pc' := 273) dL_ticks_271 rfl rfl ?_
    refine v_iload (pc' := 275) dL_ticks_273 rfl rfl ?_
    refine v_icmp_ge (tgt := 309) (pc' := 278) dL_ticks_275 (by decide) rfl (fun c_275 => ?_) (fun c_275 => ?_)
    · rw [Nat.add_zero] at ha
      subst ha
      refine v_iload (pc' := 311) dL_ticks_309 rfl rfl ?_
      refine v_if_eq (tgt := 377) (pc' := 314) dL_ticks_311 (by decide) rfl (fun c_311 => ?_) (fun c_311 => ?_)
      · exact absurd c_311 (by decide)
      · refine v_iload (pc' := 316) dL_ticks_314 rfl rfl ?_
        refine v_iload (pc' := 318) dL_ticks_316 rfl rfl ?_
        refine v_icmp_ne (tgt := 377) (pc' := 321) dL_ticks_318 (by decide) rfl (fun c_318 => ?_) (fun c_318 => ?_)
        · exact absurd e1.symm c_318
        · refine v_aload_n (pc' := 322) dL_ticks_321 rfl rfl ?_
          refine v_bipush (pc' := 324) dL_ticks_322 kb_14 rfl ?_
          refine v_iconst (pc' := 325) dL_ticks_324 kc_0 rfl ?_
          refine v_iconst (pc' := 326) dL_ticks_325 kc_0 rfl ?_
          refine v_iconst (pc' := 327) dL_ticks_326 kc_0 rfl ?_
          refine v_k2o (na := 5) (pc' := 330) (z_K1.to (call_14 hl hK hA _ _ _) (x_und _) (s_und _)) hB dL_ticks_327 lk_L_164 mwL_call msL_call rfl rfl (by decide) ⟨by omega, by omega⟩ (Nat.le_of_ble_eq_true rfl) rfl ?_
          intro I1 s1 hA1 hB1
          refine v_cSR (pc' := 333) (hk9 := by omega) (hn9 := by omega) (c_thrown hl _ (am_14 _ hacts)) dL_ticks_330 lk_L_207 mwL_thrown msL_thrown rfl rfl (by decide) (Nat.le_of_ble_eq_true rfl) rfl ?_
          refine v_if_ne (tgt := 377) (pc' := 336) dL_ticks_333 (by decide) rfl (fun c_333 => ?_) (fun c_333 => ?_)
          · exact absurd rfl c_333
          · refine v_aload_n (pc' := 337) dL_ticks_336 rfl rfl ?_
            refine v_bipush (pc' := 339) dL_ticks_337 kb_14 rfl ?_
            refine v_iconst (pc' := 340) dL_ticks_339 kc_0 rfl ?_
            refine v_iconst (pc' := 341) dL_ticks_340 kc_0 rfl ?_
            refine v_iconst (pc' := 342) dL_ticks_341 kc_0 rfl ?_
            refine v_k2q (na := 5) (pc' := 345) (z_K1.to (call_14 hl hQ hB1 _ _ _) (x_und _) (s_und _)) hA1 dL_ticks_342 lk_L_164 mwL_call msL_call rfl rfl (by decide) ⟨by omega, by omega⟩ (Nat.le_of_ble_eq_true rfl) rfl ?_
            intro I2 s2 hA2 hB2
            refine v_cSR (pc' := 348) (hk9 := by omega) (hn9 := by omega) (c_thrown hl _ (am_14 _ hacts)) dL_ticks_345 lk_L_207 mwL_thrown msL_thrown rfl rfl (by decide) (Nat.le_of_ble_eq_true rfl) rfl ?_
            refine v_if_ne (tgt := 377) (pc' := 351) dL_ticks_348 (by decide) rfl (fun c_348 => ?_) (fun c_348 => ?_)
            · exact absurd rfl c_348
            · refine v_aload_n (pc' := 352) dL_ticks_351 rfl rfl ?_
              refine v_iconst (pc' := 353) dL_ticks_352 kc_3 rfl ?_
              refine v_iload_n (pc' := 354) dL_ticks_353 rfl rfl ?_
              refine v_iconst (pc' := 355) dL_ticks_354 kc_1 rfl ?_
              refine v_iconst (pc' := 356) dL_ticks_355 kc_0 rfl ?_
              refine v_k2o (na := 5) (pc' := 359) (z_K1.to (call_3 hl hK hA2 _ _ _) (x_task 1 (S := s_ru S) hW ht) (rfl)) hB2 dL_ticks_356 lk_L_164 mwL_call msL_call rfl rfl (by decide) ⟨by omega, by omega⟩ (Nat.le_of_ble_eq_true rfl) rfl ?_
              intro I3 s3 hA3 hB3
              refine v_iload (pc' := 361) dL_ticks_359 rfl rfl ?_
              refine v_icmp_ne (tgt := 377) (pc' := 364) dL_ticks_361 (by decide) rfl (fun c_361 => ?_) (fun c_361 => ?_)
              · exact absurd rfl c_361
              · refine v_aload_n (pc' := 365) dL_ticks_364 rfl rfl ?_
                refine v_i2o (pc' := 368) hl rfl hK hA3 hB3 dL_ticks_365 rfl (by decide) ⟨by omega, by omega⟩ (Nat.le_of_ble_eq_true rfl) rfl ?_
                intro I4 s4 hA4 hB4
                refine v_iload (pc' := 370) dL_ticks_368 rfl rfl ?_
                refine v_icmp_ne (tgt := 377) (pc' := 373) dL_ticks_370 (by decide) rfl (fun c_370 => ?_) (fun c_370 => ?_)
                · exact absurd rfl c_370
                · refine v_iconst (pc' := 374) dL_ticks_373 kc_1 rfl ?_
                  refine v_goto (tgt := 378) dL_ticks_374 (by decide) ?_
                  exact v_zret dL_ticks_378 rfl (by omega) (by omega) rfl ⟨rfl, rfl, hA4, hB4⟩
    · exact absurd (by rw [ha, Nat.add_zero]; exact Int32.le_refl _) c_275
  | succ f ih =>
    intro j I sz kk nn ha hA hB hkk hnn
    refine v_iload (pc' := 273) dL_ticks_271 rfl rfl ?_
    refine v_iload (pc' := 275) dL_ticks_273 rfl rfl ?_
    refine v_icmp_ge (tgt := 309) (pc' := 278) dL_ticks_275 (by decide) rfl (fun c_275 => ?_) (fun c_275 => ?_)
    · exact absurd c_275 (nI_ge (by omega) (by omega))
    · refine v_bipush (pc' := 280) dL_ticks_278 kb_31 rfl ?_
      refine v_iload (pc' := 282) dL_ticks_280 rfl rfl ?_
      refine v_imul (pc' := 283) dL_ticks_282 rfl ?_
      refine v_bipush (pc' := 285) dL_ticks_283 kb_7 rfl ?_
      refine v_aload_n (pc' := 286) dL_ticks_285 rfl rfl ?_
      refine v_iconst (pc' := 287) dL_ticks_286 kc_3 rfl ?_
      refine v_iload_n (pc' := 288) dL_ticks_287 rfl rfl ?_
      refine v_iconst (pc' := 289) dL_ticks_288 kc_0 rfl ?_
      refine v_iconst (pc' := 290) dL_ticks_289 kc_0 rfl ?_
      refine v_k2o (na := 5) (pc' := 293) (z_K1.to (call_3 hl hK hA _ _ _) ((x_task 0 (S := s_now S (p_run n S.1)) (WF_run n S.1 hW) (by show t < cnt (p_run n S.1); rw [cnt_run]; exact ht)).trans (run_0 n S.1 hW t ht)) (rfl)) hB dL_ticks_290 lk_L_164 mwL_call msL_call rfl rfl (by decide) ⟨by omega, by omega⟩ (Nat.le_of_ble_eq_true rfl) rfl ?_
      intro I1 s1 hA1 hB1
      refine v_imul (pc' := 294) dL_ticks_293 rfl ?_
      refine v_iadd (pc' := 295) dL_ticks_294 rfl ?_
      refine v_iconst (pc' := 296) dL_ticks_295 kc_1 rfl ?_
      refine v_iadd (pc' := 297) dL_ticks_296 rfl ?_
      refine v_sipush (pc' := 300) dL_ticks_297 ks_997 rfl ?_
      refine v_irem (pc' := 301) dL_ticks_300 (by decide) rfl ?_
      have ep := p_it_s (tf S.1 t 0) j (tf S.1 t 1)
      unfold p_st z_rem at ep
      rw [← ep]
      refine v_istore14 (pc' := 303) dL_ticks_301 (by decide) rfl rfl ?_
      refine v_iinc15 (pc' := 306) dL_ticks_303 (by decide) rfl kc_1 (nI_1 j) rfl ?_
      refine v_goto (tgt := 271) dL_ticks_306 (by decide) ?_
      exact ih (j + 1) _ _ _ _ (by omega) hA1 hB1 (by omega) (by omega)
set_option maxRecDepth 20000 in
set_option maxHeartbeats 4000000 in
theorem c_ticks {I : zI} {sz : Nat} (hl : l.stackTraces = false) (hK : ShK E G c) (hQ : ShK E G (c + 187)) (hA : AbsK I c S) (hB : AbsK I (c + 187) S) (hacts : S.2.1.1 ≤ 14) (h1 : 1 ≤ cnt S.1) (m : Nat) (hm : m < 2 ^ 31) : z_K2 E l mL_ticks 11 100 600 [.ref c, .ref (c + 187), .int (nI m)] G I sz c 1 (s_ru S) (s_ru S) := by
  refine z_Ct.of hl pn_L [some (.ref c), some (.ref (c + 187)), some (.int (nI m)), none, none, none, none, none, none, none, none, none, none, none, none, none] rfl (Nat.le_of_ble_eq_true rfl) ?_
  have hW : WF S.1 := hA.2.2.1
  have h6 := hW.1.1
  have h0 : ¬ S.1 0 = 0 := by
    rw [hW.1.2]
    exact fun q => by have := (nI_eq (b := 0) (by omega) (by omega)).mp q; omega
  have et : nI m - nI m / S.1 0 * S.1 0 = nI (m % cnt S.1) := by
    rw [hW.1.2]
    exact rm hm (by omega) (by omega)
  have ht : m % cnt S.1 < cnt S.1 := Nat.mod_lt _ (by omega)
  generalize m % cnt S.1 = t at et ht
  have hnum : ∃ n : Nat, 1 ≤ n ∧ n ≤ 60 ∧ (1 : Int32) + (nI m / 12 - nI m / 12 / 60 * 60) = nI n := by
    refine ⟨1 + m / 12 % 60, by omega, by have := Nat.mod_lt (m / 12) (show 0 < 60 by omega); omega, ?_⟩
    rw [show (nI m / 12 : Int32) = nI (m / 12) from dv (d := 12) hm (by omega) (by omega), show nI (m / 12) - nI (m / 12) / 60 * 60 = nI (m / 12 % 60) from rm (d := 60) (by omega) (by omega) (by omega)]
    exact nI_add 1 _
  have hidle : ¬ p_idle S.1 ≤ 1 → ¬ (60 : Int32) < p_idle S.1 → ∃ n : Nat, 1 ≤ n ∧ n ≤ 60 ∧ p_idle S.1 = nI n := by
    intro q1 q2
    rw [Int32.le_iff_toInt_le, i_1] at q1
    rw [Int32.lt_iff_toInt_lt, show (60 : Int32).toInt = 60 from by decide] at q2
    obtain ⟨n, hn, e⟩ := I32_nI (x := p_idle S.1) (n := 61) (by omega) (by omega)
    refine ⟨n, ?_, by omega, e⟩
    rw [e, nI_toInt (by omega)] at q1
    omega
  refine v_iload_n (pc' := 1) dL_ticks_0 rfl rfl ?_
  refine v_aload_n (pc' := 2) dL_ticks_1 rfl rfl ?_
  refine v_iconst (pc' := 3) dL_ticks_2 kc_2 rfl ?_
  refine v_iconst (pc' := 4) dL_ticks_3 kc_0 rfl ?_
  refine v_iconst (pc' := 5) dL_ticks_4 kc_0 rfl ?_
  refine v_iconst (pc' := 6) dL_ticks_5 kc_0 rfl ?_
  refine v_k2o (na := 5) (pc' := 9) (z_K1.to (call_2 hl hK hA _ _ _) (x_ab0) (rfl)) hB dL_ticks_6 lk_L_164 mwL_call msL_call rfl rfl (by decide) ⟨by omega, by omega⟩ (Nat.le_of_ble_eq_true rfl) rfl ?_
  intro I1 s1 hA1 hB1
  refine v_irem (pc' := 10) dL_ticks_9 h0 rfl ?_
  rw [et]
  refine v_istore_n3 (pc' := 11) dL_ticks_10 (by decide) rfl rfl ?_
  refine v_aload_n (pc' := 12) dL_ticks_11 rfl rfl ?_
  refine v_i2o (pc' := 15) hl rfl hK hA1 hB1 dL_ticks_12 rfl (by decide) ⟨by omega, by omega⟩ (Nat.le_of_ble_eq_true rfl) rfl ?_
  intro I2 s2 hA2 hB2
  refine v_istore4 (pc' := 17) dL_ticks_15 (by decide) rfl rfl ?_
  refine v_jall 53 (fun x => ∃ n : Nat, 1 ≤ n ∧ n ≤ 60 ∧ x = nI n) (fun J_17 => ?_) ?_
  · refine v_iload (pc' := 19) dL_ticks_17 rfl rfl ?_
    refine v_iconst (pc' := 20) dL_ticks_19 kc_1 rfl ?_
    refine v_icmp_le (tgt := 44) (pc' := 23) dL_ticks_20 (by decide) rfl (fun c_20 => ?_) (fun c_20 => ?_)
    · refine v_iconst (pc' := 45) dL_ticks_44 kc_1 rfl ?_
      refine v_iload_n (pc' := 46) dL_ticks_45 rfl rfl ?_
      refine v_bipush (pc' := 48) dL_ticks_46 kb_12 rfl ?_
      refine v_idiv (pc' := 49) dL_ticks_48 (by decide) rfl ?_
      refine v_bipush (pc' := 51) dL_ticks_49 kb_60 rfl ?_
      refine v_irem (pc' := 52) dL_ticks_51 (by decide) rfl ?_
      refine v_iadd (pc' := 53) dL_ticks_52 rfl ?_
      exact J_17 _ (hnum)
    · refine v_iload (pc' := 25) dL_ticks_23 rfl rfl ?_
      refine v_bipush (pc' := 27) dL_ticks_25 kb_60 rfl ?_
      refine v_icmp_gt (tgt := 44) (pc' := 30) dL_ticks_27 (by decide) rfl (fun c_27 => ?_) (fun c_27 => ?_)
      · refine v_iconst (pc' := 45) dL_ticks_44 kc_1 rfl ?_
        refine v_iload_n (pc' := 46) dL_ticks_45 rfl rfl ?_
        refine v_bipush (pc' := 48) dL_ticks_46 kb_12 rfl ?_
        refine v_idiv (pc' := 49) dL_ticks_48 (by decide) rfl ?_
        refine v_bipush (pc' := 51) dL_ticks_49 kb_60 rfl ?_
        refine v_irem (pc' := 52) dL_ticks_51 (by decide) rfl ?_
        refine v_iadd (pc' := 53) dL_ticks_52 rfl ?_
        exact J_17 _ (hnum)
      · refine v_iload_n (pc' := 31) dL_ticks_30 rfl rfl ?_
        refine v_bipush (pc' := 33) dL_ticks_31 kb_6 rfl ?_
        refine v_idiv (pc' := 34) dL_ticks_33 (by decide) rfl ?_
        refine v_iconst (pc' := 35) dL_ticks_34 kc_2 rfl ?_
        refine v_irem (pc' := 36) dL_ticks_35 (by decide) rfl ?_
        refine v_if_ne (tgt := 44) (pc' := 39) dL_ticks_36 (by decide) rfl (fun c_36 => ?_) (fun c_36 => ?_)
        · refine v_iconst (pc' := 45) dL_ticks_44 kc_1 rfl ?_
          refine v_iload_n (pc' := 46) dL_ticks_45 rfl rfl ?_
          refine v_bipush (pc' := 48) dL_ticks_46 kb_12 rfl ?_
          refine v_idiv (pc' := 49) dL_ticks_48 (by decide) rfl ?_
          refine v_bipush (pc' := 51) dL_ticks_49 kb_60 rfl ?_
          refine v_irem (pc' := 52) dL_ticks_51 (by decide) rfl ?_
          refine v_iadd (pc' := 53) dL_ticks_52 rfl ?_
          exact J_17 _ (hnum)
        · refine v_iload (pc' := 41) dL_ticks_39 rfl rfl ?_
          refine v_goto (tgt := 53) dL_ticks_41 (by decide) ?_
          exact J_17 _ (hidle c_20 c_27)
  rintro _ ⟨n, n1, n60, rfl⟩
  obtain ⟨a, b, an, ab, b6, e3, e1, e4⟩ := run_t n S.1 hW t ht
  have ed : tf (p_run n S.1) t 3 - tf S.1 t 3 = nI a := by rw [e3, Int32.add_comm, Int32.add_sub_cancel]
  have es : p_run n S.1 4 - S.1 4 = nI b := by rw [e4, Int32.add_comm, Int32.add_sub_cancel]
  obtain ⟨g1, g2⟩ := idle_said hW n60
  have hW2 : WF (s_now S (p_run n S.1)).1 := WF_run n S.1 hW
  have ht2 : t < cnt (s_now S (p_run n S.1)).1 := by show t < cnt (p_run n S.1); rw [cnt_run]; exact ht
  refine v_istore5 (pc' := 55) dL_ticks_53 (by decide) rfl rfl ?_
  refine v_aload_n (pc' := 56) dL_ticks_55 rfl rfl ?_
  refine v_bipush (pc' := 58) dL_ticks_56 kb_17 rfl ?_
  refine v_iload_n (pc' := 59) dL_ticks_58 rfl rfl ?_
  refine v_iload (pc' := 61) dL_ticks_59 rfl rfl ?_
  refine v_iconst (pc' := 62) dL_ticks_61 kc_0 rfl ?_
  refine v_k2o (na := 5) (pc' := 65) (z_K1.to (call_17 hl hK hA2 _ _ _) (x_com0 hW ht n1 n60) (rfl)) hB2 dL_ticks_62 lk_L_164 mwL_call msL_call rfl rfl (by decide) ⟨by omega, by omega⟩ (Nat.le_of_ble_eq_true rfl) rfl ?_
  intro I3 s3 hA3 hB3
  refine v_istore6 (pc' := 67) dL_ticks_65 (by decide) rfl rfl ?_
  refine v_aload_n (pc' := 68) dL_ticks_67 rfl rfl ?_
  refine v_bipush (pc' := 70) dL_ticks_68 kb_17 rfl ?_
  refine v_iload_n (pc' := 71) dL_ticks_70 rfl rfl ?_
  refine v_iload (pc' := 73) dL_ticks_71 rfl rfl ?_
  refine v_iconst (pc' := 74) dL_ticks_73 kc_1 rfl ?_
  refine v_k2o (na := 5) (pc' := 77) (z_K1.to (call_17 hl hK hA3 _ _ _) (x_com1 hW ht n1 n60) (rfl)) hB3 dL_ticks_74 lk_L_164 mwL_call msL_call rfl rfl (by decide) ⟨by omega, by omega⟩ (Nat.le_of_ble_eq_true rfl) rfl ?_
  intro I4 s4 hA4 hB4
  refine v_istore7 (pc' := 79) dL_ticks_77 (by decide) rfl rfl ?_
  refine v_aload_n (pc' := 80) dL_ticks_79 rfl rfl ?_
  refine v_bipush (pc' := 82) dL_ticks_80 kb_17 rfl ?_
  refine v_iload_n (pc' := 83) dL_ticks_82 rfl rfl ?_
  refine v_iload (pc' := 85) dL_ticks_83 rfl rfl ?_
  refine v_iconst (pc' := 86) dL_ticks_85 kc_2 rfl ?_
  refine v_k2o (na := 5) (pc' := 89) (z_K1.to (call_17 hl hK hA4 _ _ _) (x_com2 hW ht n1 n60) (rfl)) hB4 dL_ticks_86 lk_L_164 mwL_call msL_call rfl rfl (by decide) ⟨by omega, by omega⟩ (Nat.le_of_ble_eq_true rfl) rfl ?_
  intro I5 s5 hA5 hB5
  rw [ed]
  refine v_istore8 (pc' := 91) dL_ticks_89 (by decide) rfl rfl ?_
  refine v_aload_n (pc' := 92) dL_ticks_91 rfl rfl ?_
  refine v_iconst (pc' := 93) dL_ticks_92 kc_3 rfl ?_
  refine v_iload_n (pc' := 94) dL_ticks_93 rfl rfl ?_
  refine v_iconst (pc' := 95) dL_ticks_94 kc_3 rfl ?_
  refine v_iconst (pc' := 96) dL_ticks_95 kc_0 rfl ?_
  refine v_k2o (na := 5) (pc' := 99) (z_K1.to (call_3 hl hK hA5 _ _ _) (x_task 3 hW ht) (rfl)) hB5 dL_ticks_96 lk_L_164 mwL_call msL_call rfl rfl (by decide) ⟨by omega, by omega⟩ (Nat.le_of_ble_eq_true rfl) rfl ?_
  intro I6 s6 hA6 hB6
  refine v_istore9 (pc' := 101) dL_ticks_99 (by decide) rfl rfl ?_
  refine v_aload_n (pc' := 102) dL_ticks_101 rfl rfl ?_
  refine v_iconst (pc' := 103) dL_ticks_102 kc_2 rfl ?_
  refine v_bipush (pc' := 105) dL_ticks_103 kb_6 rfl ?_
  refine v_iconst (pc' := 106) dL_ticks_105 kc_0 rfl ?_
  refine v_iconst (pc' := 107) dL_ticks_106 kc_0 rfl ?_
  refine v_k2o (na := 5) (pc' := 110) (z_K1.to (call_2 hl hK hA6 _ _ _) (x_ab6) (rfl)) hB6 dL_ticks_107 lk_L_164 mwL_call msL_call rfl rfl (by decide) ⟨by omega, by omega⟩ (Nat.le_of_ble_eq_true rfl) rfl ?_
  intro I7 s7 hA7 hB7
  refine v_istore10 (pc' := 112) dL_ticks_110 (by decide) rfl rfl ?_
  refine v_aload_n (pc' := 113) dL_ticks_112 rfl rfl ?_
  refine v_iconst (pc' := 114) dL_ticks_113 kc_3 rfl ?_
  refine v_iload_n (pc' := 115) dL_ticks_114 rfl rfl ?_
  refine v_iconst (pc' := 116) dL_ticks_115 kc_1 rfl ?_
  refine v_iconst (pc' := 117) dL_ticks_116 kc_0 rfl ?_
  refine v_k2o (na := 5) (pc' := 120) (z_K1.to (call_3 hl hK hA7 _ _ _) (x_task 1 hW ht) (rfl)) hB7 dL_ticks_117 lk_L_164 mwL_call msL_call rfl rfl (by decide) ⟨by omega, by omega⟩ (Nat.le_of_ble_eq_true rfl) rfl ?_
  intro I8 s8 hA8 hB8
  refine v_istore11 (pc' := 122) dL_ticks_120 (by decide) rfl rfl ?_
  refine v_aload_n (pc' := 123) dL_ticks_122 rfl rfl ?_
  refine v_bipush (pc' := 125) dL_ticks_123 kb_12 rfl ?_
  refine v_iload (pc' := 127) dL_ticks_125 rfl rfl ?_
  refine v_iconst (pc' := 128) dL_ticks_127 kc_0 rfl ?_
  refine v_iconst (pc' := 129) dL_ticks_128 kc_0 rfl ?_
  refine v_k2o (na := 5) (pc' := 132) (z_K1.to (call_12 hl hK hA8 _ _ _) (x_run n1 n60) (s_run n1 n60)) hB8 dL_ticks_129 lk_L_164 mwL_call msL_call rfl rfl (by decide) ⟨by omega, by omega⟩ (Nat.le_of_ble_eq_true rfl) rfl ?_
  intro I9 s9 hA9 hB9
  rw [es]
  refine v_istore12 (pc' := 134) dL_ticks_132 (by decide) rfl rfl ?_
  refine v_iload (pc' := 136) dL_ticks_134 rfl rfl ?_
  refine v_aload_n (pc' := 137) dL_ticks_136 rfl rfl ?_
  refine v_bipush (pc' := 139) dL_ticks_137 kb_12 rfl ?_
  refine v_iload (pc' := 141) dL_ticks_139 rfl rfl ?_
  refine v_iconst (pc' := 142) dL_ticks_141 kc_0 rfl ?_
  refine v_iconst (pc' := 143) dL_ticks_142 kc_0 rfl ?_
  refine v_k2q (na := 5) (pc' := 146) (z_K1.to (call_12 hl hQ hB9 _ _ _) ((x_run n1 n60).trans es) (s_run n1 n60)) hA9 dL_ticks_143 lk_L_164 mwL_call msL_call rfl rfl (by decide) ⟨by omega, by omega⟩ (Nat.le_of_ble_eq_true rfl) rfl ?_
  intro I10 s10 hA10 hB10
  refine v_icmp_ne (tgt := 261) (pc' := 149) dL_ticks_146 (by decide) rfl (fun c_146 => ?_) (fun c_146 => ?_)
  · exact absurd rfl c_146
  · refine v_iload (pc' := 151) dL_ticks_149 rfl rfl ?_
    refine v_iload (pc' := 153) dL_ticks_151 rfl rfl ?_
    refine v_icmp_lt (tgt := 261) (pc' := 156) dL_ticks_153 (by decide) rfl (fun c_153 => ?_) (fun c_153 => ?_)
    · exact absurd c_153 (nI_nlt ab (by omega))
    · refine v_aload_n (pc' := 157) dL_ticks_156 rfl rfl ?_
      refine v_iconst (pc' := 158) dL_ticks_157 kc_3 rfl ?_
      refine v_iload_n (pc' := 159) dL_ticks_158 rfl rfl ?_
      refine v_iconst (pc' := 160) dL_ticks_159 kc_1 rfl ?_
      refine v_iconst (pc' := 161) dL_ticks_160 kc_0 rfl ?_
      refine v_k2o (na := 5) (pc' := 164) (z_K1.to (call_3 hl hK hA10 _ _ _) (x_task 1 hW2 ht2) (rfl)) hB10 dL_ticks_161 lk_L_164 mwL_call msL_call rfl rfl (by decide) ⟨by omega, by omega⟩ (Nat.le_of_ble_eq_true rfl) rfl ?_
      intro I11 s11 hA11 hB11
      refine v_iload (pc' := 166) dL_ticks_164 rfl rfl ?_
      refine v_icmp_ne (tgt := 261) (pc' := 169) dL_ticks_166 (by decide) rfl (fun c_166 => ?_) (fun c_166 => ?_)
      · exact absurd rfl c_166
      · refine v_aload_n (pc' := 170) dL_ticks_169 rfl rfl ?_
        refine v_iconst (pc' := 171) dL_ticks_170 kc_3 rfl ?_
        refine v_iload_n (pc' := 172) dL_ticks_171 rfl rfl ?_
        refine v_iconst (pc' := 173) dL_ticks_172 kc_2 rfl ?_
        refine v_iconst (pc' := 174) dL_ticks_173 kc_0 rfl ?_
        refine v_k2o (na := 5) (pc' := 177) (z_K1.to (call_3 hl hK hA11 _ _ _) (x_task 2 hW2 ht2) (rfl)) hB11 dL_ticks_174 lk_L_164 mwL_call msL_call rfl rfl (by decide) ⟨by omega, by omega⟩ (Nat.le_of_ble_eq_true rfl) rfl ?_
        intro I12 s12 hA12 hB12
        refine v_iload (pc' := 179) dL_ticks_177 rfl rfl ?_
        refine v_icmp_ne (tgt := 261) (pc' := 182) dL_ticks_179 (by decide) rfl (fun c_179 => ?_) (fun c_179 => ?_)
        · exact absurd rfl c_179
        · refine v_aload_n (pc' := 183) dL_ticks_182 rfl rfl ?_
          refine v_iconst (pc' := 184) dL_ticks_183 kc_3 rfl ?_
          refine v_iload_n (pc' := 185) dL_ticks_184 rfl rfl ?_
          refine v_iconst (pc' := 186) dL_ticks_185 kc_3 rfl ?_
          refine v_iconst (pc' := 187) dL_ticks_186 kc_0 rfl ?_
          refine v_k2o (na := 5) (pc' := 190) (z_K1.to (call_3 hl hK hA12 _ _ _) (x_task 3 hW2 ht2) (rfl)) hB12 dL_ticks_187 lk_L_164 mwL_call msL_call rfl rfl (by decide) ⟨by omega, by omega⟩ (Nat.le_of_ble_eq_true rfl) rfl ?_
          intro I13 s13 hA13 hB13
          refine v_iload (pc' := 192) dL_ticks_190 rfl rfl ?_
          refine v_iload (pc' := 194) dL_ticks_192 rfl rfl ?_
          refine v_iadd (pc' := 195) dL_ticks_194 rfl ?_
          refine v_icmp_ne (tgt := 261) (pc' := 198) dL_ticks_195 (by decide) rfl (fun c_195 => ?_) (fun c_195 => ?_)
          · exact absurd e3 c_195
          · refine v_aload_n (pc' := 199) dL_ticks_198 rfl rfl ?_
            refine v_i2o (pc' := 202) hl rfl hK hA13 hB13 dL_ticks_199 rfl (by decide) ⟨by omega, by omega⟩ (Nat.le_of_ble_eq_true rfl) rfl ?_
            intro I14 s14 hA14 hB14
            refine v_dne (pc' := 210) dL_ticks_202 dL_ticks_205 dL_ticks_206 dL_ticks_209 kc_1 kc_0 rfl ?_
            refine v_iload (pc' := 212) dL_ticks_210 rfl rfl ?_
            refine v_iload (pc' := 214) dL_ticks_212 rfl rfl ?_
            refine v_dcgt (pc' := 222) dL_ticks_214 dL_ticks_217 dL_ticks_218 dL_ticks_221 kc_1 kc_0 rfl ?_
            refine v_icmp_ne (tgt := 261) (pc' := 225) dL_ticks_222 (by decide) rfl (fun c_222 => ?_) (fun c_222 => ?_)
            · exact absurd g1 c_222
            · refine v_aload_n (pc' := 226) dL_ticks_225 rfl rfl ?_
              refine v_iconst (pc' := 227) dL_ticks_226 kc_2 rfl ?_
              refine v_bipush (pc' := 229) dL_ticks_227 kb_6 rfl ?_
              refine v_iconst (pc' := 230) dL_ticks_229 kc_0 rfl ?_
              refine v_iconst (pc' := 231) dL_ticks_230 kc_0 rfl ?_
              refine v_k2o (na := 5) (pc' := 234) (z_K1.to (call_2 hl hK hA14 _ _ _) (x_ab6) (rfl)) hB14 dL_ticks_231 lk_L_164 mwL_call msL_call rfl rfl (by decide) ⟨by omega, by omega⟩ (Nat.le_of_ble_eq_true rfl) rfl ?_
              intro I15 s15 hA15 hB15
              refine v_iload (pc' := 236) dL_ticks_234 rfl rfl ?_
              refine v_jv 253 (if p_idle S.1 ≤ 0 then 0 else if nI n < p_idle S.1 then 0 else 1) (fun J_236 => ?_) ?_
              · refine v_iload (pc' := 238) dL_ticks_236 rfl rfl ?_
                refine v_if_le (tgt := 252) (pc' := 241) dL_ticks_238 (by decide) rfl (fun c_238 => ?_) (fun c_238 => ?_)
                · refine v_iconst (pc' := 253) dL_ticks_252 kc_0 rfl ?_
                  exact v_top J_236 (if_pos c_238)
                · refine v_iload (pc' := 243) dL_ticks_241 rfl rfl ?_
                  refine v_iload (pc' := 245) dL_ticks_243 rfl rfl ?_
                  refine v_icmp_gt (tgt := 252) (pc' := 248) dL_ticks_245 (by decide) rfl (fun c_245 => ?_) (fun c_245 => ?_)
                  · refine v_iconst (pc' := 253) dL_ticks_252 kc_0 rfl ?_
                    exact v_top J_236 ((if_neg c_238).trans (if_pos c_245))
                  · refine v_iconst (pc' := 249) dL_ticks_248 kc_1 rfl ?_
                    refine v_goto (tgt := 253) dL_ticks_249 (by decide) ?_
                    exact v_top J_236 ((if_neg c_238).trans (if_neg c_245))
              refine v_iadd (pc' := 254) dL_ticks_253 rfl ?_
              refine v_icmp_ne (tgt := 261) (pc' := 257) dL_ticks_254 (by decide) rfl (fun c_254 => ?_) (fun c_254 => ?_)
              · exact absurd g2 c_254
              · refine v_iconst (pc' := 258) dL_ticks_257 kc_1 rfl ?_
                refine v_goto (tgt := 262) dL_ticks_258 (by decide) ?_
                refine v_istore13 (pc' := 264) dL_ticks_262 (by decide) rfl rfl ?_
                refine v_iload (pc' := 266) dL_ticks_264 rfl rfl ?_
                refine v_istore14 (pc' := 268) dL_ticks_266 (by decide) rfl rfl ?_
                refine v_iconst (pc' := 269) dL_ticks_268 kc_0 rfl ?_
                refine v_istore15 (pc' := 271) dL_ticks_269 (by decide) rfl rfl ?_
                exact ticks_loop hl hK hQ hW hacts t n a ht (by omega) e1 _ _ _ _ _ _ a 0 _ _ _ _ (by omega) hA15 hB15 (by omega) (by omega)
end LTICK
