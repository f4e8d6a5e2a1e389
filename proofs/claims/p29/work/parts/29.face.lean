/-! THE CLASS's own methods (written by wip/whole/gen_face.py) -/
section FACE
variable {E : zE} {l : Launch} {G : zG} {I : zI} {sz c : Nat} {S : zS}
set_option maxRecDepth 20000 in
set_option maxHeartbeats 4000000 in
theorem k_append (hl : l.stackTraces = false) (hK : ShK E G c) (hA : AbsK I c S) (x : Int32) : z_CK E l mX4_append [.ref c, .int x] G I sz c [nIAE, nISE] (e_append S x) (nI (S.2.2.1.2 + 1)) S (s_append S x) := by
  obtain ⟨k0, kT, kN, kTr, kH, kSl, kF, kS⟩ := id hK
  obtain ⟨aX, aN, aW, aH, aF, aS⟩ := id hA
  refine z_Cx.of hl pn_X4 [some (.ref c), some (.int x)] rfl (Nat.le_of_ble_eq_true rfl) ?_
  refine v_iload_n (pc' := 1) dX4_append_0 rfl rfl ?_
  refine v_iconst (pc' := 2) dX4_append_1 kc_0 rfl ?_
  refine v_sipush (pc' := 5) dX4_append_2 ks_255 rfl ?_
  refine v_cSR (pc' := 8) (c4_isBetween hl (x) 0 255) dX4_append_5 lk_X4_41 mwX4_isBetween msX4_isBetween rfl rfl (by decide) (Nat.le_of_ble_eq_true rfl) rfl ?_
  refine v_if_ne (tgt := 19) (pc' := 11) dX4_append_8 (by decide) rfl (fun c_8 => ?_) (fun c_8 => ?_)
  · first | rw [z_b_ne0] at c_8 | rw [z_b_eq0] at c_8
    refine v_aload_n (pc' := 20) dX4_append_19 rfl rfl ?_
    refine g_X4_10 (pc' := 23) rfl dX4_append_20 (by assumption) rfl ?_
    refine v_cVR (pc' := 26) (c3_isFull hl kT aX) dX4_append_23 lk_X4_48 mwX3_isFull miX3_isFull kT.1 rfl rfl rfl rfl (by decide) (Nat.le_of_ble_eq_true rfl) rfl ?_
    refine v_if_eq (tgt := 37) (pc' := 29) dX4_append_26 (by decide) rfl (fun c_26 => ?_) (fun c_26 => ?_)
    · rw [z_b_eq0, decide_eq_false_iff_not] at c_26
      have hn : S.2.2.1.2 < 120 := by omega
      obtain ⟨q, q1, q2, rfl⟩ := z_in_nI (lo := 0) (hi := 255) (by omega) (by omega) c_8
      refine v_aload_n (pc' := 38) dX4_append_37 rfl rfl ?_
      refine g_X4_10 (pc' := 41) rfl dX4_append_38 (by assumption) rfl ?_
      refine v_iload_n (pc' := 42) dX4_append_41 rfl rfl ?_
      refine v_i2c (pc' := 43) dX4_append_42 rfl ?_
      rw [show ((nI q).toUInt32 % 65536).toInt32 = nI q by rw [pk_char, pk_tn (by omega), Nat.mod_eq_of_lt (by omega)]]
      refine v_cVI (pc' := 46) (c3_put hl kT aX q (by omega) hn rfl) dX4_append_43 lk_X4_55 mwX3_put miX3_put kT.1 rfl rfl rfl rfl (by decide) (Nat.le_of_ble_eq_true rfl) rfl ?_
      rintro _ I2 ⟨rfl, rfl⟩
      have hX2 : AbsX (z_up (z_up I (c + 1 + 1) S.2.2.1.2 (nI q)) (c + 1) 1 (nI (S.2.2.1.2 + 1))) (c + 1) (fun k => if k = S.2.2.1.2 then q else S.2.2.1.1 k) (S.2.2.1.2 + 1) := by
        refine ⟨by omega, by rw [z_up_row, z_row_at, pk_us], fun k hk => ?_⟩
        rw [z_up_row, z_row_ne _ _ _ (by omega), z_up_row, z_row_at]
        by_cases e : k = S.2.2.1.2
        · subst e; simp only [if_true, pk_us]; exact ⟨by omega, trivial⟩
        · simp only [e, if_false]; rw [pk_un e]; exact aX.2.2 k (by omega)
      exact v_iret dX4_append_46 rfl (by decide) (by decide) ⟨rfl, Nat.le_refl _, by simp [e_append, ex, *], _, rfl, rfl, by rw [s_append, nI_clamp (by omega)]; exact hA.text hX2 (fun q1 h1 h2 => by rw [z_up_ne _ _ _ _ h1, z_up_ne _ _ _ _ (by omega)]), (FrK.up (by omega)).tr (FrK.up (by omega))⟩
    · rw [z_b_ne0, decide_eq_true_eq] at c_26
      have hn : ¬ S.2.2.1.2 < 120 := by omega
      exact v_ise rfl rfl dX4_append_29 dX4_append_32 dX4_append_33 dX4_append_36 (by decide) (by decide) (fun sz' h9 => ⟨rfl, h9, by simp [e_append, ex, *], hA, FrK.rf⟩)
  · first | rw [z_b_ne0] at c_8 | rw [z_b_eq0] at c_8
    exact v_iae rfl rfl dX4_append_11 dX4_append_14 dX4_append_15 dX4_append_18 (by decide) (by decide) (fun sz' h9 => ⟨rfl, h9, by simp [e_append, ex, *], hA, FrK.rf⟩)
set_option maxRecDepth 20000 in
set_option maxHeartbeats 4000000 in
theorem k_about (hl : l.stackTraces = false) (hK : ShK E G c) (hA : AbsK I c S) (x : Int32) : z_CK E l mX4_about [.ref c, .int x] G I sz c [nIAE] (e_about x) (v_about S.1 x.toNatClampNeg) S S := by
  obtain ⟨k0, kT, kN, kTr, kH, kSl, kF, kS⟩ := id hK
  obtain ⟨aX, aN, aW, aH, aF, aS⟩ := id hA
  refine z_Cx.of hl pn_X4 [some (.ref c), some (.int x)] rfl (Nat.le_of_ble_eq_true rfl) ?_
  cases hx : z_in x 0 8 with
  | true =>
    obtain ⟨q, q1, q2, rfl⟩ := z_in_nI (lo := 0) (hi := 8) (by omega) (by omega) hx
    rw [nI_clamp (by omega)]
    rcases (by omega : q = 0 ∨ q = 1 ∨ q = 2 ∨ q = 3 ∨ q = 4 ∨ q = 5 ∨ q = 6 ∨ q = 7 ∨ q = 8) with rfl | rfl | rfl | rfl | rfl | rfl | rfl | rfl | rfl
    · refine v_iload_n (pc' := 1) dX4_about_0 rfl rfl ?_
      refine v_tableIn (tgt := 52) 0 dX4_about_1 (by rw [nI_toInt (by omega)]; omega) (by decide) rfl (by decide) ?_
      refine v_aload_n (pc' := 53) dX4_about_52 rfl rfl ?_
      refine g_X4_19 (pc' := 56) rfl dX4_about_53 (by assumption) rfl ?_
      refine g_X4_92 (pc' := 59) rfl dX4_about_56 kN.1 rfl ?_
      exact v_iret dX4_about_59 rfl (by decide) (by decide) ⟨rfl, Nat.le_refl _, by rw [e_about, show z_in (nI 0) 0 8 = true by decide]; rfl, _, rfl, by simp only [v_about]; exact aN.1.1.1, hA, FrK.rf⟩
    · refine v_iload_n (pc' := 1) dX4_about_0 rfl rfl ?_
      refine v_tableIn (tgt := 60) 1 dX4_about_1 (by rw [nI_toInt (by omega)]; omega) (by decide) rfl (by decide) ?_
      refine v_aload_n (pc' := 61) dX4_about_60 rfl rfl ?_
      refine g_X4_19 (pc' := 64) rfl dX4_about_61 (by assumption) rfl ?_
      refine g_X4_95 (pc' := 67) rfl dX4_about_64 kN.1 rfl ?_
      exact v_iret dX4_about_67 rfl (by decide) (by decide) ⟨rfl, Nat.le_refl _, by rw [e_about, show z_in (nI 1) 0 8 = true by decide]; rfl, _, rfl, by simp only [v_about]; exact aN.1.1.2.1, hA, FrK.rf⟩
    · refine v_iload_n (pc' := 1) dX4_about_0 rfl rfl ?_
      refine v_tableIn (tgt := 68) 2 dX4_about_1 (by rw [nI_toInt (by omega)]; omega) (by decide) rfl (by decide) ?_
      refine v_aload_n (pc' := 69) dX4_about_68 rfl rfl ?_
      refine g_X4_19 (pc' := 72) rfl dX4_about_69 (by assumption) rfl ?_
      refine v_cVR (pc' := 75) (c1_countRunning hl kN aN aW) dX4_about_72 lk_X4_98 mwX1_countRunning miX1_countRunning kN.1 rfl rfl rfl rfl (by decide) (Nat.le_of_ble_eq_true rfl) rfl ?_
      exact v_iret dX4_about_75 rfl (by decide) (by decide) ⟨rfl, Nat.le_refl _, by rw [e_about, show z_in (nI 2) 0 8 = true by decide]; rfl, _, rfl, by simp [v_about], hA, FrK.rf⟩
    · refine v_iload_n (pc' := 1) dX4_about_0 rfl rfl ?_
      refine v_tableIn (tgt := 76) 3 dX4_about_1 (by rw [nI_toInt (by omega)]; omega) (by decide) rfl (by decide) ?_
      refine v_aload_n (pc' := 77) dX4_about_76 rfl rfl ?_
      refine g_X4_19 (pc' := 80) rfl dX4_about_77 (by assumption) rfl ?_
      refine v_cVR (pc' := 83) (c1_countFree hl kN aN aW) dX4_about_80 lk_X4_101 mwX1_countFree miX1_countFree kN.1 rfl rfl rfl rfl (by decide) (Nat.le_of_ble_eq_true rfl) rfl ?_
      exact v_iret dX4_about_83 rfl (by decide) (by decide) ⟨rfl, Nat.le_refl _, by rw [e_about, show z_in (nI 3) 0 8 = true by decide]; rfl, _, rfl, by simp [v_about], hA, FrK.rf⟩
    · refine v_iload_n (pc' := 1) dX4_about_0 rfl rfl ?_
      refine v_tableIn (tgt := 84) 4 dX4_about_1 (by rw [nI_toInt (by omega)]; omega) (by decide) rfl (by decide) ?_
      refine v_aload_n (pc' := 85) dX4_about_84 rfl rfl ?_
      refine g_X4_19 (pc' := 88) rfl dX4_about_85 (by assumption) rfl ?_
      refine v_cVR (pc' := 91) (c1_longest hl kN aN aW) dX4_about_88 lk_X4_104 mwX1_longestFreeRow miX1_longestFreeRow kN.1 rfl rfl rfl rfl (by decide) (Nat.le_of_ble_eq_true rfl) rfl ?_
      exact v_iret dX4_about_91 rfl (by decide) (by decide) ⟨rfl, Nat.le_refl _, by rw [e_about, show z_in (nI 4) 0 8 = true by decide]; rfl, _, rfl, by simp [v_about], hA, FrK.rf⟩
    · refine v_iload_n (pc' := 1) dX4_about_0 rfl rfl ?_
      refine v_tableIn (tgt := 92) 5 dX4_about_1 (by rw [nI_toInt (by omega)]; omega) (by decide) rfl (by decide) ?_
      refine v_aload_n (pc' := 93) dX4_about_92 rfl rfl ?_
      refine g_X4_19 (pc' := 96) rfl dX4_about_93 (by assumption) rfl ?_
      refine v_cVR (pc' := 99) (c1_countBad hl kN aN aW) dX4_about_96 lk_X4_107 mwX1_countBad miX1_countBad kN.1 rfl rfl rfl rfl (by decide) (Nat.le_of_ble_eq_true rfl) rfl ?_
      exact v_iret dX4_about_99 rfl (by decide) (by decide) ⟨rfl, Nat.le_refl _, by rw [e_about, show z_in (nI 5) 0 8 = true by decide]; rfl, _, rfl, by simp [v_about], hA, FrK.rf⟩
    · refine v_iload_n (pc' := 1) dX4_about_0 rfl rfl ?_
      refine v_tableIn (tgt := 100) 6 dX4_about_1 (by rw [nI_toInt (by omega)]; omega) (by decide) rfl (by decide) ?_
      refine v_aload_n (pc' := 101) dX4_about_100 rfl rfl ?_
      refine g_X4_19 (pc' := 104) rfl dX4_about_101 (by assumption) rfl ?_
      refine g_X4_110 (pc' := 107) rfl dX4_about_104 kN.1 rfl ?_
      exact v_iret dX4_about_107 rfl (by decide) (by decide) ⟨rfl, Nat.le_refl _, by rw [e_about, show z_in (nI 6) 0 8 = true by decide]; rfl, _, rfl, by simp only [v_about]; exact aN.1.1.2.2.2.2.1, hA, FrK.rf⟩
    · refine v_iload_n (pc' := 1) dX4_about_0 rfl rfl ?_
      refine v_tableIn (tgt := 108) 7 dX4_about_1 (by rw [nI_toInt (by omega)]; omega) (by decide) rfl (by decide) ?_
      refine v_aload_n (pc' := 109) dX4_about_108 rfl rfl ?_
      refine g_X4_19 (pc' := 112) rfl dX4_about_109 (by assumption) rfl ?_
      refine g_X4_113 (pc' := 115) rfl dX4_about_112 kN.1 rfl ?_
      exact v_iret dX4_about_115 rfl (by decide) (by decide) ⟨rfl, Nat.le_refl _, by rw [e_about, show z_in (nI 7) 0 8 = true by decide]; rfl, _, rfl, by simp only [v_about]; exact aN.1.1.2.2.2.2.2, hA, FrK.rf⟩
    · refine v_iload_n (pc' := 1) dX4_about_0 rfl rfl ?_
      refine v_tableIn (tgt := 116) 8 dX4_about_1 (by rw [nI_toInt (by omega)]; omega) (by decide) rfl (by decide) ?_
      refine v_aload_n (pc' := 117) dX4_about_116 rfl rfl ?_
      refine g_X4_19 (pc' := 120) rfl dX4_about_117 (by assumption) rfl ?_
      refine g_X4_116 (pc' := 123) rfl dX4_about_120 kN.1 rfl ?_
      exact v_iret dX4_about_123 rfl (by decide) (by decide) ⟨rfl, Nat.le_refl _, by rw [e_about, show z_in (nI 8) 0 8 = true by decide]; rfl, _, rfl, by simp only [v_about]; exact aN.1.1.2.2.1, hA, FrK.rf⟩
  | false =>
    refine v_iload_n (pc' := 1) dX4_about_0 rfl rfl ?_
    refine v_tableOut (tgt := 124) dX4_about_1 (by simp only [z_in, Bool.and_eq_false_iff, decide_eq_false_iff_not, Int32.le_iff_toInt_le] at hx; have e0 : (0 : Int32).toInt = 0 := (by decide); have e8 : (8 : Int32).toInt = 8 := (by decide); omega) (by decide) ?_
    exact v_iae rfl rfl dX4_about_124 dX4_about_127 dX4_about_128 dX4_about_131 (by decide) (by decide) (fun sz' h9 => ⟨rfl, h9, by rw [e_about, hx]; rfl, hA, FrK.rf⟩)

set_option maxRecDepth 20000 in
set_option maxHeartbeats 4000000 in
theorem k_task (hl : l.stackTraces = false) (hK : ShK E G c) (hA : AbsK I c S) (t x : Int32) : z_CK E l mX4_task [.ref c, .int t, .int x] G I sz c [nIOO, nIAE] (e_task S.1 t x) (v_task S.1 t x) S S := by
  obtain ⟨k0, kT, kN, kTr, kH, kSl, kF, kS⟩ := id hK
  obtain ⟨aX, aN, aW, aH, aF, aS⟩ := id hA
  refine z_Cx.of hl pn_X4 [some (.ref c), some (.int t), some (.int x), none] rfl (Nat.le_of_ble_eq_true rfl) ?_
  rcases nI_isTask aW (t := t) with ⟨hi, u, hu, hu6, rfl⟩ | hi
  · have g := aN.2.2.2 u hu
    unfold v_task
    rw [nI_clamp (show u < 2 ^ 31 by omega)]
    cases hx : z_in x 0 5 with
    | true =>
      obtain ⟨q, q1, q2, rfl⟩ := z_in_nI (lo := 0) (hi := 5) (by omega) (by omega) hx
      rw [nI_clamp (by omega)]
      rcases (by omega : q = 0 ∨ q = 1 ∨ q = 2 ∨ q = 3 ∨ q = 4 ∨ q = 5) with rfl | rfl | rfl | rfl | rfl | rfl
      · refine v_aload_n (pc' := 1) dX4_task_0 rfl rfl ?_
        refine g_X4_19 (pc' := 4) rfl dX4_task_1 (by assumption) rfl ?_
        refine v_iload_n (pc' := 5) dX4_task_4 rfl rfl ?_
        refine v_cVR (pc' := 8) (c1_taskNumbered hl kN aN aW u hu rfl) dX4_task_5 lk_X4_119 mwX1_taskNumbered miX1_taskNumbered kN.1 rfl rfl rfl rfl (by decide) (Nat.le_of_ble_eq_true rfl) rfl ?_
        refine v_astore_n3 (pc' := 9) dX4_task_8 (by decide) rfl rfl ?_
        refine v_aload_n (pc' := 10) dX4_task_9 rfl rfl ?_
        refine v_ifnonnull (tgt := 21) dX4_task_10 (by decide) ?_
        refine v_iload_n (pc' := 22) dX4_task_21 rfl rfl ?_
        refine v_tableIn (tgt := 60) 0 dX4_task_22 (by rw [nI_toInt (by omega)]; omega) (by decide) rfl (by decide) ?_
        refine v_aload_n (pc' := 61) dX4_task_60 rfl rfl ?_
        refine g_X4_126 (pc' := 64) rfl dX4_task_61 (kN.2.2.2.2 u hu6) rfl ?_
        exact v_iret dX4_task_64 rfl (by decide) (by decide) ⟨rfl, Nat.le_refl _, by rw [e_task, hi, show z_in (nI 0) 0 5 = true by decide]; rfl, _, rfl, g.1, hA, FrK.rf⟩
      · refine v_aload_n (pc' := 1) dX4_task_0 rfl rfl ?_
        refine g_X4_19 (pc' := 4) rfl dX4_task_1 (by assumption) rfl ?_
        refine v_iload_n (pc' := 5) dX4_task_4 rfl rfl ?_
        refine v_cVR (pc' := 8) (c1_taskNumbered hl kN aN aW u hu rfl) dX4_task_5 lk_X4_119 mwX1_taskNumbered miX1_taskNumbered kN.1 rfl rfl rfl rfl (by decide) (Nat.le_of_ble_eq_true rfl) rfl ?_
        refine v_astore_n3 (pc' := 9) dX4_task_8 (by decide) rfl rfl ?_
        refine v_aload_n (pc' := 10) dX4_task_9 rfl rfl ?_
        refine v_ifnonnull (tgt := 21) dX4_task_10 (by decide) ?_
        refine v_iload_n (pc' := 22) dX4_task_21 rfl rfl ?_
        refine v_tableIn (tgt := 65) 1 dX4_task_22 (by rw [nI_toInt (by omega)]; omega) (by decide) rfl (by decide) ?_
        refine v_aload_n (pc' := 66) dX4_task_65 rfl rfl ?_
        refine g_X4_131 (pc' := 69) rfl dX4_task_66 (kN.2.2.2.2 u hu6) rfl ?_
        exact v_iret dX4_task_69 rfl (by decide) (by decide) ⟨rfl, Nat.le_refl _, by rw [e_task, hi, show z_in (nI 1) 0 5 = true by decide]; rfl, _, rfl, g.2.1, hA, FrK.rf⟩
      · refine v_aload_n (pc' := 1) dX4_task_0 rfl rfl ?_
        refine g_X4_19 (pc' := 4) rfl dX4_task_1 (by assumption) rfl ?_
        refine v_iload_n (pc' := 5) dX4_task_4 rfl rfl ?_
        refine v_cVR (pc' := 8) (c1_taskNumbered hl kN aN aW u hu rfl) dX4_task_5 lk_X4_119 mwX1_taskNumbered miX1_taskNumbered kN.1 rfl rfl rfl rfl (by decide) (Nat.le_of_ble_eq_true rfl) rfl ?_
        refine v_astore_n3 (pc' := 9) dX4_task_8 (by decide) rfl rfl ?_
        refine v_aload_n (pc' := 10) dX4_task_9 rfl rfl ?_
        refine v_ifnonnull (tgt := 21) dX4_task_10 (by decide) ?_
        refine v_iload_n (pc' := 22) dX4_task_21 rfl rfl ?_
        refine v_tableIn (tgt := 70) 2 dX4_task_22 (by rw [nI_toInt (by omega)]; omega) (by decide) rfl (by decide) ?_
        refine v_aload_n (pc' := 71) dX4_task_70 rfl rfl ?_
        refine g_X4_134 (pc' := 74) rfl dX4_task_71 (kN.2.2.2.2 u hu6) rfl ?_
        exact v_iret dX4_task_74 rfl (by decide) (by decide) ⟨rfl, Nat.le_refl _, by rw [e_task, hi, show z_in (nI 2) 0 5 = true by decide]; rfl, _, rfl, g.2.2.1, hA, FrK.rf⟩
      · refine v_aload_n (pc' := 1) dX4_task_0 rfl rfl ?_
        refine g_X4_19 (pc' := 4) rfl dX4_task_1 (by assumption) rfl ?_
        refine v_iload_n (pc' := 5) dX4_task_4 rfl rfl ?_
        refine v_cVR (pc' := 8) (c1_taskNumbered hl kN aN aW u hu rfl) dX4_task_5 lk_X4_119 mwX1_taskNumbered miX1_taskNumbered kN.1 rfl rfl rfl rfl (by decide) (Nat.le_of_ble_eq_true rfl) rfl ?_
        refine v_astore_n3 (pc' := 9) dX4_task_8 (by decide) rfl rfl ?_
        refine v_aload_n (pc' := 10) dX4_task_9 rfl rfl ?_
        refine v_ifnonnull (tgt := 21) dX4_task_10 (by decide) ?_
        refine v_iload_n (pc' := 22) dX4_task_21 rfl rfl ?_
        refine v_tableIn (tgt := 75) 3 dX4_task_22 (by rw [nI_toInt (by omega)]; omega) (by decide) rfl (by decide) ?_
        refine v_aload_n (pc' := 76) dX4_task_75 rfl rfl ?_
        refine g_X4_137 (pc' := 79) rfl dX4_task_76 (kN.2.2.2.2 u hu6) rfl ?_
        exact v_iret dX4_task_79 rfl (by decide) (by decide) ⟨rfl, Nat.le_refl _, by rw [e_task, hi, show z_in (nI 3) 0 5 = true by decide]; rfl, _, rfl, g.2.2.2.1, hA, FrK.rf⟩
      · refine v_aload_n (pc' := 1) dX4_task_0 rfl rfl ?_
        refine g_X4_19 (pc' := 4) rfl dX4_task_1 (by assumption) rfl ?_
        refine v_iload_n (pc' := 5) dX4_task_4 rfl rfl ?_
        refine v_cVR (pc' := 8) (c1_taskNumbered hl kN aN aW u hu rfl) dX4_task_5 lk_X4_119 mwX1_taskNumbered miX1_taskNumbered kN.1 rfl rfl rfl rfl (by decide) (Nat.le_of_ble_eq_true rfl) rfl ?_
        refine v_astore_n3 (pc' := 9) dX4_task_8 (by decide) rfl rfl ?_
        refine v_aload_n (pc' := 10) dX4_task_9 rfl rfl ?_
        refine v_ifnonnull (tgt := 21) dX4_task_10 (by decide) ?_
        refine v_iload_n (pc' := 22) dX4_task_21 rfl rfl ?_
        refine v_tableIn (tgt := 80) 4 dX4_task_22 (by rw [nI_toInt (by omega)]; omega) (by decide) rfl (by decide) ?_
        refine v_aload_n (pc' := 81) dX4_task_80 rfl rfl ?_
        refine g_X4_140 (pc' := 84) rfl dX4_task_81 (kN.2.2.2.2 u hu6) rfl ?_
        exact v_iret dX4_task_84 rfl (by decide) (by decide) ⟨rfl, Nat.le_refl _, by rw [e_task, hi, show z_in (nI 4) 0 5 = true by decide]; rfl, _, rfl, g.2.2.2.2.2.1, hA, FrK.rf⟩
      · refine v_aload_n (pc' := 1) dX4_task_0 rfl rfl ?_
        refine g_X4_19 (pc' := 4) rfl dX4_task_1 (by assumption) rfl ?_
        refine v_iload_n (pc' := 5) dX4_task_4 rfl rfl ?_
        refine v_cVR (pc' := 8) (c1_taskNumbered hl kN aN aW u hu rfl) dX4_task_5 lk_X4_119 mwX1_taskNumbered miX1_taskNumbered kN.1 rfl rfl rfl rfl (by decide) (Nat.le_of_ble_eq_true rfl) rfl ?_
        refine v_astore_n3 (pc' := 9) dX4_task_8 (by decide) rfl rfl ?_
        refine v_aload_n (pc' := 10) dX4_task_9 rfl rfl ?_
        refine v_ifnonnull (tgt := 21) dX4_task_10 (by decide) ?_
        refine v_iload_n (pc' := 22) dX4_task_21 rfl rfl ?_
        refine v_tableIn (tgt := 85) 5 dX4_task_22 (by rw [nI_toInt (by omega)]; omega) (by decide) rfl (by decide) ?_
        refine v_aload_n (pc' := 86) dX4_task_85 rfl rfl ?_
        refine g_X4_143 (pc' := 89) rfl dX4_task_86 (kN.2.2.2.2 u hu6) rfl ?_
        exact v_iret dX4_task_89 rfl (by decide) (by decide) ⟨rfl, Nat.le_refl _, by rw [e_task, hi, show z_in (nI 5) 0 5 = true by decide]; rfl, _, rfl, g.2.2.2.2.2.2, hA, FrK.rf⟩
    | false =>
      refine v_aload_n (pc' := 1) dX4_task_0 rfl rfl ?_
      refine g_X4_19 (pc' := 4) rfl dX4_task_1 (by assumption) rfl ?_
      refine v_iload_n (pc' := 5) dX4_task_4 rfl rfl ?_
      refine v_cVR (pc' := 8) (c1_taskNumbered hl kN aN aW u hu rfl) dX4_task_5 lk_X4_119 mwX1_taskNumbered miX1_taskNumbered kN.1 rfl rfl rfl rfl (by decide) (Nat.le_of_ble_eq_true rfl) rfl ?_
      refine v_astore_n3 (pc' := 9) dX4_task_8 (by decide) rfl rfl ?_
      refine v_aload_n (pc' := 10) dX4_task_9 rfl rfl ?_
      refine v_ifnonnull (tgt := 21) dX4_task_10 (by decide) ?_
      refine v_iload_n (pc' := 22) dX4_task_21 rfl rfl ?_
      refine v_tableOut (tgt := 90) dX4_task_22 (by simp only [z_in, Bool.and_eq_false_iff, decide_eq_false_iff_not, Int32.le_iff_toInt_le] at hx; have e0 : (0 : Int32).toInt = 0 := (by decide); have e8 : (5 : Int32).toInt = 5 := (by decide); omega) (by decide) ?_
      exact v_iae rfl rfl dX4_task_90 dX4_task_93 dX4_task_94 dX4_task_97 (by decide) (by decide) (fun sz' h9 => ⟨rfl, h9, by rw [e_task, hi, hx]; rfl, hA, FrK.rf⟩)
  · refine v_aload_n (pc' := 1) dX4_task_0 rfl rfl ?_
    refine g_X4_19 (pc' := 4) rfl dX4_task_1 (by assumption) rfl ?_
    refine v_iload_n (pc' := 5) dX4_task_4 rfl rfl ?_
    refine v_cVR (pc' := 8) (c1_taskNone hl kN aN aW t hi) dX4_task_5 lk_X4_119 mwX1_taskNumbered miX1_taskNumbered kN.1 rfl rfl rfl rfl (by decide) (Nat.le_of_ble_eq_true rfl) rfl ?_
    refine v_astoreN_n3 (pc' := 9) dX4_task_8 (by decide) rfl rfl ?_
    refine v_aloadN_n (pc' := 10) dX4_task_9 rfl rfl ?_
    refine v_ifnonnullN (pc' := 13) dX4_task_10 rfl ?_
    exact v_ioo rfl rfl dX4_task_13 dX4_task_16 dX4_task_17 dX4_task_20 (by decide) (by decide) (fun sz' h9 => ⟨rfl, h9, by rw [e_task, hi]; rfl, hA, FrK.rf⟩)

set_option maxRecDepth 20000 in
set_option maxHeartbeats 4000000 in
theorem k_stripe (hl : l.stackTraces = false) (hK : ShK E G c) (hA : AbsK I c S) (s3 x : Int32) : z_CK E l mX4_stripe [.ref c, .int s3, .int x] G I sz c [nIOO, nIAE] (e_stripe s3 x) (v_stripe S.1 s3 x) S S := by
  obtain ⟨k0, kT, kN, kTr, kH, kSl, kF, kS⟩ := id hK
  obtain ⟨aX, aN, aW, aH, aF, aS⟩ := id hA
  refine z_Cx.of hl pn_X4 [some (.ref c), some (.int s3), some (.int x)] rfl (Nat.le_of_ble_eq_true rfl) ?_
  by_cases hs : p_isStripe s3 = true
  · obtain ⟨s, hs12, rfl⟩ := p_isStripe_nI hs
    cases hx : z_in x 0 2 with
    | true =>
      obtain ⟨q, q1, q2, rfl⟩ := z_in_nI (lo := 0) (hi := 2) (by omega) (by omega) hx
      rcases (by omega : q = 0 ∨ q = 1 ∨ q = 2) with rfl | rfl | rfl
      · refine v_iload_n (pc' := 1) dX4_stripe_0 rfl rfl ?_
        refine v_cSR (pc' := 4) (c4_isStripe hl (nI s)) dX4_stripe_1 lk_X4_144 mwX4_isStripe msX4_isStripe rfl rfl (by decide) (Nat.le_of_ble_eq_true rfl) rfl ?_
        refine v_if_ne (tgt := 15) (pc' := 7) dX4_stripe_4 (by decide) rfl (fun c_4 => ?_) (fun c_4 => ?_)
        · refine v_iload_n (pc' := 16) dX4_stripe_15 rfl rfl ?_
          refine v_tableIn (tgt := 44) 0 dX4_stripe_16 (by rw [nI_toInt (by omega)]; omega) (by decide) rfl (by decide) ?_
          refine v_aload_n (pc' := 45) dX4_stripe_44 rfl rfl ?_
          refine g_X4_19 (pc' := 48) rfl dX4_stripe_45 (by assumption) rfl ?_
          refine v_iload_n (pc' := 49) dX4_stripe_48 rfl rfl ?_
          refine v_cVR (pc' := 52) (c1_takerOf hl kN aN aW (nI s)) dX4_stripe_49 lk_X4_148 mwX1_takerOf miX1_takerOf kN.1 rfl rfl rfl rfl (by decide) (Nat.le_of_ble_eq_true rfl) rfl ?_
          exact v_iret dX4_stripe_52 rfl (by decide) (by decide) ⟨rfl, Nat.le_refl _, by rw [e_stripe, hs, show z_in (nI 0) 0 2 = true by decide]; rfl, _, rfl, rfl, hA, FrK.rf⟩
        · rw [hs] at c_4
          exact absurd (z_b_eq0.mp c_4) (by decide)
      · refine v_iload_n (pc' := 1) dX4_stripe_0 rfl rfl ?_
        refine v_cSR (pc' := 4) (c4_isStripe hl (nI s)) dX4_stripe_1 lk_X4_144 mwX4_isStripe msX4_isStripe rfl rfl (by decide) (Nat.le_of_ble_eq_true rfl) rfl ?_
        refine v_if_ne (tgt := 15) (pc' := 7) dX4_stripe_4 (by decide) rfl (fun c_4 => ?_) (fun c_4 => ?_)
        · refine v_iload_n (pc' := 16) dX4_stripe_15 rfl rfl ?_
          refine v_tableIn (tgt := 53) 1 dX4_stripe_16 (by rw [nI_toInt (by omega)]; omega) (by decide) rfl (by decide) ?_
          refine v_aload_n (pc' := 54) dX4_stripe_53 rfl rfl ?_
          refine g_X4_19 (pc' := 57) rfl dX4_stripe_54 (by assumption) rfl ?_
          refine v_iload_n (pc' := 58) dX4_stripe_57 rfl rfl ?_
          refine v_cVR (pc' := 61) (c1_moverTo hl kN aN aW (nI s)) dX4_stripe_58 lk_X4_152 mwX1_moverTo miX1_moverTo kN.1 rfl rfl rfl rfl (by decide) (Nat.le_of_ble_eq_true rfl) rfl ?_
          exact v_iret dX4_stripe_61 rfl (by decide) (by decide) ⟨rfl, Nat.le_refl _, by rw [e_stripe, hs, show z_in (nI 1) 0 2 = true by decide]; rfl, _, rfl, rfl, hA, FrK.rf⟩
        · rw [hs] at c_4
          exact absurd (z_b_eq0.mp c_4) (by decide)
      · refine v_iload_n (pc' := 1) dX4_stripe_0 rfl rfl ?_
        refine v_cSR (pc' := 4) (c4_isStripe hl (nI s)) dX4_stripe_1 lk_X4_144 mwX4_isStripe msX4_isStripe rfl rfl (by decide) (Nat.le_of_ble_eq_true rfl) rfl ?_
        refine v_if_ne (tgt := 15) (pc' := 7) dX4_stripe_4 (by decide) rfl (fun c_4 => ?_) (fun c_4 => ?_)
        · refine v_iload_n (pc' := 16) dX4_stripe_15 rfl rfl ?_
          refine v_tableIn (tgt := 62) 2 dX4_stripe_16 (by rw [nI_toInt (by omega)]; omega) (by decide) rfl (by decide) ?_
          refine v_aload_n (pc' := 63) dX4_stripe_62 rfl rfl ?_
          refine g_X4_19 (pc' := 66) rfl dX4_stripe_63 (by assumption) rfl ?_
          refine v_iload_n (pc' := 67) dX4_stripe_66 rfl rfl ?_
          refine v_cVR (pc' := 70) (c1_isBad hl kN aN aW s hs12 rfl) dX4_stripe_67 lk_X4_155 mwX1_isBad miX1_isBad kN.1 rfl rfl rfl rfl (by decide) (Nat.le_of_ble_eq_true rfl) rfl ?_
          refine v_if_eq (tgt := 77) (pc' := 73) dX4_stripe_70 (by decide) rfl (fun c_70 => ?_) (fun c_70 => ?_)
          · rw [z_b_eq0, decide_eq_false_iff_not] at c_70
            refine v_iconst (pc' := 78) dX4_stripe_77 kc_0 rfl ?_
            exact v_iret dX4_stripe_78 rfl (by decide) (by decide) ⟨rfl, Nat.le_refl _, by rw [e_stripe, hs, show z_in (nI 2) 0 2 = true by decide]; rfl, _, rfl, by rw [v_stripe, if_neg (by decide), if_neg (by decide), nI_clamp (by omega)]; first | exact c_70.symm | exact ((aW.2.2.2.1 s hs12).resolve_right c_70).symm, hA, FrK.rf⟩
          · rw [z_b_ne0, decide_eq_true_eq] at c_70
            refine v_iconst (pc' := 74) dX4_stripe_73 kc_1 rfl ?_
            refine v_goto (tgt := 78) dX4_stripe_74 (by decide) ?_
            exact v_iret dX4_stripe_78 rfl (by decide) (by decide) ⟨rfl, Nat.le_refl _, by rw [e_stripe, hs, show z_in (nI 2) 0 2 = true by decide]; rfl, _, rfl, by rw [v_stripe, if_neg (by decide), if_neg (by decide), nI_clamp (by omega)]; first | exact c_70.symm | exact ((aW.2.2.2.1 s hs12).resolve_right c_70).symm, hA, FrK.rf⟩
        · rw [hs] at c_4
          exact absurd (z_b_eq0.mp c_4) (by decide)
    | false =>
      refine v_iload_n (pc' := 1) dX4_stripe_0 rfl rfl ?_
      refine v_cSR (pc' := 4) (c4_isStripe hl (nI s)) dX4_stripe_1 lk_X4_144 mwX4_isStripe msX4_isStripe rfl rfl (by decide) (Nat.le_of_ble_eq_true rfl) rfl ?_
      refine v_if_ne (tgt := 15) (pc' := 7) dX4_stripe_4 (by decide) rfl (fun c_4 => ?_) (fun c_4 => ?_)
      · refine v_iload_n (pc' := 16) dX4_stripe_15 rfl rfl ?_
        refine v_tableOut (tgt := 79) dX4_stripe_16 (by simp only [z_in, Bool.and_eq_false_iff, decide_eq_false_iff_not, Int32.le_iff_toInt_le] at hx; have e0 : (0 : Int32).toInt = 0 := (by decide); have e8 : (2 : Int32).toInt = 2 := (by decide); omega) (by decide) ?_
        exact v_iae rfl rfl dX4_stripe_79 dX4_stripe_82 dX4_stripe_83 dX4_stripe_86 (by decide) (by decide) (fun sz' h9 => ⟨rfl, h9, by rw [e_stripe, hs, hx]; rfl, hA, FrK.rf⟩)
      · rw [hs] at c_4
        exact absurd (z_b_eq0.mp c_4) (by decide)
  · have hs' : p_isStripe s3 = false := by simpa using hs
    refine v_iload_n (pc' := 1) dX4_stripe_0 rfl rfl ?_
    refine v_cSR (pc' := 4) (c4_isStripe hl s3) dX4_stripe_1 lk_X4_144 mwX4_isStripe msX4_isStripe rfl rfl (by decide) (Nat.le_of_ble_eq_true rfl) rfl ?_
    refine v_if_ne (tgt := 15) (pc' := 7) dX4_stripe_4 (by decide) rfl (fun c_4 => ?_) (fun c_4 => ?_)
    · rw [hs'] at c_4
      exact absurd rfl c_4
    · exact v_ioo rfl rfl dX4_stripe_7 dX4_stripe_10 dX4_stripe_11 dX4_stripe_14 (by decide) (by decide) (fun sz' h9 => ⟨rfl, h9, by rw [e_stripe, hs']; rfl, hA, FrK.rf⟩)

set_option maxRecDepth 20000 in
set_option maxHeartbeats 4000000 in
theorem k_job (hl : l.stackTraces = false) (hK : ShK E G c) (hA : AbsK I c S) (x : Int32) : z_CK E l mX4_job [.ref c, .int x] G I sz c [nIAE] (e_job x) (v_job S.1 x) S (S) := by
  obtain ⟨k0, kT, kN, kTr, kH, kSl, kF, kS⟩ := id hK
  obtain ⟨aX, aN, aW, aH, aF, aS⟩ := id hA
  refine z_Cx.of hl pn_X4 [some (.ref c), some (.int x)] rfl (Nat.le_of_ble_eq_true rfl) ?_
  refine v_iload_n (pc' := 1) dX4_job_0 rfl rfl ?_
  refine v_iconst (pc' := 2) dX4_job_1 kc_0 rfl ?_
  refine v_iconst (pc' := 3) dX4_job_2 kc_2 rfl ?_
  refine v_cSR (pc' := 6) (c4_isBetween hl (x) 0 2) dX4_job_3 lk_X4_41 mwX4_isBetween msX4_isBetween rfl rfl (by decide) (Nat.le_of_ble_eq_true rfl) rfl ?_
  refine v_if_ne (tgt := 17) (pc' := 9) dX4_job_6 (by decide) rfl (fun c_6 => ?_) (fun c_6 => ?_)
  · first | rw [z_b_ne0] at c_6 | rw [z_b_eq0] at c_6
    refine v_aload_n (pc' := 18) dX4_job_17 rfl rfl ?_
    refine g_X4_19 (pc' := 21) rfl dX4_job_18 (by assumption) rfl ?_
    refine v_cVR (pc' := 24) (c1_isIdle hl kN aN aW) dX4_job_21 lk_X4_158 mwX1_isIdle miX1_isIdle kN.1 rfl rfl rfl rfl (by decide) (Nat.le_of_ble_eq_true rfl) rfl ?_
    refine v_if_eq (tgt := 29) (pc' := 27) dX4_job_24 (by decide) rfl (fun c_24 => ?_) (fun c_24 => ?_)
    · rw [z_b_eq0, decide_eq_false_iff_not] at c_24
      obtain ⟨q7, q8⟩ := aN.1.2 c_24
      obtain ⟨q, q1, q2, rfl⟩ := z_in_nI (lo := 0) (hi := 2) (by omega) (by omega) c_6
      refine v_iload_n (pc' := 30) dX4_job_29 rfl rfl ?_
      refine v_if_ne (tgt := 41) (pc' := 33) dX4_job_30 (by decide) rfl (fun c_30 => ?_) (fun c_30 => ?_)
      · rw [nI_is0 (by omega)] at c_30
        refine v_iload_n (pc' := 42) dX4_job_41 rfl rfl ?_
        refine v_iconst (pc' := 43) dX4_job_42 kc_1 rfl ?_
        refine v_icmp_ne (tgt := 56) (pc' := 46) dX4_job_43 (by decide) rfl (fun c_43 => ?_) (fun c_43 => ?_)
        · have c9 : q = 2 := by
            have : ¬ q = 1 := fun e => c_43 (by rw [e]; rfl)
            omega
          subst c9
          refine v_aload_n (pc' := 57) dX4_job_56 rfl rfl ?_
          refine g_X4_19 (pc' := 60) rfl dX4_job_57 (by assumption) rfl ?_
          refine g_X4_167 (pc' := 63) rfl dX4_job_60 kN.1 rfl ?_
          exact v_iret dX4_job_63 rfl (by decide) (by decide) ⟨rfl, Nat.le_refl _, by rw [e_job, c_6]; rfl, _, rfl, by rw [v_job, if_neg c_24, nI_clamp (by omega)]; first | exact aN.1.1.2.2.2.1 | exact q7 | exact q8, hA, FrK.rf⟩
        · have c9 : q = 1 := (nI_eq (b := 1) (by omega) (by omega)).mp c_43
          subst c9
          refine v_aload_n (pc' := 47) dX4_job_46 rfl rfl ?_
          refine g_X4_19 (pc' := 50) rfl dX4_job_47 (by assumption) rfl ?_
          refine g_X4_164 (pc' := 53) rfl dX4_job_50 kN.1 rfl ?_
          refine v_goto (tgt := 63) dX4_job_53 (by decide) ?_
          exact v_iret dX4_job_63 rfl (by decide) (by decide) ⟨rfl, Nat.le_refl _, by rw [e_job, c_6]; rfl, _, rfl, by rw [v_job, if_neg c_24, nI_clamp (by omega)]; first | exact aN.1.1.2.2.2.1 | exact q7 | exact q8, hA, FrK.rf⟩
      · rw [nI_is0 (by omega)] at c_30
        subst c_30
        refine v_aload_n (pc' := 34) dX4_job_33 rfl rfl ?_
        refine g_X4_19 (pc' := 37) rfl dX4_job_34 (by assumption) rfl ?_
        refine g_X4_161 (pc' := 40) rfl dX4_job_37 kN.1 rfl ?_
        exact v_iret dX4_job_40 rfl (by decide) (by decide) ⟨rfl, Nat.le_refl _, by rw [e_job, c_6]; rfl, _, rfl, by rw [v_job, if_neg c_24, nI_clamp (by omega)]; first | exact aN.1.1.2.2.2.1 | exact q7 | exact q8, hA, FrK.rf⟩
    · rw [z_b_ne0, decide_eq_true_eq] at c_24
      refine v_iconst (pc' := 28) dX4_job_27 kc_m1 rfl ?_
      exact v_iret dX4_job_28 rfl (by decide) (by decide) ⟨rfl, Nat.le_refl _, by rw [e_job, c_6]; rfl, _, rfl, by rw [v_job, if_pos c_24], hA, FrK.rf⟩
  · first | rw [z_b_ne0] at c_6 | rw [z_b_eq0] at c_6
    exact v_iae rfl rfl dX4_job_9 dX4_job_12 dX4_job_13 dX4_job_16 (by decide) (by decide) (fun sz' h9 => ⟨rfl, h9, by simp [e_job, ex, *], hA, FrK.rf⟩)
set_option maxRecDepth 20000 in
set_option maxHeartbeats 4000000 in
theorem k_setting (hl : l.stackTraces = false) (hK : ShK E G c) (hA : AbsK I c S) (x : Int32) : z_CK E l mX4_setting [.ref c, .int x] G I sz c [nIAE] (e_job x) (v_setting S.1 x) S (S) := by
  obtain ⟨k0, kT, kN, kTr, kH, kSl, kF, kS⟩ := id hK
  obtain ⟨aX, aN, aW, aH, aF, aS⟩ := id hA
  refine z_Cx.of hl pn_X4 [some (.ref c), some (.int x)] rfl (Nat.le_of_ble_eq_true rfl) ?_
  refine v_iload_n (pc' := 1) dX4_setting_0 rfl rfl ?_
  refine v_cSR (pc' := 4) (c4_isSetting hl x) dX4_setting_1 lk_X4_170 mwX4_isSetting msX4_isSetting rfl rfl (by decide) (Nat.le_of_ble_eq_true rfl) rfl ?_
  refine v_if_ne (tgt := 15) (pc' := 7) dX4_setting_4 (by decide) rfl (fun c_4 => ?_) (fun c_4 => ?_)
  · first | rw [z_b_ne0] at c_4 | rw [z_b_eq0] at c_4
    obtain ⟨q, q1, q2, rfl⟩ := z_in_nI (lo := 0) (hi := 2) (by omega) (by omega) c_4
    refine v_aload_n (pc' := 16) dX4_setting_15 rfl rfl ?_
    refine g_X4_19 (pc' := 19) rfl dX4_setting_16 (by assumption) rfl ?_
    refine g_X4_173 (pc' := 22) rfl dX4_setting_19 kN.1 rfl ?_
    refine v_iload_n (pc' := 23) dX4_setting_22 rfl rfl ?_
    refine v_iald (pc' := 24) dX4_setting_23 (q) rfl kN.2.2.2.1 (by omega) (by decide) rfl ?_
    exact v_iret dX4_setting_24 rfl (by decide) (by decide) ⟨rfl, Nat.le_refl _, by rw [e_job, c_4]; rfl, _, rfl, by rw [v_setting, nI_clamp (by omega)]; exact aN.2.2.1 q (by omega), hA, FrK.rf⟩
  · first | rw [z_b_ne0] at c_4 | rw [z_b_eq0] at c_4
    exact v_iae rfl rfl dX4_setting_7 dX4_setting_10 dX4_setting_11 dX4_setting_14 (by decide) (by decide) (fun sz' h9 => ⟨rfl, h9, by simp [e_job, ex, *], hA, FrK.rf⟩)
theorem room_iff {r : zR} (h : WF r) : (z_in (r 0) 0 5 = true) ↔ cnt r < 6 := by
  rw [h.1.2]
  have h6 := h.1.1
  constructor
  · intro q
    obtain ⟨a, a1, a2, e⟩ := z_in_nI (lo := 0) (hi := 5) (by omega) (by omega) q
    have := (nI_eq (by omega) (by omega)).mp e
    omega
  · intro q; exact z_in_of (lo := 0) (hi := 5) (by omega) (by omega) (by omega)
set_option maxRecDepth 20000 in
set_option maxHeartbeats 4000000 in
theorem k_add (hl : l.stackTraces = false) (hK : ShK E G c) (hA : AbsK I c S) (w v : Int32) : z_CK E l mX4_add [.ref c, .int w, .int v] G I sz c [nIAE, nISE] (e_add S.1 w v) (nI (cnt S.1)) S (s_now S (t_add S.1 w v)) := by
  obtain ⟨k0, kT, kN, kTr, kH, kSl, kF, kS⟩ := id hK
  obtain ⟨aX, aN, aW, aH, aF, aS⟩ := id hA
  refine z_Cx.of hl pn_X4 [some (.ref c), some (.int w), some (.int v)] rfl (Nat.le_of_ble_eq_true rfl) ?_
  refine v_iload_n (pc' := 1) dX4_add_0 rfl rfl ?_
  refine v_cSR (pc' := 4) (c4_isWidth hl w) dX4_add_1 lk_X4_177 mwX4_isWidth msX4_isWidth rfl rfl (by decide) (Nat.le_of_ble_eq_true rfl) rfl ?_
  refine v_if_eq (tgt := 14) (pc' := 7) dX4_add_4 (by decide) rfl (fun c_4 => ?_) (fun c_4 => ?_)
  · first | rw [z_b_ne0] at c_4 | rw [z_b_eq0] at c_4
    exact v_iae rfl rfl dX4_add_14 dX4_add_17 dX4_add_18 dX4_add_21 (by decide) (by decide) (fun sz' h9 => ⟨rfl, h9, by simp [e_add, ex, *], hA, FrK.rf⟩)
  · first | rw [z_b_ne0] at c_4 | rw [z_b_eq0] at c_4
    refine v_iload_n (pc' := 8) dX4_add_7 rfl rfl ?_
    refine v_cSR (pc' := 11) (c4_isValue hl v) dX4_add_8 lk_X4_180 mwX4_isValue msX4_isValue rfl rfl (by decide) (Nat.le_of_ble_eq_true rfl) rfl ?_
    refine v_if_ne (tgt := 22) (pc' := 14) dX4_add_11 (by decide) rfl (fun c_11 => ?_) (fun c_11 => ?_)
    · first | rw [z_b_ne0] at c_11 | rw [z_b_eq0] at c_11
      refine v_aload_n (pc' := 23) dX4_add_22 rfl rfl ?_
      refine g_X4_19 (pc' := 26) rfl dX4_add_23 (by assumption) rfl ?_
      refine v_cVR (pc' := 29) (c1_hasRoom hl kN aN aW) dX4_add_26 lk_X4_183 mwX1_hasRoomForTask miX1_hasRoomForTask kN.1 rfl rfl rfl rfl (by decide) (Nat.le_of_ble_eq_true rfl) rfl ?_
      refine v_if_ne (tgt := 40) (pc' := 32) dX4_add_29 (by decide) rfl (fun c_29 => ?_) (fun c_29 => ?_)
      · rw [z_b_ne0, room_iff aW] at c_29
        refine v_aload_n (pc' := 41) dX4_add_40 rfl rfl ?_
        refine g_X4_29 (pc' := 44) rfl dX4_add_41 (by assumption) rfl ?_
        refine v_aload_n (pc' := 45) dX4_add_44 rfl rfl ?_
        refine g_X4_19 (pc' := 48) rfl dX4_add_45 (by assumption) rfl ?_
        refine v_cVV (pc' := 51) (c0_remember hl kH aH kN aN aW (by omega)) dX4_add_48 lk_X4_186 mwX0_remember miX0_remember kH.1 rfl rfl rfl rfl (by decide) (Nat.le_of_ble_eq_true rfl) rfl ?_
        rintro I2 ⟨hH2, hFH⟩
        have hK2 := hA.hist hH2 hFH
        obtain ⟨-, aN2, -, -, -, -⟩ := id hK2
        refine v_aload_n (pc' := 52) dX4_add_51 rfl rfl ?_
        refine g_X4_19 (pc' := 55) rfl dX4_add_52 (by assumption) rfl ?_
        refine v_iload_n (pc' := 56) dX4_add_55 rfl rfl ?_
        refine v_iload_n (pc' := 57) dX4_add_56 rfl rfl ?_
        refine v_cVI (pc' := 60) (c1_tadd hl kN aN2 aW w v) dX4_add_57 lk_X4_190 mwX1_addTask miX1_addTask kN.1 rfl rfl rfl rfl (by decide) (Nat.le_of_ble_eq_true rfl) rfl ?_
        rintro _ I3 ⟨rfl, hA3, hF3⟩
        exact v_iret dX4_add_60 rfl (by decide) (by decide) ⟨rfl, Nat.le_refl _, by simp [e_add, ex, *], _, rfl, by rw [t_addv, if_pos c_29], hK2.now hA3 (by
          obtain ⟨a, a1, a2, rfl⟩ := z_in_nI (lo := 1) (hi := 6) (by omega) (by omega) c_4
          obtain ⟨b, b1, b2, rfl⟩ := z_in_nI (lo := 0) (hi := 996) (by omega) (by omega) c_11
          exact WF_tadd aW (by rw [nI_toInt (by omega)]; omega) (by rw [nI_toInt (by omega)]; omega)) hF3, (FrK.hs hFH).tr (FrK.fr hF3 (by omega))⟩
      · rw [z_b_eq0, ← Bool.not_eq_true, room_iff aW] at c_29
        exact v_ise rfl rfl dX4_add_32 dX4_add_35 dX4_add_36 dX4_add_39 (by decide) (by decide) (fun sz' h9 => ⟨rfl, h9, by simp [e_add, ex, *], hA, FrK.rf⟩)
    · first | rw [z_b_ne0] at c_11 | rw [z_b_eq0] at c_11
      exact v_iae rfl rfl dX4_add_14 dX4_add_17 dX4_add_18 dX4_add_21 (by decide) (by decide) (fun sz' h9 => ⟨rfl, h9, by simp [e_add, ex, *], hA, FrK.rf⟩)
set_option maxRecDepth 20000 in
set_option maxHeartbeats 4000000 in
theorem k_bring (hl : l.stackTraces = false) (hK : ShK E G c) (hA : AbsK I c S) (t s : Int32) : z_CK E l mX4_bring [.ref c, .int t, .int s] G I sz c [nIOO, nISE] (e_bring S.1 t s) (t_jobv S.1 t s) S (s_now S (t_job S.1 t s)) := by
  obtain ⟨k0, kT, kN, kTr, kH, kSl, kF, kS⟩ := id hK
  obtain ⟨aX, aN, aW, aH, aF, aS⟩ := id hA
  refine z_Cx.of hl pn_X4 [some (.ref c), some (.int t), some (.int s)] rfl (Nat.le_of_ble_eq_true rfl) ?_
  refine v_aload_n (pc' := 1) dX4_bring_0 rfl rfl ?_
  refine g_X4_19 (pc' := 4) rfl dX4_bring_1 (by assumption) rfl ?_
  refine v_iload_n (pc' := 5) dX4_bring_4 rfl rfl ?_
  refine v_cVR (pc' := 8) (c1_hasTask hl kN aN aW t) dX4_bring_5 lk_X4_194 mwX1_hasTask miX1_hasTask kN.1 rfl rfl rfl rfl (by decide) (Nat.le_of_ble_eq_true rfl) rfl ?_
  refine v_if_eq (tgt := 18) (pc' := 11) dX4_bring_8 (by decide) rfl (fun c_8 => ?_) (fun c_8 => ?_)
  · first | rw [z_b_ne0] at c_8 | rw [z_b_eq0] at c_8
    exact v_ioo rfl rfl dX4_bring_18 dX4_bring_21 dX4_bring_22 dX4_bring_25 (by decide) (by decide) (fun sz' h9 => ⟨rfl, h9, by simp [e_bring, ex, *], hA, FrK.rf⟩)
  · first | rw [z_b_ne0] at c_8 | rw [z_b_eq0] at c_8
    refine v_iload_n (pc' := 12) dX4_bring_11 rfl rfl ?_
    refine v_cSR (pc' := 15) (c4_isStripe hl s) dX4_bring_12 lk_X4_144 mwX4_isStripe msX4_isStripe rfl rfl (by decide) (Nat.le_of_ble_eq_true rfl) rfl ?_
    refine v_if_ne (tgt := 26) (pc' := 18) dX4_bring_15 (by decide) rfl (fun c_15 => ?_) (fun c_15 => ?_)
    · first | rw [z_b_ne0] at c_15 | rw [z_b_eq0] at c_15
      refine v_aload_n (pc' := 27) dX4_bring_26 rfl rfl ?_
      refine g_X4_19 (pc' := 30) rfl dX4_bring_27 (by assumption) rfl ?_
      refine v_iload_n (pc' := 31) dX4_bring_30 rfl rfl ?_
      refine v_iload_n (pc' := 32) dX4_bring_31 rfl rfl ?_
      refine v_cVR (pc' := 35) (c1_canBring hl kN aN aW t s) dX4_bring_32 lk_X4_197 mwX1_canBring miX1_canBring kN.1 rfl rfl rfl rfl (by decide) (Nat.le_of_ble_eq_true rfl) rfl ?_
      refine v_if_ne (tgt := 46) (pc' := 38) dX4_bring_35 (by decide) rfl (fun c_35 => ?_) (fun c_35 => ?_)
      · first | rw [z_b_ne0] at c_35 | rw [z_b_eq0] at c_35
        refine v_aload_n (pc' := 47) dX4_bring_46 rfl rfl ?_
        refine g_X4_29 (pc' := 50) rfl dX4_bring_47 (by assumption) rfl ?_
        refine v_aload_n (pc' := 51) dX4_bring_50 rfl rfl ?_
        refine g_X4_19 (pc' := 54) rfl dX4_bring_51 (by assumption) rfl ?_
        refine v_cVV (pc' := 57) (c0_remember hl kH aH kN aN aW (by omega)) dX4_bring_54 lk_X4_186 mwX0_remember miX0_remember kH.1 rfl rfl rfl rfl (by decide) (Nat.le_of_ble_eq_true rfl) rfl ?_
        rintro I2 ⟨hH2, hFH⟩
        have hK2 := hA.hist hH2 hFH
        obtain ⟨-, aN2, -, -, -, -⟩ := id hK2
        refine v_aload_n (pc' := 58) dX4_bring_57 rfl rfl ?_
        refine g_X4_19 (pc' := 61) rfl dX4_bring_58 (by assumption) rfl ?_
        refine v_iload_n (pc' := 62) dX4_bring_61 rfl rfl ?_
        refine v_iload_n (pc' := 63) dX4_bring_62 rfl rfl ?_
        refine v_cVI (pc' := 66) (c1_tjob hl kN aN2 aW t s) dX4_bring_63 lk_X4_201 mwX1_startJob miX1_startJob kN.1 rfl rfl rfl rfl (by decide) (Nat.le_of_ble_eq_true rfl) rfl ?_
        rintro _ I3 ⟨rfl, hA3, hF3⟩
        exact v_iret dX4_bring_66 rfl (by decide) (by decide) ⟨rfl, Nat.le_refl _, by simp [e_bring, ex, *], _, rfl, rfl, hK2.now hA3 (WF_tjob aW _ _) hF3, (FrK.hs hFH).tr (FrK.fr hF3 (by omega))⟩
      · first | rw [z_b_ne0] at c_35 | rw [z_b_eq0] at c_35
        exact v_ise rfl rfl dX4_bring_38 dX4_bring_41 dX4_bring_42 dX4_bring_45 (by decide) (by decide) (fun sz' h9 => ⟨rfl, h9, by simp [e_bring, ex, *], hA, FrK.rf⟩)
    · first | rw [z_b_ne0] at c_15 | rw [z_b_eq0] at c_15
      exact v_ioo rfl rfl dX4_bring_18 dX4_bring_21 dX4_bring_22 dX4_bring_25 (by decide) (by decide) (fun sz' h9 => ⟨rfl, h9, by simp [e_bring, ex, *], hA, FrK.rf⟩)
set_option maxRecDepth 20000 in
set_option maxHeartbeats 4000000 in
theorem k_stop (hl : l.stackTraces = false) (hK : ShK E G c) (hA : AbsK I c S) (t : Int32) : z_CK E l mX4_stop [.ref c, .int t] G I sz c [nIOO, nISE] (e_stop S.1 t) (t_stopv S.1 t) S (s_now S (t_stop S.1 t)) := by
  obtain ⟨k0, kT, kN, kTr, kH, kSl, kF, kS⟩ := id hK
  obtain ⟨aX, aN, aW, aH, aF, aS⟩ := id hA
  refine z_Cx.of hl pn_X4 [some (.ref c), some (.int t)] rfl (Nat.le_of_ble_eq_true rfl) ?_
  refine v_aload_n (pc' := 1) dX4_stop_0 rfl rfl ?_
  refine g_X4_19 (pc' := 4) rfl dX4_stop_1 (by assumption) rfl ?_
  refine v_iload_n (pc' := 5) dX4_stop_4 rfl rfl ?_
  refine v_cVR (pc' := 8) (c1_hasTask hl kN aN aW t) dX4_stop_5 lk_X4_194 mwX1_hasTask miX1_hasTask kN.1 rfl rfl rfl rfl (by decide) (Nat.le_of_ble_eq_true rfl) rfl ?_
  refine v_if_ne (tgt := 19) (pc' := 11) dX4_stop_8 (by decide) rfl (fun c_8 => ?_) (fun c_8 => ?_)
  · first | rw [z_b_ne0] at c_8 | rw [z_b_eq0] at c_8
    refine v_aload_n (pc' := 20) dX4_stop_19 rfl rfl ?_
    refine g_X4_19 (pc' := 23) rfl dX4_stop_20 (by assumption) rfl ?_
    refine v_iload_n (pc' := 24) dX4_stop_23 rfl rfl ?_
    refine v_cVR (pc' := 27) (c1_canStop hl kN aN aW t) dX4_stop_24 lk_X4_204 mwX1_canStop miX1_canStop kN.1 rfl rfl rfl rfl (by decide) (Nat.le_of_ble_eq_true rfl) rfl ?_
    refine v_if_ne (tgt := 38) (pc' := 30) dX4_stop_27 (by decide) rfl (fun c_27 => ?_) (fun c_27 => ?_)
    · first | rw [z_b_ne0] at c_27 | rw [z_b_eq0] at c_27
      refine v_aload_n (pc' := 39) dX4_stop_38 rfl rfl ?_
      refine g_X4_29 (pc' := 42) rfl dX4_stop_39 (by assumption) rfl ?_
      refine v_aload_n (pc' := 43) dX4_stop_42 rfl rfl ?_
      refine g_X4_19 (pc' := 46) rfl dX4_stop_43 (by assumption) rfl ?_
      refine v_cVV (pc' := 49) (c0_remember hl kH aH kN aN aW (by omega)) dX4_stop_46 lk_X4_186 mwX0_remember miX0_remember kH.1 rfl rfl rfl rfl (by decide) (Nat.le_of_ble_eq_true rfl) rfl ?_
      rintro I2 ⟨hH2, hFH⟩
      have hK2 := hA.hist hH2 hFH
      obtain ⟨-, aN2, -, -, -, -⟩ := id hK2
      refine v_aload_n (pc' := 50) dX4_stop_49 rfl rfl ?_
      refine g_X4_19 (pc' := 53) rfl dX4_stop_50 (by assumption) rfl ?_
      refine v_iload_n (pc' := 54) dX4_stop_53 rfl rfl ?_
      refine v_cVI (pc' := 57) (c1_tstop hl kN aN2 aW t) dX4_stop_54 lk_X4_207 mwX1_stopTask miX1_stopTask kN.1 rfl rfl rfl rfl (by decide) (Nat.le_of_ble_eq_true rfl) rfl ?_
      rintro _ I3 ⟨rfl, hA3, hF3⟩
      exact v_iret dX4_stop_57 rfl (by decide) (by decide) ⟨rfl, Nat.le_refl _, by simp [e_stop, ex, *], _, rfl, rfl, hK2.now hA3 (WF_tstop aW _) hF3, (FrK.hs hFH).tr (FrK.fr hF3 (by omega))⟩
    · first | rw [z_b_ne0] at c_27 | rw [z_b_eq0] at c_27
      exact v_ise rfl rfl dX4_stop_30 dX4_stop_33 dX4_stop_34 dX4_stop_37 (by decide) (by decide) (fun sz' h9 => ⟨rfl, h9, by simp [e_stop, ex, *], hA, FrK.rf⟩)
  · first | rw [z_b_ne0] at c_8 | rw [z_b_eq0] at c_8
    exact v_ioo rfl rfl dX4_stop_11 dX4_stop_14 dX4_stop_15 dX4_stop_18 (by decide) (by decide) (fun sz' h9 => ⟨rfl, h9, by simp [e_stop, ex, *], hA, FrK.rf⟩)
set_option maxRecDepth 20000 in
set_option maxHeartbeats 4000000 in
theorem k_turnBad (hl : l.stackTraces = false) (hK : ShK E G c) (hA : AbsK I c S) (s : Int32) : z_CK E l mX4_turnBad [.ref c, .int s] G I sz c [nIOO] (e_strp s) (t_badv S.1 s) S (s_now S (t_bad S.1 s)) := by
  obtain ⟨k0, kT, kN, kTr, kH, kSl, kF, kS⟩ := id hK
  obtain ⟨aX, aN, aW, aH, aF, aS⟩ := id hA
  refine z_Cx.of hl pn_X4 [some (.ref c), some (.int s)] rfl (Nat.le_of_ble_eq_true rfl) ?_
  refine v_iload_n (pc' := 1) dX4_turnBad_0 rfl rfl ?_
  refine v_cSR (pc' := 4) (c4_isStripe hl s) dX4_turnBad_1 lk_X4_144 mwX4_isStripe msX4_isStripe rfl rfl (by decide) (Nat.le_of_ble_eq_true rfl) rfl ?_
  refine v_if_ne (tgt := 15) (pc' := 7) dX4_turnBad_4 (by decide) rfl (fun c_4 => ?_) (fun c_4 => ?_)
  · first | rw [z_b_ne0] at c_4 | rw [z_b_eq0] at c_4
    refine v_aload_n (pc' := 16) dX4_turnBad_15 rfl rfl ?_
    refine g_X4_29 (pc' := 19) rfl dX4_turnBad_16 (by assumption) rfl ?_
    refine v_aload_n (pc' := 20) dX4_turnBad_19 rfl rfl ?_
    refine g_X4_19 (pc' := 23) rfl dX4_turnBad_20 (by assumption) rfl ?_
    refine v_cVV (pc' := 26) (c0_remember hl kH aH kN aN aW (by omega)) dX4_turnBad_23 lk_X4_186 mwX0_remember miX0_remember kH.1 rfl rfl rfl rfl (by decide) (Nat.le_of_ble_eq_true rfl) rfl ?_
    rintro I2 ⟨hH2, hFH⟩
    have hK2 := hA.hist hH2 hFH
    obtain ⟨-, aN2, -, -, -, -⟩ := id hK2
    refine v_aload_n (pc' := 27) dX4_turnBad_26 rfl rfl ?_
    refine g_X4_19 (pc' := 30) rfl dX4_turnBad_27 (by assumption) rfl ?_
    refine v_iload_n (pc' := 31) dX4_turnBad_30 rfl rfl ?_
    refine v_cVI (pc' := 34) (c1_tbad hl kN aN2 aW s) dX4_turnBad_31 lk_X4_210 mwX1_makeBad miX1_makeBad kN.1 rfl rfl rfl rfl (by decide) (Nat.le_of_ble_eq_true rfl) rfl ?_
    rintro _ I3 ⟨rfl, hA3, hF3⟩
    exact v_iret dX4_turnBad_34 rfl (by decide) (by decide) ⟨rfl, Nat.le_refl _, by simp [e_strp, ex, *], _, rfl, rfl, hK2.now hA3 (WF_tbad aW _) hF3, (FrK.hs hFH).tr (FrK.fr hF3 (by omega))⟩
  · first | rw [z_b_ne0] at c_4 | rw [z_b_eq0] at c_4
    exact v_ioo rfl rfl dX4_turnBad_7 dX4_turnBad_10 dX4_turnBad_11 dX4_turnBad_14 (by decide) (by decide) (fun sz' h9 => ⟨rfl, h9, by simp [e_strp, ex, *], hA, FrK.rf⟩)
set_option maxRecDepth 20000 in
set_option maxHeartbeats 4000000 in
theorem k_mend (hl : l.stackTraces = false) (hK : ShK E G c) (hA : AbsK I c S) (s : Int32) : z_CK E l mX4_mend [.ref c, .int s] G I sz c [nIOO] (e_strp s) (t_mendv S.1 s) S (s_now S (t_mend S.1 s)) := by
  obtain ⟨k0, kT, kN, kTr, kH, kSl, kF, kS⟩ := id hK
  obtain ⟨aX, aN, aW, aH, aF, aS⟩ := id hA
  refine z_Cx.of hl pn_X4 [some (.ref c), some (.int s)] rfl (Nat.le_of_ble_eq_true rfl) ?_
  refine v_iload_n (pc' := 1) dX4_mend_0 rfl rfl ?_
  refine v_cSR (pc' := 4) (c4_isStripe hl s) dX4_mend_1 lk_X4_144 mwX4_isStripe msX4_isStripe rfl rfl (by decide) (Nat.le_of_ble_eq_true rfl) rfl ?_
  refine v_if_ne (tgt := 15) (pc' := 7) dX4_mend_4 (by decide) rfl (fun c_4 => ?_) (fun c_4 => ?_)
  · first | rw [z_b_ne0] at c_4 | rw [z_b_eq0] at c_4
    refine v_aload_n (pc' := 16) dX4_mend_15 rfl rfl ?_
    refine g_X4_29 (pc' := 19) rfl dX4_mend_16 (by assumption) rfl ?_
    refine v_aload_n (pc' := 20) dX4_mend_19 rfl rfl ?_
    refine g_X4_19 (pc' := 23) rfl dX4_mend_20 (by assumption) rfl ?_
    refine v_cVV (pc' := 26) (c0_remember hl kH aH kN aN aW (by omega)) dX4_mend_23 lk_X4_186 mwX0_remember miX0_remember kH.1 rfl rfl rfl rfl (by decide) (Nat.le_of_ble_eq_true rfl) rfl ?_
    rintro I2 ⟨hH2, hFH⟩
    have hK2 := hA.hist hH2 hFH
    obtain ⟨-, aN2, -, -, -, -⟩ := id hK2
    refine v_aload_n (pc' := 27) dX4_mend_26 rfl rfl ?_
    refine g_X4_19 (pc' := 30) rfl dX4_mend_27 (by assumption) rfl ?_
    refine v_iload_n (pc' := 31) dX4_mend_30 rfl rfl ?_
    refine v_cVI (pc' := 34) (c1_tmend hl kN aN2 aW s) dX4_mend_31 lk_X4_213 mwX1_makeGood miX1_makeGood kN.1 rfl rfl rfl rfl (by decide) (Nat.le_of_ble_eq_true rfl) rfl ?_
    rintro _ I3 ⟨rfl, hA3, hF3⟩
    exact v_iret dX4_mend_34 rfl (by decide) (by decide) ⟨rfl, Nat.le_refl _, by simp [e_strp, ex, *], _, rfl, rfl, hK2.now hA3 (WF_tmend aW _) hF3, (FrK.hs hFH).tr (FrK.fr hF3 (by omega))⟩
  · first | rw [z_b_ne0] at c_4 | rw [z_b_eq0] at c_4
    exact v_ioo rfl rfl dX4_mend_7 dX4_mend_10 dX4_mend_11 dX4_mend_14 (by decide) (by decide) (fun sz' h9 => ⟨rfl, h9, by simp [e_strp, ex, *], hA, FrK.rf⟩)
set_option maxRecDepth 20000 in
set_option maxHeartbeats 4000000 in
theorem k_run (hl : l.stackTraces = false) (hK : ShK E G c) (hA : AbsK I c S) (x : Int32) : z_CK E l mX4_run [.ref c, .int x] G I sz c [nIAE] (e_run x) (t_runv S.1 x) S (s_now S (t_run S.1 x)) := by
  obtain ⟨k0, kT, kN, kTr, kH, kSl, kF, kS⟩ := id hK
  obtain ⟨aX, aN, aW, aH, aF, aS⟩ := id hA
  refine z_Cx.of hl pn_X4 [some (.ref c), some (.int x)] rfl (Nat.le_of_ble_eq_true rfl) ?_
  refine v_iload_n (pc' := 1) dX4_run_0 rfl rfl ?_
  refine v_iconst (pc' := 2) dX4_run_1 kc_1 rfl ?_
  refine v_bipush (pc' := 4) dX4_run_2 kb_60 rfl ?_
  refine v_cSR (pc' := 7) (c4_isBetween hl (x) 1 60) dX4_run_4 lk_X4_41 mwX4_isBetween msX4_isBetween rfl rfl (by decide) (Nat.le_of_ble_eq_true rfl) rfl ?_
  refine v_if_ne (tgt := 18) (pc' := 10) dX4_run_7 (by decide) rfl (fun c_7 => ?_) (fun c_7 => ?_)
  · first | rw [z_b_ne0] at c_7 | rw [z_b_eq0] at c_7
    refine v_aload_n (pc' := 19) dX4_run_18 rfl rfl ?_
    refine g_X4_29 (pc' := 22) rfl dX4_run_19 (by assumption) rfl ?_
    refine v_aload_n (pc' := 23) dX4_run_22 rfl rfl ?_
    refine g_X4_19 (pc' := 26) rfl dX4_run_23 (by assumption) rfl ?_
    refine v_cVV (pc' := 29) (c0_remember hl kH aH kN aN aW (by omega)) dX4_run_26 lk_X4_186 mwX0_remember miX0_remember kH.1 rfl rfl rfl rfl (by decide) (Nat.le_of_ble_eq_true rfl) rfl ?_
    rintro I2 ⟨hH2, hFH⟩
    have hK2 := hA.hist hH2 hFH
    obtain ⟨-, aN2, -, -, -, -⟩ := id hK2
    refine v_aload_n (pc' := 30) dX4_run_29 rfl rfl ?_
    refine g_X4_19 (pc' := 33) rfl dX4_run_30 (by assumption) rfl ?_
    refine v_iload_n (pc' := 34) dX4_run_33 rfl rfl ?_
    refine v_cVI (pc' := 37) (c1_trun hl kN aN2 aW x) dX4_run_34 lk_X4_216 mwX1_passTicks miX1_passTicks kN.1 rfl rfl rfl rfl (by decide) (Nat.le_of_ble_eq_true rfl) rfl ?_
    rintro _ I3 ⟨rfl, hA3, hF3⟩
    exact v_iret dX4_run_37 rfl (by decide) (by decide) ⟨rfl, Nat.le_refl _, by simp [e_run, ex, *], _, rfl, rfl, hK2.now hA3 (WF_trun aW _) hF3, (FrK.hs hFH).tr (FrK.fr hF3 (by omega))⟩
  · first | rw [z_b_ne0] at c_7 | rw [z_b_eq0] at c_7
    exact v_iae rfl rfl dX4_run_10 dX4_run_13 dX4_run_14 dX4_run_17 (by decide) (by decide) (fun sz' h9 => ⟨rfl, h9, by simp [e_run, ex, *], hA, FrK.rf⟩)
end FACE
