/-! THE CLASS's own methods: what will be, scripts, simulations, the reading of a text (written by wip/whole/gen_face3.py) -/
theorem rd_x (x : Int64) : ((x.toUInt64 >>> ((33 : Int32).toInt64.toUInt64 &&& Int64.toUInt64 63)).toInt64).toInt32 = nI (q_x x) ∧ q_x x < 2 ^ 31 := by
  have h31 : q_x x < 2 ^ 31 := by
    have := x.toBitVec.isLt
    unfold q_x
    omega
  refine ⟨?_, h31⟩
  have e1 : (x.toUInt64 >>> ((33 : Int32).toInt64.toUInt64 &&& Int64.toUInt64 63)).toNat = q_x x := by
    rw [UInt64.toNat_shiftRight, show ((33 : Int32).toInt64.toUInt64 &&& Int64.toUInt64 63).toNat % 64 = 33 by decide, Nat.shiftRight_eq_div_pow]
    rfl
  generalize (x.toUInt64 >>> ((33 : Int32).toInt64.toUInt64 &&& Int64.toUInt64 63)) = y at e1
  have e2 : y.toInt64 = lN (q_x x) := by
    rw [← e1]
    apply Int64.toBitVec_inj.mp
    show y.toBitVec = BitVec.ofNat 64 y.toNat
    simp
  rw [e2, lN_i]
/-- a text's commands, done one by one from a place on; how many could not be done -/
def p_rd (T : Nat → Nat) (n : Nat) : Nat → Nat → zR → Nat → zR × Nat
  | 0, _, r, o => (r, o)
  | f + 1, k, r, o =>
    if k < n then
      match (p_cmd T n k).1 with
      | some w => p_rd T n f (p_cmd T n k).2 (p_obey r (T k) w.1 w.2) (if p_obeyb r (T k) w.1 w.2 then o else o + 1)
      | none => (r, o)
    else (r, o)
def p_ltr (L : Nat) : Prop := L = 116 ∨ L = 108 ∨ L = 98 ∨ L = 103 ∨ L = 115 ∨ L = 119
theorem p_two_rng {T : Nat → Nat} {n lo1 hi1 d1 lo2 hi2 d2 k : Nat} {w : Nat × Nat} (h : (p_two T n lo1 hi1 (d1 + 1) lo2 hi2 (d2 + 1) k).1 = some w) : lo1 ≤ w.1 ∧ w.1 ≤ hi1 ∧ lo2 ≤ w.2 ∧ w.2 ≤ hi2 := by
  unfold p_two at h
  rcases h1 : p_rn T n lo1 hi1 (d1 + 1) 0 k with ⟨_ | u, k1⟩
  · rw [h1] at h; cases h
  · rw [h1] at h
    have r1 := p_rn_rng (x := u) d1 0 k (by rw [h1])
    simp only at h
    rcases h2 : p_rn T n lo2 hi2 (d2 + 1) 0 k1 with ⟨_ | v, k2⟩
    · rw [h2] at h; cases h
    · rw [h2] at h
      have r2 := p_rn_rng (x := v) d2 0 k1 (by rw [h2])
      cases h
      exact ⟨r1.1, r1.2, r2.1, r2.2⟩
theorem p_onen_rng {T : Nat → Nat} {n lo hi d k : Nat} {w : Nat × Nat} (h : (p_onen T n lo hi (d + 1) k).1 = some w) : lo ≤ w.1 ∧ w.1 ≤ hi := by
  unfold p_onen at h
  rcases h1 : p_rn T n lo hi (d + 1) 0 k with ⟨_ | u, k1⟩
  · rw [h1] at h; cases h
  · rw [h1] at h
    have r1 := p_rn_rng (x := u) d 0 k (by rw [h1])
    cases h
    exact r1
theorem p_cmd_rng {T : Nat → Nat} {n k : Nat} {w : Nat × Nat} (h : (p_cmd T n k).1 = some w) : p_ltr (T k) ∧ (T k = 116 → 1 ≤ w.1 ∧ w.1 ≤ 6 ∧ w.2 ≤ 996) ∧ (T k = 108 → w.1 ≤ 5 ∧ w.2 ≤ 11) ∧ ((T k = 98 ∨ T k = 103) → w.1 ≤ 11) ∧ (T k = 115 → w.1 ≤ 5) ∧ (T k = 119 → 1 ≤ w.1 ∧ w.1 ≤ 60) := by
  unfold p_cmd at h
  unfold p_ltr
  split at h
  · have := p_two_rng (d1 := 0) (d2 := 2) h; omega
  split at h
  · have := p_two_rng (d1 := 0) (d2 := 1) h; omega
  split at h
  · have := p_onen_rng (d := 1) h; omega
  split at h
  · have := p_onen_rng (d := 0) h; omega
  split at h
  · have := p_onen_rng (d := 1) h; omega
  · cases h
theorem WF_obey {r : zR} (h : WF r) {L u v : Nat} (hL : L = 116 → 1 ≤ u ∧ u ≤ 6 ∧ v ≤ 996) : WF (p_obey r L u v) := by
  unfold p_obey
  split
  · rename_i q
    have := hL q
    exact WF_tadd h (by rw [nI_toInt (by omega)]; omega) (by rw [nI_toInt (by omega)]; omega)
  split
  · exact WF_tjob h _ _
  split
  · exact WF_tbad h _
  split
  · exact WF_tmend h _
  split
  · exact WF_tstop h _
  · exact WF_trun h _
def e_load (S : zS) : Nat := if p_ep S.2.2.1.1 S.2.2.1.2 = none then 0 else 1
def v_load (S : zS) : Int32 := nI (p_rd S.2.2.1.1 S.2.2.1.2 120 1 p_new 0).2
def s_load (S : zS) : zS := ((p_rd S.2.2.1.1 S.2.2.1.2 120 1 p_new 0).1, (0, S.2.1.2), S.2.2.1, (S.2.2.2.1, fun _ => false))
theorem rv_none {o : Option Nat} (h : ∀ v, o = some v → v < 2 ^ 31) : (rv o = -1) = (o = none) := by
  cases o with
  | none => simp [rv]
  | some v => exact propext ⟨fun e => absurd e (nI_m1 (h v rfl)), fun e => by cases e⟩
theorem p_err_lt {T : Nat → Nat} {n : Nat} : ∀ (f k v : Nat), p_err T n f k = some v → v ≤ n
  | 0, _, _, h => by cases h
  | f + 1, k, v, h => by
    rw [p_err] at h
    split at h
    · rename_i hk
      split at h
      · exact p_err_lt f _ v h
      · cases h; exact (p_cmd_le hk).2.1
    · cases h
theorem p_ep_lt {T : Nat → Nat} {n v : Nat} (h : p_ep T n = some v) : v ≤ n := by
  unfold p_ep at h
  split at h
  · cases h; omega
  · exact p_err_lt _ _ _ h
section FACE3
variable {E : zE} {l : Launch} {G : zG} {I : zI} {sz c : Nat} {S : zS}
set_option maxRecDepth 20000 in
set_option maxHeartbeats 4000000 in
theorem k_comingL (hl : l.stackTraces = false) (hK : ShK E G c) (hA : AbsK I c S) (u : Nat) (hu : u < cnt S.1) (hu6 : u < 6) (n : Nat) (n1 : 1 ≤ n) (n2 : n ≤ 200) (x : Int32) (hk0 : ex [nIOO, nIAE] (e_coming S.1 (nI u) (nI n) x) = none) (hcu : u < cnt (p_run n S.1)) : ∀ (m9 j : Nat) (r1 : zR) (I1 : zI), n = j + m9 → Abs I1 (c + 13) r1 → WF r1 → Fr I I1 (c + 13) → p_run m9 r1 = p_run n S.1 → z_V E l mX4_coming (z_rm 8 1 6) 1 6 (z_fq G sz (ex [nIOO, nIAE] (e_coming S.1 (nI u) (nI n) x)) (fun y9 I' => y9 = v_coming S.1 (nI u) (nI n) x ∧ AbsK I' c (S) ∧ FrK I I' c) (fun I' => AbsK I' c S ∧ FrK I I' c)) 0 0 G I1 sz 65 [some (.ref c), some (.int (nI u)), some (.int (nI n)), some (.int x), some (.ref (c + 3 + 4 + 1 * u)), some (.int (nI j))] [] := by
  obtain ⟨k0, kT, kN, kTr, kH, kSl, kF, kS⟩ := id hK
  obtain ⟨aX, aN, aW, aH, aF, aS⟩ := id hA
  intro m9
  induction m9 with
  | zero =>
    intro j r1 I1 hj hA1 hW1 hF1 hp
    refine v_iload (pc' := 67) dX4_coming_65 rfl rfl ?_
    refine v_iload_n (pc' := 68) dX4_coming_67 rfl rfl ?_
    refine v_icmp_ge (tgt := 84) (pc' := 71) dX4_coming_68 (by decide) rfl (fun c_68 => ?_) (fun c_68 => ?_)
    · refine v_aload_n (pc' := 85) dX4_coming_84 rfl rfl ?_
      refine g_X4_23 (pc' := 88) rfl dX4_coming_85 (by assumption) rfl ?_
      refine v_iload_n (pc' := 89) dX4_coming_88 rfl rfl ?_
      refine v_cVR (pc' := 92) (c1_taskNumbered hl kTr hA1 hW1 u (by rw [← hp, show p_run 0 r1 = r1 from rfl] at hcu; exact hcu) rfl) dX4_coming_89 lk_X4_119 mwX1_taskNumbered miX1_taskNumbered kTr.1 rfl rfl rfl rfl (by decide) (Nat.le_of_ble_eq_true rfl) rfl ?_
      refine v_astore5 (pc' := 94) dX4_coming_92 (by decide) rfl rfl ?_
      refine v_aload (pc' := 96) dX4_coming_94 rfl rfl ?_
      refine v_ifnonnull (tgt := 101) dX4_coming_96 (by decide) ?_
      refine v_iload_n (pc' := 102) dX4_coming_101 rfl rfl ?_
      refine v_if_ne (tgt := 111) (pc' := 105) dX4_coming_102 (by decide) rfl (fun c_102 => ?_) (fun c_102 => ?_)
      · skip
        refine v_iload_n (pc' := 112) dX4_coming_111 rfl rfl ?_
        refine v_iconst (pc' := 113) dX4_coming_112 kc_1 rfl ?_
        refine v_icmp_ne (tgt := 124) (pc' := 116) dX4_coming_113 (by decide) rfl (fun c_113 => ?_) (fun c_113 => ?_)
        · refine v_aload (pc' := 126) dX4_coming_124 rfl rfl ?_
          refine g_X4_137 (pc' := 129) rfl dX4_coming_126 (kTr.2.2.2.2 u hu6) rfl ?_
          refine v_aload (pc' := 131) dX4_coming_129 rfl rfl ?_
          refine g_X4_137 (pc' := 134) rfl dX4_coming_131 (kN.2.2.2.2 u hu6) rfl ?_
          refine v_isub (pc' := 135) dX4_coming_134 rfl ?_
          exact v_iret dX4_coming_135 rfl (by decide) (by decide) ⟨rfl, Nat.le_refl _, hk0, _, rfl, by
            have g1 := hA1.2.2.2 u (by rw [← hp, show p_run 0 r1 = r1 from rfl] at hcu; exact hcu)
            have g0 := aN.2.2.2 u hu
            unfold v_coming
            rw [nI_clamp (show u < 2 ^ 31 by omega), nI_clamp (show n < 2 ^ 31 by omega), ← hp, show p_run 0 r1 = r1 from rfl]
            first
              | (rw [if_pos c_102]; exact g1.2.1)
              | (rw [if_neg c_102, if_pos c_113]; exact g1.2.2.1)
              | (rw [if_neg c_102, if_neg c_113, g1.2.2.2.1, hF1 (c + 3 + 4 + 1 * u) (by omega), g0.2.2.2.1]), hA.trial hF1, FrK.fr hF1 (by omega)⟩
        · have c9 := c_113
          refine v_aload (pc' := 118) dX4_coming_116 rfl rfl ?_
          refine g_X4_134 (pc' := 121) rfl dX4_coming_118 (kTr.2.2.2.2 u hu6) rfl ?_
          refine v_goto (tgt := 135) dX4_coming_121 (by decide) ?_
          exact v_iret dX4_coming_135 rfl (by decide) (by decide) ⟨rfl, Nat.le_refl _, hk0, _, rfl, by
            have g1 := hA1.2.2.2 u (by rw [← hp, show p_run 0 r1 = r1 from rfl] at hcu; exact hcu)
            have g0 := aN.2.2.2 u hu
            unfold v_coming
            rw [nI_clamp (show u < 2 ^ 31 by omega), nI_clamp (show n < 2 ^ 31 by omega), ← hp, show p_run 0 r1 = r1 from rfl]
            first
              | (rw [if_pos c_102]; exact g1.2.1)
              | (rw [if_neg c_102, if_pos c_113]; exact g1.2.2.1)
              | (rw [if_neg c_102, if_neg c_113, g1.2.2.2.1, hF1 (c + 3 + 4 + 1 * u) (by omega), g0.2.2.2.1]), hA.trial hF1, FrK.fr hF1 (by omega)⟩
      · refine v_aload (pc' := 107) dX4_coming_105 rfl rfl ?_
        refine g_X4_131 (pc' := 110) rfl dX4_coming_107 (kTr.2.2.2.2 u hu6) rfl ?_
        exact v_iret dX4_coming_110 rfl (by decide) (by decide) ⟨rfl, Nat.le_refl _, hk0, _, rfl, by
          have g1 := hA1.2.2.2 u (by rw [← hp, show p_run 0 r1 = r1 from rfl] at hcu; exact hcu)
          have g0 := aN.2.2.2 u hu
          unfold v_coming
          rw [nI_clamp (show u < 2 ^ 31 by omega), nI_clamp (show n < 2 ^ 31 by omega), ← hp, show p_run 0 r1 = r1 from rfl]
          first
            | (rw [if_pos c_102]; exact g1.2.1)
            | (rw [if_neg c_102, if_pos c_113]; exact g1.2.2.1)
            | (rw [if_neg c_102, if_neg c_113, g1.2.2.2.1, hF1 (c + 3 + 4 + 1 * u) (by omega), g0.2.2.2.1]), hA.trial hF1, FrK.fr hF1 (by omega)⟩
    · exact absurd (nI_le (by omega) (by omega)) c_68
  | succ m9 ih =>
    intro j r1 I1 hj hA1 hW1 hF1 hp
    refine v_iload (pc' := 67) dX4_coming_65 rfl rfl ?_
    refine v_iload_n (pc' := 68) dX4_coming_67 rfl rfl ?_
    refine v_icmp_ge (tgt := 84) (pc' := 71) dX4_coming_68 (by decide) rfl (fun c_68 => ?_) (fun c_68 => ?_)
    · exact absurd c_68 (nI_ge (by omega) (by omega))
    · refine v_aload_n (pc' := 72) dX4_coming_71 rfl rfl ?_
      refine g_X4_23 (pc' := 75) rfl dX4_coming_72 (by assumption) rfl ?_
      refine v_cVV (pc' := 78) (c1_passTick hl kTr hA1 hW1) dX4_coming_75 lk_X4_247 mwX1_passTick miX1_passTick kTr.1 rfl rfl rfl rfl (by decide) (Nat.le_of_ble_eq_true rfl) rfl ?_
      rintro I3 ⟨hA3, hF3⟩
      refine v_iinc5 (pc' := 81) dX4_coming_78 (by decide) rfl kc_1 (nI_1 j) rfl ?_
      refine v_goto (tgt := 65) dX4_coming_81 (by decide) ?_
      exact ih (j + 1) _ I3 (by omega) hA3 (WF_tick hW1) (hF1.tr hF3) hp

set_option maxRecDepth 20000 in
set_option maxHeartbeats 4000000 in
theorem k_coming (hl : l.stackTraces = false) (hK : ShK E G c) (hA : AbsK I c S) (t n3 x : Int32) : z_CK E l mX4_coming [.ref c, .int t, .int n3, .int x] G I sz c [nIOO, nIAE] (e_coming S.1 t n3 x) (v_coming S.1 t n3 x) S S := by
  obtain ⟨k0, kT, kN, kTr, kH, kSl, kF, kS⟩ := id hK
  obtain ⟨aX, aN, aW, aH, aF, aS⟩ := id hA
  refine z_Cx.of hl pn_X4 [some (.ref c), some (.int t), some (.int n3), some (.int x), none, none] rfl (Nat.le_of_ble_eq_true rfl) ?_
  rcases nI_isTask aW (t := t) with ⟨hi, u, hu, hu6, rfl⟩ | hi
  · refine v_aload_n (pc' := 1) dX4_coming_0 rfl rfl ?_
    refine g_X4_19 (pc' := 4) rfl dX4_coming_1 (by assumption) rfl ?_
    refine v_iload_n (pc' := 5) dX4_coming_4 rfl rfl ?_
    refine v_cVR (pc' := 8) (c1_taskNumbered hl kN aN aW u hu rfl) dX4_coming_5 lk_X4_119 mwX1_taskNumbered miX1_taskNumbered kN.1 rfl rfl rfl rfl (by decide) (Nat.le_of_ble_eq_true rfl) rfl ?_
    refine v_astore4 (pc' := 10) dX4_coming_8 (by decide) rfl rfl ?_
    refine v_aload (pc' := 12) dX4_coming_10 rfl rfl ?_
    refine v_ifnonnull (tgt := 23) dX4_coming_12 (by decide) ?_
    refine v_iload_n (pc' := 24) dX4_coming_23 rfl rfl ?_
    refine v_iconst (pc' := 25) dX4_coming_24 kc_1 rfl ?_
    refine v_sipush (pc' := 28) dX4_coming_25 ks_200 rfl ?_
    refine v_cSR (pc' := 31) (c4_isBetween hl (n3) 1 200) dX4_coming_28 lk_X4_41 mwX4_isBetween msX4_isBetween rfl rfl (by decide) (Nat.le_of_ble_eq_true rfl) rfl ?_
    refine v_if_eq (tgt := 43) (pc' := 34) dX4_coming_31 (by decide) rfl (fun c_31 => ?_) (fun c_31 => ?_)
    · first | rw [z_b_ne0] at c_31 | rw [z_b_eq0] at c_31
      exact v_iae rfl rfl dX4_coming_43 dX4_coming_46 dX4_coming_47 dX4_coming_50 (by decide) (by decide) (fun sz' h9 => ⟨rfl, h9, by rw [e_coming, hi]; simp [ex, *], hA, FrK.rf⟩)
    · first | rw [z_b_ne0] at c_31 | rw [z_b_eq0] at c_31
      refine v_iload_n (pc' := 35) dX4_coming_34 rfl rfl ?_
      refine v_iconst (pc' := 36) dX4_coming_35 kc_0 rfl ?_
      refine v_iconst (pc' := 37) dX4_coming_36 kc_2 rfl ?_
      refine v_cSR (pc' := 40) (c4_isBetween hl (x) 0 2) dX4_coming_37 lk_X4_41 mwX4_isBetween msX4_isBetween rfl rfl (by decide) (Nat.le_of_ble_eq_true rfl) rfl ?_
      refine v_if_ne (tgt := 51) (pc' := 43) dX4_coming_40 (by decide) rfl (fun c_40 => ?_) (fun c_40 => ?_)
      · first | rw [z_b_ne0] at c_40 | rw [z_b_eq0] at c_40
        obtain ⟨n, n1, n2, rfl⟩ := z_in_nI (lo := 1) (hi := 200) (by omega) (by omega) c_31
        have hk0 : ex [nIOO, nIAE] (e_coming S.1 (nI u) (nI n) x) = none := by rw [e_coming, hi, c_31, c_40]; rfl
        have hcu : u < cnt (p_run n S.1) := by rw [cnt_run]; exact hu
        have loop := k_comingL (sz := sz) hl hK hA u hu hu6 n n1 n2 x hk0 hcu
        refine v_aload_n (pc' := 52) dX4_coming_51 rfl rfl ?_
        refine g_X4_23 (pc' := 55) rfl dX4_coming_52 (by assumption) rfl ?_
        refine v_aload_n (pc' := 56) dX4_coming_55 rfl rfl ?_
        refine g_X4_19 (pc' := 59) rfl dX4_coming_56 (by assumption) rfl ?_
        refine v_cVV (pc' := 62) (c1_copyFrom hl kTr kN aN aW (by omega)) dX4_coming_59 lk_X4_244 mwX1_copyFrom miX1_copyFrom kTr.1 rfl rfl rfl rfl (by decide) (Nat.le_of_ble_eq_true rfl) rfl ?_
        rintro I2 ⟨hA2, hF2⟩
        refine v_iconst (pc' := 63) dX4_coming_62 kc_0 rfl ?_
        refine v_istore5 (pc' := 65) dX4_coming_63 (by decide) rfl rfl ?_
        exact loop n 0 S.1 I2 (by omega) hA2 aW hF2 rfl
      · first | rw [z_b_ne0] at c_40 | rw [z_b_eq0] at c_40
        exact v_iae rfl rfl dX4_coming_43 dX4_coming_46 dX4_coming_47 dX4_coming_50 (by decide) (by decide) (fun sz' h9 => ⟨rfl, h9, by rw [e_coming, hi]; simp [ex, *], hA, FrK.rf⟩)
  · refine v_aload_n (pc' := 1) dX4_coming_0 rfl rfl ?_
    refine g_X4_19 (pc' := 4) rfl dX4_coming_1 (by assumption) rfl ?_
    refine v_iload_n (pc' := 5) dX4_coming_4 rfl rfl ?_
    refine v_cVR (pc' := 8) (c1_taskNone hl kN aN aW t hi) dX4_coming_5 lk_X4_119 mwX1_taskNumbered miX1_taskNumbered kN.1 rfl rfl rfl rfl (by decide) (Nat.le_of_ble_eq_true rfl) rfl ?_
    refine v_astoreN4 (pc' := 10) dX4_coming_8 (by decide) rfl rfl ?_
    refine v_aloadN (pc' := 12) dX4_coming_10 rfl rfl ?_
    refine v_ifnonnullN (pc' := 15) dX4_coming_12 rfl ?_
    exact v_ioo rfl rfl dX4_coming_15 dX4_coming_18 dX4_coming_19 dX4_coming_22 (by decide) (by decide) (fun sz' h9 => ⟨rfl, h9, by rw [e_coming, hi]; rfl, hA, FrK.rf⟩)

set_option maxRecDepth 20000 in
set_option maxHeartbeats 4000000 in
theorem k_scriptL (hl : l.stackTraces = false) (hK : ShK E G c) (hA : AbsK I c S) (n s : Nat) (n1 : 1 ≤ n) (n3 : n ≤ 3) (hs : s < 2 ^ 63) (hk0 : ex [nIAE] (e_script (nI n) (lN s)) = none) : ∀ (f i : Nat) (r1 : zR) (I1 : zI) (o : Option Value), z_c1 o = true → n = i + f → Abs I1 (c + 13) r1 → WF r1 → Fr I I1 (c + 13) → q_script s n f i r1 = v_script S.1 (nI n) (lN s) → z_V E l mX4_runScript (z_rm 8 1 6) 1 6 (z_fq G sz (ex [nIAE] (e_script (nI n) (lN s))) (fun y9 I' => y9 = v_script S.1 (nI n) (lN s) ∧ AbsK I' c (S) ∧ FrK I I' c) (fun I' => AbsK I' c S ∧ FrK I I' c)) 0 0 G I1 sz 55 [some (.ref c), some (.int (nI n)), some (.long (lN s)), none, some (.int (nI i)), o] [] := by
  obtain ⟨k0, kT, kN, kTr, kH, kSl, kF, kS⟩ := id hK
  obtain ⟨aX, aN, aW, aH, aF, aS⟩ := id hA
  intro f
  induction f with
  | zero =>
    intro i r1 I1 o ho hi hA1 hW1 hF1 hp
    refine v_iload (pc' := 57) dX4_runScript_55 rfl rfl ?_
    refine v_iload_n (pc' := 58) dX4_runScript_57 rfl rfl ?_
    refine v_icmp_ge (tgt := 99) (pc' := 61) dX4_runScript_58 (by decide) rfl (fun c_58 => ?_) (fun c_58 => ?_)
    · refine v_iconst (pc' := 100) dX4_runScript_99 kc_m1 rfl ?_
      exact v_iret dX4_runScript_100 rfl (by decide) (by decide) ⟨rfl, Nat.le_refl _, hk0, _, rfl, by rw [← hp]; rfl, hA.trial hF1, FrK.fr hF1 (by omega)⟩
    · exact absurd (nI_le (by omega) (by omega)) c_58
  | succ f ih =>
    intro i r1 I1 o ho hi hA1 hW1 hF1 hp
    refine v_iload (pc' := 57) dX4_runScript_55 rfl rfl ?_
    refine v_iload_n (pc' := 58) dX4_runScript_57 rfl rfl ?_
    refine v_icmp_ge (tgt := 99) (pc' := 61) dX4_runScript_58 (by decide) rfl (fun c_58 => ?_) (fun c_58 => ?_)
    · exact absurd c_58 (nI_ge (by omega) (by omega))
    · refine v_lload_n (pc' := 62) dX4_runScript_61 rfl rfl ?_
      refine v_iload_n (pc' := 63) dX4_runScript_62 rfl rfl ?_
      refine v_iconst (pc' := 64) dX4_runScript_63 kc_1 rfl ?_
      refine v_isub (pc' := 65) dX4_runScript_64 rfl ?_
      refine v_iload (pc' := 67) dX4_runScript_65 rfl rfl ?_
      refine v_isub (pc' := 68) dX4_runScript_67 rfl ?_
      rw [show (nI n - 1 - nI i : Int32) = nI (n - 1 - i) by rw [show (1 : Int32) = nI 1 from rfl, pk_sub (by omega), pk_sub (by omega)]]
      refine v_cSR (pc' := 71) (c4_without hl s (n - 1 - i) hs (by omega) rfl rfl) dX4_runScript_68 lk_X4_256 mwX4_withoutLastGroups msX4_withoutLastGroups rfl rfl (by decide) (Nat.le_of_ble_eq_true rfl) rfl ?_
      refine v_ldc2 (pc' := 74) dX4_runScript_71 cn_X4_260 rfl ?_
      refine v_lrem (pc' := 75) dX4_runScript_74 (by decide) rfl ?_
      rw [show (lN (s / 100000 ^ (n - 1 - i)) - lN (s / 100000 ^ (n - 1 - i)) / 100000 * 100000 : Int64) = lN (q_grp s n i) from pk_lRem (b := 100000) (Nat.lt_of_le_of_lt (Nat.div_le_self _ _) hs) (by omega) (by omega)]
      refine v_l2i (pc' := 76) dX4_runScript_75 rfl ?_
      rw [lN_i]
      refine v_istore5 (pc' := 78) dX4_runScript_76 (by decide) rfl rfl ?_
      refine v_aload_n (pc' := 79) dX4_runScript_78 rfl rfl ?_
      refine g_X4_23 (pc' := 82) rfl dX4_runScript_79 (by assumption) rfl ?_
      refine v_iload (pc' := 84) dX4_runScript_82 rfl rfl ?_
      refine v_cSI (pc' := 87) (c4_obeyGroup hl kTr hA1 hW1 (q_grp s n i) (Nat.mod_lt _ (by omega))) dX4_runScript_84 lk_X4_262 mwX4_obeyGroup msX4_obeyGroup rfl rfl (by decide) (Nat.le_of_ble_eq_true rfl) rfl ?_
      rintro _ I3 ⟨rfl, hA3, hF3⟩
      refine v_if_ne (tgt := 93) (pc' := 90) dX4_runScript_87 (by decide) rfl (fun c_87 => ?_) (fun c_87 => ?_)
      · first | rw [z_b_ne0] at c_87 | rw [z_b_eq0] at c_87
        refine v_iinc4 (pc' := 96) dX4_runScript_93 (by decide) rfl kc_1 (nI_1 i) rfl ?_
        refine v_goto (tgt := 55) dX4_runScript_96 (by decide) ?_
        exact ih (i + 1) _ I3 _ (by first | rfl | exact ho) (by omega) hA3 (WF_g hW1 _ _) (hF1.tr hF3) (by rw [← hp, q_script, if_pos c_87])
      · first | rw [z_b_ne0] at c_87 | rw [z_b_eq0] at c_87
        refine v_iload (pc' := 92) dX4_runScript_90 rfl rfl ?_
        exact v_iret dX4_runScript_92 rfl (by decide) (by decide) ⟨rfl, Nat.le_refl _, hk0, _, rfl, by rw [← hp, q_script, if_neg (by rw [c_87]; decide)], hA.trial (hF1.tr hF3), FrK.fr (hF1.tr hF3) (by omega)⟩

theorem l_nonneg {s : Int64} (h : 0 ≤ s) : ∃ k, k < 2 ^ 63 ∧ s = lN k ∧ s.toInt.toNat = k := by
  obtain ⟨k, hk, rfl⟩ := pk_lOf (x := s) (fun q => by
    rw [Int64.lt_iff_toInt_lt] at q
    rw [Int64.le_iff_toInt_le] at h
    omega)
  exact ⟨k, hk, rfl, by rw [pk_lT hk]; omega⟩
theorem lcmp0_lt {s : Int64} : (lg_cmp s 0 < 0) = ¬ (0 ≤ s) := by
  rw [propext lgc_lt]
  exact propext ⟨fun q w => by rw [Int64.lt_iff_toInt_lt] at q; rw [Int64.le_iff_toInt_le] at w; omega, fun q => by
    rw [Int64.le_iff_toInt_le] at q; rw [Int64.lt_iff_toInt_lt]; omega⟩
theorem lcmp0_eq {k : Nat} (hk : k < 2 ^ 63) : (lg_cmp (lN k) 0 = 0) = (k = 0) := by
  unfold lg_cmp
  have e : (lN k : Int64) = 0 ↔ k = 0 := pk_lEQ (b := 0) hk (by omega)
  by_cases h0 : k = 0
  · subst h0; simp [show (lN 0 : Int64) = 0 from rfl]
  · have : (0 : Int64) < lN k := (pk_lLT (a := 0) (by omega) hk).mpr (by omega)
    simp [this, h0]
set_option maxRecDepth 20000 in
set_option maxHeartbeats 4000000 in
theorem k_runScript (hl : l.stackTraces = false) (hK : ShK E G c) (hA : AbsK I c S) (n3 : Int32) (s : Int64) : z_CK E l mX4_runScript [.ref c, .int n3, .long s] G I sz c [nIAE] (e_script n3 s) (v_script S.1 n3 s) S S := by
  obtain ⟨k0, kT, kN, kTr, kH, kSl, kF, kS⟩ := id hK
  obtain ⟨aX, aN, aW, aH, aF, aS⟩ := id hA
  refine z_Cx.of hl pn_X4 [some (.ref c), some (.int n3), some (.long s), none, none, none] rfl (Nat.le_of_ble_eq_true rfl) ?_
  refine v_iload_n (pc' := 1) dX4_runScript_0 rfl rfl ?_
  refine v_iconst (pc' := 2) dX4_runScript_1 kc_1 rfl ?_
  refine v_iconst (pc' := 3) dX4_runScript_2 kc_3 rfl ?_
  refine v_cSR (pc' := 6) (c4_isBetween hl (n3) 1 3) dX4_runScript_3 lk_X4_41 mwX4_isBetween msX4_isBetween rfl rfl (by decide) (Nat.le_of_ble_eq_true rfl) rfl ?_
  refine v_if_ne (tgt := 17) (pc' := 9) dX4_runScript_6 (by decide) rfl (fun c_6 => ?_) (fun c_6 => ?_)
  · first | rw [z_b_ne0] at c_6 | rw [z_b_eq0] at c_6
    obtain ⟨n, n1, n2, rfl⟩ := z_in_nI (lo := 1) (hi := 3) (by omega) (by omega) c_6
    have hnc : (nI n).toNatClampNeg = n := nI_clamp (by omega)
    refine v_lload_n (pc' := 18) dX4_runScript_17 rfl rfl ?_
    refine v_lconst (pc' := 19) dX4_runScript_18 kl_0 rfl ?_
    refine v_lcmp (pc' := 20) dX4_runScript_19 rfl ?_
    refine v_if_lt (tgt := 33) (pc' := 23) dX4_runScript_20 (by decide) rfl (fun c_20 => ?_) (fun c_20 => ?_)
    · rw [lcmp0_lt] at c_20
      exact v_iae rfl rfl dX4_runScript_33 dX4_runScript_36 dX4_runScript_37 dX4_runScript_40 (by decide) (by decide) (fun sz' h9 => ⟨rfl, h9, by first | (rw [e_script, c_6, decide_eq_false c_20]; rfl) | (rw [e_script, c_6, decide_eq_true c_20, hkt, hnc, decide_eq_false c_30]; rfl), hA, FrK.rf⟩)
    · rw [lcmp0_lt, Classical.not_not] at c_20
      obtain ⟨k, hk, rfl, hkt⟩ := l_nonneg c_20
      refine v_lload_n (pc' := 24) dX4_runScript_23 rfl rfl ?_
      refine v_iload_n (pc' := 25) dX4_runScript_24 rfl rfl ?_
      refine v_cSR (pc' := 28) (c4_without hl k n hk (by omega) rfl rfl) dX4_runScript_25 lk_X4_256 mwX4_withoutLastGroups msX4_withoutLastGroups rfl rfl (by decide) (Nat.le_of_ble_eq_true rfl) rfl ?_
      refine v_lconst (pc' := 29) dX4_runScript_28 kl_0 rfl ?_
      refine v_lcmp (pc' := 30) dX4_runScript_29 rfl ?_
      refine v_if_eq (tgt := 41) (pc' := 33) dX4_runScript_30 (by decide) rfl (fun c_30 => ?_) (fun c_30 => ?_)
      · rw [lcmp0_eq (Nat.lt_of_le_of_lt (Nat.div_le_self _ _) hk)] at c_30
        have hk0 : ex [nIAE] (e_script (nI n) (lN k)) = none := by rw [e_script, c_6, decide_eq_true c_20, hkt, hnc, decide_eq_true c_30]; rfl
        refine v_aload_n (pc' := 42) dX4_runScript_41 rfl rfl ?_
        refine g_X4_23 (pc' := 45) rfl dX4_runScript_42 (by assumption) rfl ?_
        refine v_aload_n (pc' := 46) dX4_runScript_45 rfl rfl ?_
        refine g_X4_19 (pc' := 49) rfl dX4_runScript_46 (by assumption) rfl ?_
        refine v_cVV (pc' := 52) (c1_copyFrom hl kTr kN aN aW (by omega)) dX4_runScript_49 lk_X4_244 mwX1_copyFrom miX1_copyFrom kTr.1 rfl rfl rfl rfl (by decide) (Nat.le_of_ble_eq_true rfl) rfl ?_
        rintro I2 ⟨hA2, hF2⟩
        refine v_iconst (pc' := 53) dX4_runScript_52 kc_0 rfl ?_
        refine v_istore4 (pc' := 55) dX4_runScript_53 (by decide) rfl rfl ?_
        exact k_scriptL hl hK hA n k n1 n2 hk hk0 n 0 S.1 I2 none rfl (by omega) hA2 aW hF2 (by rw [v_script, hkt, hnc])
      · rw [lcmp0_eq (Nat.lt_of_le_of_lt (Nat.div_le_self _ _) hk)] at c_30
        exact v_iae rfl rfl dX4_runScript_33 dX4_runScript_36 dX4_runScript_37 dX4_runScript_40 (by decide) (by decide) (fun sz' h9 => ⟨rfl, h9, by first | (rw [e_script, c_6, decide_eq_false c_20]; rfl) | (rw [e_script, c_6, decide_eq_true c_20, hkt, hnc, decide_eq_false c_30]; rfl), hA, FrK.rf⟩)
  · first | rw [z_b_ne0] at c_6 | rw [z_b_eq0] at c_6
    exact v_iae rfl rfl dX4_runScript_9 dX4_runScript_12 dX4_runScript_13 dX4_runScript_16 (by decide) (by decide) (fun sz' h9 => ⟨rfl, h9, by rw [e_script, c_6]; rfl, hA, FrK.rf⟩)
set_option maxRecDepth 20000 in
set_option maxHeartbeats 4000000 in
theorem k_simL (hl : l.stackTraces = false) (hK : ShK E G c) (hA : AbsK I c S) (g : Int64 → Int64) (hg : ∀ x : Int64, x * 6364136223846793005 + 1442695040888963407 = g x) (s : Int64) (n : Nat) (n1 : 1 ≤ n) (n2 : n ≤ 60) (hk0 : ex [nIAE] (e_sim (nI n)) = none) : ∀ (f j : Nat) (x9 : Int64) (r1 : zR) (I1 : zI), n = j + f → Abs I1 (c + 13) r1 → WF r1 → Fr I I1 (c + 13) → q_sim g f x9 r1 = q_sim g n s S.1 → z_V E l mX4_simulate (z_rm 8 1 6) 1 6 (z_fq G sz (ex [nIAE] (e_sim (nI n))) (fun y9 I' => y9 = v_simg g S.1 s (nI n) ∧ AbsK I' c (S) ∧ FrK I I' c) (fun I' => AbsK I' c S ∧ FrK I I' c)) 0 0 G I1 sz 35 [some (.ref c), some (.long s), none, some (.int (nI n)), some (.long x9), none, some (.int (nI j))] [] := by
  obtain ⟨k0, kT, kN, kTr, kH, kSl, kF, kS⟩ := id hK
  obtain ⟨aX, aN, aW, aH, aF, aS⟩ := id hA
  intro f
  induction f with
  | zero =>
    intro j x9 r1 I1 hj hA1 hW1 hF1 hp
    rw [q_sim] at hp
    refine v_iload (pc' := 37) dX4_simulate_35 rfl rfl ?_
    refine v_iload_n (pc' := 38) dX4_simulate_37 rfl rfl ?_
    refine v_icmp_ge (tgt := 72) (pc' := 41) dX4_simulate_38 (by decide) rfl (fun c_38 => ?_) (fun c_38 => ?_)
    · refine v_aload_n (pc' := 73) dX4_simulate_72 rfl rfl ?_
      refine g_X4_23 (pc' := 76) rfl dX4_simulate_73 (by assumption) rfl ?_
      refine g_X4_116 (pc' := 79) rfl dX4_simulate_76 kTr.1 rfl ?_
      refine v_aload_n (pc' := 80) dX4_simulate_79 rfl rfl ?_
      refine g_X4_19 (pc' := 83) rfl dX4_simulate_80 (by assumption) rfl ?_
      refine g_X4_116 (pc' := 86) rfl dX4_simulate_83 kN.1 rfl ?_
      rw [hA1.1.1.2.2.1, hF1 (c + 3) (by omega), aN.1.1.2.2.1]
      refine v_isub (pc' := 87) dX4_simulate_86 rfl ?_
      refine v_istore6 (pc' := 89) dX4_simulate_87 (by decide) rfl rfl ?_
      refine v_sipush (pc' := 92) dX4_simulate_89 ks_10000 rfl ?_
      refine v_aload_n (pc' := 93) dX4_simulate_92 rfl rfl ?_
      refine g_X4_23 (pc' := 96) rfl dX4_simulate_93 (by assumption) rfl ?_
      refine v_cVR (pc' := 99) (c1_countRunning hl kTr hA1 hW1) dX4_simulate_96 lk_X4_98 mwX1_countRunning miX1_countRunning kTr.1 rfl rfl rfl rfl (by decide) (Nat.le_of_ble_eq_true rfl) rfl ?_
      refine v_imul (pc' := 100) dX4_simulate_99 rfl ?_
      refine v_iload (pc' := 102) dX4_simulate_100 rfl rfl ?_
      refine v_sipush (pc' := 105) dX4_simulate_102 ks_9999 rfl ?_
      refine v_mmin (pc' := 108) rfl dX4_simulate_105 (by decide) (Nat.le_of_ble_eq_true rfl) rfl (by decide) (by decide) ?_
      refine v_iadd (pc' := 109) dX4_simulate_108 rfl ?_
      exact v_iret dX4_simulate_109 rfl (by decide) (by decide) ⟨rfl, Nat.le_refl _, hk0, _, rfl, (by rw [v_simg, nI_clamp (by omega), ← hp]), hA.trial hF1, FrK.fr hF1 (by omega)⟩
    · exact absurd (nI_le (by omega) (by omega)) c_38
  | succ f ih =>
    intro j x9 r1 I1 hj hA1 hW1 hF1 hp
    rw [q_sim] at hp
    refine v_iload (pc' := 37) dX4_simulate_35 rfl rfl ?_
    refine v_iload_n (pc' := 38) dX4_simulate_37 rfl rfl ?_
    refine v_icmp_ge (tgt := 72) (pc' := 41) dX4_simulate_38 (by decide) rfl (fun c_38 => ?_) (fun c_38 => ?_)
    · exact absurd c_38 (nI_ge (by omega) (by omega))
    · refine v_lload (pc' := 43) dX4_simulate_41 rfl rfl ?_
      refine v_ldc2 (pc' := 46) dX4_simulate_43 cn_X4_266 rfl ?_
      refine v_lmul (pc' := 47) dX4_simulate_46 rfl ?_
      refine v_ldc2 (pc' := 50) dX4_simulate_47 cn_X4_268 rfl ?_
      refine v_ladd (pc' := 51) dX4_simulate_50 rfl ?_
      refine v_lstore4 (pc' := 53) dX4_simulate_51 (by decide) rfl rfl ?_
      refine v_aload_n (pc' := 54) dX4_simulate_53 rfl rfl ?_
      refine g_X4_23 (pc' := 57) rfl dX4_simulate_54 (by assumption) rfl ?_
      refine v_lload (pc' := 59) dX4_simulate_57 rfl rfl ?_
      refine v_bipush (pc' := 61) dX4_simulate_59 kb_33 rfl ?_
      refine v_lushr (pc' := 62) dX4_simulate_61 rfl ?_
      skip
      refine v_l2i (pc' := 63) dX4_simulate_62 rfl ?_
      rw [hg x9]
      rw [(rd_x (g x9)).1]
      refine v_cSV (pc' := 66) (c4_takeTurn hl kTr hA1 hW1 (q_x (g x9)) (rd_x (g x9)).2) dX4_simulate_63 lk_X4_270 mwX4_takeTurn msX4_takeTurn rfl rfl (by decide) (Nat.le_of_ble_eq_true rfl) rfl ?_
      rintro I3 ⟨hA3, hF3⟩
      refine v_iinc6 (pc' := 69) dX4_simulate_66 (by decide) rfl kc_1 (nI_1 j) rfl ?_
      refine v_goto (tgt := 35) dX4_simulate_69 (by decide) ?_
      exact ih (j + 1) (g x9) _ I3 (by omega) hA3 (WF_turn hW1 _) (hF1.tr hF3) hp

set_option maxRecDepth 20000 in
set_option maxHeartbeats 4000000 in
theorem k_simulate (hl : l.stackTraces = false) (hK : ShK E G c) (hA : AbsK I c S) (s : Int64) (m3 : Int32) : z_CK E l mX4_simulate [.ref c, .long s, .int m3] G I sz c [nIAE] (e_sim m3) (v_sim S.1 s m3) S S := by
  obtain ⟨k0, kT, kN, kTr, kH, kSl, kF, kS⟩ := id hK
  obtain ⟨aX, aN, aW, aH, aF, aS⟩ := id hA
  refine z_Cx.of hl pn_X4 [some (.ref c), some (.long s), none, some (.int m3), none, none, none] rfl (Nat.le_of_ble_eq_true rfl) ?_
  refine v_iload_n (pc' := 1) dX4_simulate_0 rfl rfl ?_
  refine v_iconst (pc' := 2) dX4_simulate_1 kc_1 rfl ?_
  refine v_bipush (pc' := 4) dX4_simulate_2 kb_60 rfl ?_
  refine v_cSR (pc' := 7) (c4_isBetween hl (m3) 1 60) dX4_simulate_4 lk_X4_41 mwX4_isBetween msX4_isBetween rfl rfl (by decide) (Nat.le_of_ble_eq_true rfl) rfl ?_
  refine v_if_ne (tgt := 18) (pc' := 10) dX4_simulate_7 (by decide) rfl (fun c_7 => ?_) (fun c_7 => ?_)
  · first | rw [z_b_ne0] at c_7 | rw [z_b_eq0] at c_7
    obtain ⟨n, n1, n2, rfl⟩ := z_in_nI (lo := 1) (hi := 60) (by omega) (by omega) c_7
    have hk0 : ex [nIAE] (e_sim (nI n)) = none := by rw [e_sim, c_7]; rfl
    refine v_aload_n (pc' := 19) dX4_simulate_18 rfl rfl ?_
    refine g_X4_23 (pc' := 22) rfl dX4_simulate_19 (by assumption) rfl ?_
    refine v_aload_n (pc' := 23) dX4_simulate_22 rfl rfl ?_
    refine g_X4_19 (pc' := 26) rfl dX4_simulate_23 (by assumption) rfl ?_
    refine v_cVV (pc' := 29) (c1_copyFrom hl kTr kN aN aW (by omega)) dX4_simulate_26 lk_X4_244 mwX1_copyFrom miX1_copyFrom kTr.1 rfl rfl rfl rfl (by decide) (Nat.le_of_ble_eq_true rfl) rfl ?_
    rintro I2 ⟨hA2, hF2⟩
    refine v_lload_n (pc' := 30) dX4_simulate_29 rfl rfl ?_
    refine v_lstore4 (pc' := 32) dX4_simulate_30 (by decide) rfl rfl ?_
    refine v_iconst (pc' := 33) dX4_simulate_32 kc_0 rfl ?_
    refine v_istore6 (pc' := 35) dX4_simulate_33 (by decide) rfl rfl ?_
    exact k_simL hl hK hA q_nx (fun _ => rfl) s n n1 n2 hk0 n 0 s S.1 I2 (by omega) hA2 aW hF2 rfl
  · first | rw [z_b_ne0] at c_7 | rw [z_b_eq0] at c_7
    exact v_iae rfl rfl dX4_simulate_10 dX4_simulate_13 dX4_simulate_14 dX4_simulate_17 (by decide) (by decide) (fun sz' h9 => ⟨rfl, h9, by rw [e_sim, c_7]; rfl, hA, FrK.rf⟩)
end FACE3
