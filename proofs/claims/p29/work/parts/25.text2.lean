/-! THE CLASS: commands of a text; and what they do (written by wip/whole/gen_text2.py) -/
def p_two (T : Nat → Nat) (n lo1 hi1 d1 lo2 hi2 d2 k : Nat) : Option (Nat × Nat) × Nat :=
  match p_rn T n lo1 hi1 d1 0 k with
  | (none, k1) => (none, k1)
  | (some u, k1) =>
    match p_rn T n lo2 hi2 d2 0 k1 with
    | (none, k2) => (none, k2)
    | (some v, k2) => (some (u, v), k2)
def p_onen (T : Nat → Nat) (n lo hi d k : Nat) : Option (Nat × Nat) × Nat :=
  match p_rn T n lo hi d 0 k with
  | (none, k1) => (none, k1)
  | (some u, k1) => (some (u, 0), k1)
def p_cmd (T : Nat → Nat) (n k : Nat) : Option (Nat × Nat) × Nat :=
  if T k = 116 then p_two T n 1 6 1 0 996 3 (k + 1)
  else if T k = 108 then p_two T n 0 5 1 0 11 2 (k + 1)
  else if T k = 98 ∨ T k = 103 then p_onen T n 0 11 2 (k + 1)
  else if T k = 115 then p_onen T n 0 5 1 (k + 1)
  else if T k = 119 then p_onen T n 1 60 2 (k + 1)
  else (none, k)
theorem p_rn_rng {T : Nat → Nat} {n lo hi x : Nat} : ∀ (d v k : Nat), (p_rn T n lo hi (d + 1) v k).1 = some x → lo ≤ x ∧ x ≤ hi
  | 0, v, k, h => by
    rw [p_rn] at h
    cases hg : p_dig T n k with
    | none => simp only [hg] at h; cases h
    | some g =>
      simp only [hg] at h
      split at h
      · cases h
      · rename_i q
        rw [p_rn] at h
        cases h
        simp only [Nat.pow_zero, Nat.mul_one] at q
        omega
  | d + 1, v, k, h => by
    rw [p_rn] at h
    cases hg : p_dig T n k with
    | none => simp only [hg] at h; cases h
    | some g =>
      simp only [hg] at h
      split at h
      · cases h
      · exact p_rn_rng d _ _ h
theorem p_rn_lt {T : Nat → Nat} {n lo hi x : Nat} (d v k : Nat) (hk : k ≤ n) (h : (p_rn T n lo hi d v k).1 = some x) : k ≤ (p_rn T n lo hi d v k).2 ∧ (p_rn T n lo hi d v k).2 ≤ n := p_rn_le d v k hk
theorem p_cmd_le {T : Nat → Nat} {n k : Nat} (hk : k < n) : k ≤ (p_cmd T n k).2 ∧ (p_cmd T n k).2 ≤ n ∧ ((p_cmd T n k).1.isSome = true → k + 1 ≤ (p_cmd T n k).2) := by
  have two : ∀ lo1 hi1 d1 lo2 hi2 d2, k + 1 ≤ (p_two T n lo1 hi1 d1 lo2 hi2 d2 (k + 1)).2 ∧ (p_two T n lo1 hi1 d1 lo2 hi2 d2 (k + 1)).2 ≤ n := by
    intro lo1 hi1 d1 lo2 hi2 d2
    unfold p_two
    have h1 := p_rn_le (T := T) (n := n) (lo := lo1) (hi := hi1) d1 0 (k + 1) (by omega)
    rcases h : p_rn T n lo1 hi1 d1 0 (k + 1) with ⟨_ | u, k1⟩
    · rw [h] at h1; exact h1
    · rw [h] at h1
      have h2 := p_rn_le (T := T) (n := n) (lo := lo2) (hi := hi2) d2 0 k1 h1.2
      simp only at h1
      rcases h' : p_rn T n lo2 hi2 d2 0 k1 with ⟨_ | u, k2⟩
      · rw [h'] at h2; simp only [h']; simp only at h2; omega
      · rw [h'] at h2; simp only [h']; simp only at h2; omega
  have one : ∀ lo hi d, k + 1 ≤ (p_onen T n lo hi d (k + 1)).2 ∧ (p_onen T n lo hi d (k + 1)).2 ≤ n := by
    intro lo hi d
    unfold p_onen
    have h1 := p_rn_le (T := T) (n := n) (lo := lo) (hi := hi) d 0 (k + 1) (by omega)
    rcases h : p_rn T n lo hi d 0 (k + 1) with ⟨_ | u, k1⟩ <;> (rw [h] at h1; exact h1)
  unfold p_cmd
  split
  · have := two 1 6 1 0 996 3; exact ⟨by omega, by omega, fun _ => by omega⟩
  split
  · have := two 0 5 1 0 11 2; exact ⟨by omega, by omega, fun _ => by omega⟩
  split
  · have := one 0 11 2; exact ⟨by omega, by omega, fun _ => by omega⟩
  split
  · have := one 0 5 1; exact ⟨by omega, by omega, fun _ => by omega⟩
  split
  · have := one 1 60 2; exact ⟨by omega, by omega, fun _ => by omega⟩
  · exact ⟨Nat.le_refl _, by omega, fun h => by cases h⟩
def p_obey (r : zR) (L u v : Nat) : zR :=
  if L = 116 then t_add r (nI u) (nI v) else if L = 108 then t_job r (nI u) (nI v) else if L = 98 then t_bad r (nI u) else if L = 103 then t_mend r (nI u) else if L = 115 then t_stop r (nI u) else t_run r (nI u)
def p_obeyb (r : zR) (L u v : Nat) : Bool :=
  if L = 116 then decide (cnt r < 6) else if L = 108 then p_canb r (nI u) (nI v) else if L = 98 then p_isStripe (nI u) else if L = 103 then p_isStripe (nI u) else if L = 115 then p_cans r (nI u) else z_in (nI u) 1 60
theorem t_addv_ne {r : zR} (h : WF r) : (t_addv r = -1) = ¬ (cnt r < 6) := by
  have h6 := h.1.1
  unfold t_addv
  split
  · rename_i q; exact propext ⟨fun e => absurd e (nI_m1 (by omega)), fun e => absurd q e⟩
  · rename_i q; exact propext ⟨fun _ => q, fun _ => rfl⟩
theorem t_jobv_ne {r : zR} (h : WF r) (t s : Int32) : (t_jobv r t s = -1) = ¬ (p_canb r t s = true) := by
  unfold t_jobv
  split
  · rename_i q
    obtain ⟨t, s, rfl, rfl, a, -⟩ := canb_of h q
    have h6 := h.1.1
    have := bringv_pos h a
    rw [nI_clamp (by omega)]
    exact propext ⟨fun e => by rw [e, i_m1] at this; omega, fun e => absurd q e⟩
  · rename_i q; exact propext ⟨fun _ => q, fun _ => rfl⟩
theorem t_mendv_ne {r : zR} (h : WF r) (s : Int32) : (t_mendv r s = -1) = ¬ (p_isStripe s = true) := by
  unfold t_mendv
  split
  · rename_i q
    obtain ⟨u, hu, rfl⟩ := p_isStripe_nI q
    rw [nI_clamp (by omega)]
    refine propext ⟨fun e => ?_, fun e => absurd q e⟩
    rcases h.2.2.2.1 u hu with q2 | q2 <;> rw [q2] at e <;> exact absurd e (by decide)
  · rename_i q; exact propext ⟨fun _ => q, fun _ => rfl⟩
theorem t_stopv_ne {r : zR} (h : WF r) (t : Int32) : (t_stopv r t = -1) = ¬ (p_cans r t = true) := by
  unfold t_stopv
  split
  · rename_i q
    obtain ⟨u, hu, hu6, rfl, -⟩ := p_cans_nI h q
    rw [nI_clamp (by omega)]
    have := (h.2.1 u hu).2.1
    exact propext ⟨fun e => by unfold tI at this; rw [e, i_m1] at this; omega, fun e => absurd q e⟩
  · rename_i q; exact propext ⟨fun _ => q, fun _ => rfl⟩
theorem t_runv_ne {r : zR} (h : WF r) (n : Int32) : (t_runv r n = -1) = ¬ (z_in n 1 60 = true) := by
  unfold t_runv
  split
  · rename_i q
    obtain ⟨c, h1, h2, rfl⟩ := z_in_nI (lo := 1) (hi := 60) (by omega) (by omega) q
    rw [nI_clamp (by omega)]
    obtain ⟨w, hw, e9⟩ := run_val (n := c) h
    rw [e9]
    exact propext ⟨fun e => absurd e (nI_m1 (by omega)), fun e => absurd q e⟩
  · rename_i q; exact propext ⟨fun _ => q, fun _ => rfl⟩
section TEXT2
variable {E : zE} {l : Launch} {G : zG} {I : zI} {sz a n : Nat} {T : Nat → Nat} {r : zR}
def p_wrong (T : Nat → Nat) (n : Nat) : Bool := decide (n = 0) || decide (¬ T 0 = 65)
def p_at0 (T : Nat → Nat) (n : Nat) : Nat := if p_wrong T n then 0 else 1
set_option maxRecDepth 20000 in
set_option maxHeartbeats 4000000 in
theorem c3_beginReading (hl : l.stackTraces = false) (hS : ShT E G a) (hX : AbsX I a T n) : z_CV E l mX3_beginReading 0 [.ref a] G I sz (fun I' => FrT I I' a ∧ I' a 2 = nI (p_at0 T n) ∧ I' a 3 = z_b (p_wrong T n)) := by
  obtain ⟨h0, h1⟩ := id hS
  obtain ⟨hn, gn, gc⟩ := id hX
  refine z_Ct.of hl pn_X3 [some (.ref a)] rfl (Nat.le_of_ble_eq_true rfl) ?_
  refine v_aload_n (pc' := 1) dX3_beginReading_0 rfl rfl ?_
  refine v_aload_n (pc' := 2) dX3_beginReading_1 rfl rfl ?_
  refine g_X3_15 (pc' := 5) rfl dX3_beginReading_2 (by assumption) rfl ?_
  rw [gn]
  refine v_if_eq (tgt := 19) (pc' := 8) dX3_beginReading_5 (by decide) rfl (fun c_5 => ?_) (fun c_5 => ?_)
  · have hn0 : n = 0 := by
      rcases Nat.eq_zero_or_pos n with q | q
      · exact q
      · exact absurd c_5 (nI_ne0 q (by omega))
    have hw : p_wrong T n = true := by simp [p_wrong, hn0]
    refine v_iconst (pc' := 20) dX3_beginReading_19 kc_1 rfl ?_
    refine v_goto (tgt := 24) dX3_beginReading_20 (by decide) ?_
    refine p_X3_22 (pc' := 27) rfl rfl rfl dX3_beginReading_24 (by assumption) rfl ?_
    refine v_aload_n (pc' := 28) dX3_beginReading_27 rfl rfl ?_
    refine v_aload_n (pc' := 29) dX3_beginReading_28 rfl rfl ?_
    refine g_X3_22 (pc' := 32) rfl dX3_beginReading_29 (by assumption) rfl ?_
    first | rw [show z_up I a 3 1 a 3 = 1 by rw [z_up_row, z_row_at, pk_us]] | rw [show z_up I a 3 0 a 3 = 0 by rw [z_up_row, z_row_at, pk_us]]
    refine v_if_eq (tgt := 39) (pc' := 35) dX3_beginReading_32 (by decide) rfl (fun c_32 => ?_) (fun c_32 => ?_)
    · refine v_iconst (pc' := 40) dX3_beginReading_39 kc_1 rfl ?_
      refine p_X3_19 (pc' := 43) rfl dX3_beginReading_40 (by assumption) rfl ?_
      exact v_vret dX3_beginReading_43 rfl (Nat.le_refl _) (Nat.le_refl _) (by
        first
          | exact absurd c_32 (by decide)
          | exact absurd rfl c_32
          | exact ⟨rfl, rfl, rfl, (FrT.up (by omega)).tr (FrT.up (by omega)), by rw [p_at0, hw, z_up_row, z_row_at, pk_us]; rfl, by rw [hw]; simp (disch := omega) only [z_up_row, z_row_row, z_row_at, pk_us, pk_un]; rfl⟩)
    · refine v_iconst (pc' := 36) dX3_beginReading_35 kc_0 rfl ?_
      refine v_goto (tgt := 40) dX3_beginReading_36 (by decide) ?_
      refine p_X3_19 (pc' := 43) rfl dX3_beginReading_40 (by assumption) rfl ?_
      exact v_vret dX3_beginReading_43 rfl (Nat.le_refl _) (Nat.le_refl _) (by
        first
          | exact absurd c_32 (by decide)
          | exact absurd rfl c_32
          | exact ⟨rfl, rfl, rfl, (FrT.up (by omega)).tr (FrT.up (by omega)), by rw [p_at0, hw, z_up_row, z_row_at, pk_us]; rfl, by rw [hw]; simp (disch := omega) only [z_up_row, z_row_row, z_row_at, pk_us, pk_un]; rfl⟩)
  · have hn0 : ¬ n = 0 := fun q => c_5 (by rw [q]; rfl)
    obtain ⟨t1, t2⟩ := gc 0 (by omega)
    refine v_aload_n (pc' := 9) dX3_beginReading_8 rfl rfl ?_
    refine g_X3_9 (pc' := 12) rfl dX3_beginReading_9 (by assumption) rfl ?_
    refine v_iconst (pc' := 13) dX3_beginReading_12 kc_0 rfl ?_
    refine v_cald (pc' := 14) dX3_beginReading_13 (0) rfl (by assumption) (by decide) (by decide) rfl ?_
    rw [t2]
    refine v_bipush (pc' := 16) dX3_beginReading_14 kb_65 rfl ?_
    refine v_icmp_eq (tgt := 23) (pc' := 19) dX3_beginReading_16 (by decide) rfl (fun c_16 => ?_) (fun c_16 => ?_)
    · have hw : p_wrong T n = false := by
        have := (nI_eq (a := T 0) (b := 65) (by omega) (by omega)).mp c_16
        simp [p_wrong, hn0, this]
      refine v_iconst (pc' := 24) dX3_beginReading_23 kc_0 rfl ?_
      refine p_X3_22 (pc' := 27) rfl rfl rfl dX3_beginReading_24 (by assumption) rfl ?_
      refine v_aload_n (pc' := 28) dX3_beginReading_27 rfl rfl ?_
      refine v_aload_n (pc' := 29) dX3_beginReading_28 rfl rfl ?_
      refine g_X3_22 (pc' := 32) rfl dX3_beginReading_29 (by assumption) rfl ?_
      first | rw [show z_up I a 3 1 a 3 = 1 by rw [z_up_row, z_row_at, pk_us]] | rw [show z_up I a 3 0 a 3 = 0 by rw [z_up_row, z_row_at, pk_us]]
      refine v_if_eq (tgt := 39) (pc' := 35) dX3_beginReading_32 (by decide) rfl (fun c_32 => ?_) (fun c_32 => ?_)
      · refine v_iconst (pc' := 40) dX3_beginReading_39 kc_1 rfl ?_
        refine p_X3_19 (pc' := 43) rfl dX3_beginReading_40 (by assumption) rfl ?_
        exact v_vret dX3_beginReading_43 rfl (Nat.le_refl _) (Nat.le_refl _) (by
          first
            | exact absurd c_32 (by decide)
            | exact absurd rfl c_32
            | exact ⟨rfl, rfl, rfl, (FrT.up (by omega)).tr (FrT.up (by omega)), by rw [p_at0, hw, z_up_row, z_row_at, pk_us]; rfl, by rw [hw]; simp (disch := omega) only [z_up_row, z_row_row, z_row_at, pk_us, pk_un]; rfl⟩)
      · refine v_iconst (pc' := 36) dX3_beginReading_35 kc_0 rfl ?_
        refine v_goto (tgt := 40) dX3_beginReading_36 (by decide) ?_
        refine p_X3_19 (pc' := 43) rfl dX3_beginReading_40 (by assumption) rfl ?_
        exact v_vret dX3_beginReading_43 rfl (Nat.le_refl _) (Nat.le_refl _) (by
          first
            | exact absurd c_32 (by decide)
            | exact absurd rfl c_32
            | exact ⟨rfl, rfl, rfl, (FrT.up (by omega)).tr (FrT.up (by omega)), by rw [p_at0, hw, z_up_row, z_row_at, pk_us]; rfl, by rw [hw]; simp (disch := omega) only [z_up_row, z_row_row, z_row_at, pk_us, pk_un]; rfl⟩)
    · have hw : p_wrong T n = true := by
        have : ¬ T 0 = 65 := fun q => c_16 (by rw [q]; rfl)
        simp [p_wrong, this]
      refine v_iconst (pc' := 20) dX3_beginReading_19 kc_1 rfl ?_
      refine v_goto (tgt := 24) dX3_beginReading_20 (by decide) ?_
      refine p_X3_22 (pc' := 27) rfl rfl rfl dX3_beginReading_24 (by assumption) rfl ?_
      refine v_aload_n (pc' := 28) dX3_beginReading_27 rfl rfl ?_
      refine v_aload_n (pc' := 29) dX3_beginReading_28 rfl rfl ?_
      refine g_X3_22 (pc' := 32) rfl dX3_beginReading_29 (by assumption) rfl ?_
      first | rw [show z_up I a 3 1 a 3 = 1 by rw [z_up_row, z_row_at, pk_us]] | rw [show z_up I a 3 0 a 3 = 0 by rw [z_up_row, z_row_at, pk_us]]
      refine v_if_eq (tgt := 39) (pc' := 35) dX3_beginReading_32 (by decide) rfl (fun c_32 => ?_) (fun c_32 => ?_)
      · refine v_iconst (pc' := 40) dX3_beginReading_39 kc_1 rfl ?_
        refine p_X3_19 (pc' := 43) rfl dX3_beginReading_40 (by assumption) rfl ?_
        exact v_vret dX3_beginReading_43 rfl (Nat.le_refl _) (Nat.le_refl _) (by
          first
            | exact absurd c_32 (by decide)
            | exact absurd rfl c_32
            | exact ⟨rfl, rfl, rfl, (FrT.up (by omega)).tr (FrT.up (by omega)), by rw [p_at0, hw, z_up_row, z_row_at, pk_us]; rfl, by rw [hw]; simp (disch := omega) only [z_up_row, z_row_row, z_row_at, pk_us, pk_un]; rfl⟩)
      · refine v_iconst (pc' := 36) dX3_beginReading_35 kc_0 rfl ?_
        refine v_goto (tgt := 40) dX3_beginReading_36 (by decide) ?_
        refine p_X3_19 (pc' := 43) rfl dX3_beginReading_40 (by assumption) rfl ?_
        exact v_vret dX3_beginReading_43 rfl (Nat.le_refl _) (Nat.le_refl _) (by
          first
            | exact absurd c_32 (by decide)
            | exact absurd rfl c_32
            | exact ⟨rfl, rfl, rfl, (FrT.up (by omega)).tr (FrT.up (by omega)), by rw [p_at0, hw, z_up_row, z_row_at, pk_us]; rfl, by rw [hw]; simp (disch := omega) only [z_up_row, z_row_row, z_row_at, pk_us, pk_un]; rfl⟩)
set_option maxRecDepth 20000 in
set_option maxHeartbeats 4000000 in
theorem c3_readCommandW (hl : l.stackTraces = false) (hS : ShT E G a) (hX : AbsX I a T n) (hw : I a 3 = 1) : z_CI E l mX3_readCommand 4 [.ref a] G I sz (fun x I' => x = 0 ∧ I' = I) := by
  obtain ⟨h0, h1⟩ := id hS
  obtain ⟨hn, gn, gc⟩ := id hX
  refine z_Ct.of hl pn_X3 [some (.ref a)] rfl (Nat.le_of_ble_eq_true rfl) ?_
  refine v_aload_n (pc' := 1) dX3_readCommand_0 rfl rfl ?_
  refine g_X3_22 (pc' := 4) rfl dX3_readCommand_1 (by assumption) rfl ?_
  rw [hw]
  refine v_if_ne (tgt := 18) (pc' := 7) dX3_readCommand_4 (by decide) rfl (fun c_4 => ?_) (fun c_4 => ?_)
  · refine v_iconst (pc' := 19) dX3_readCommand_18 kc_0 rfl ?_
    exact v_zret dX3_readCommand_19 rfl (Nat.le_refl _) (Nat.le_refl _) rfl ⟨_, rfl, rfl, rfl, rfl, rfl⟩
  · exact absurd c_4 (by decide)
set_option maxRecDepth 20000 in
set_option maxHeartbeats 4000000 in
theorem c3_readCommandE (hl : l.stackTraces = false) (hS : ShT E G a) (hX : AbsX I a T n) (hw : I a 3 = 0) (k : Nat) (hk : k ≤ n) (hkn : ¬ k < n) (hat : I a 2 = nI k) : z_CI E l mX3_readCommand 4 [.ref a] G I sz (fun x I' => x = 0 ∧ I' = I) := by
  obtain ⟨h0, h1⟩ := id hS
  obtain ⟨hn, gn, gc⟩ := id hX
  refine z_Ct.of hl pn_X3 [some (.ref a)] rfl (Nat.le_of_ble_eq_true rfl) ?_
  refine v_aload_n (pc' := 1) dX3_readCommand_0 rfl rfl ?_
  refine g_X3_22 (pc' := 4) rfl dX3_readCommand_1 (by assumption) rfl ?_
  rw [hw]
  refine v_if_ne (tgt := 18) (pc' := 7) dX3_readCommand_4 (by decide) rfl (fun c_4 => ?_) (fun c_4 => ?_)
  · exact absurd rfl c_4
  · refine v_aload_n (pc' := 8) dX3_readCommand_7 rfl rfl ?_
    refine v_aload_n (pc' := 9) dX3_readCommand_8 rfl rfl ?_
    refine g_X3_19 (pc' := 12) rfl dX3_readCommand_9 (by assumption) rfl ?_
    rw [hat]
    refine v_cVR (pc' := 15) (c3_isInText hl hS hX k (by omega)) dX3_readCommand_12 lk_X3_46 mwX3_isInText miX3_isInText h0 rfl rfl rfl rfl (by decide) (Nat.le_of_ble_eq_true rfl) rfl ?_
    rw [decide_eq_false hkn]
    refine v_if_ne (tgt := 20) (pc' := 18) dX3_readCommand_15 (by decide) rfl (fun c_15 => ?_) (fun c_15 => ?_)
    · exact absurd rfl c_15
    · refine v_iconst (pc' := 19) dX3_readCommand_18 kc_0 rfl ?_
      exact v_zret dX3_readCommand_19 rfl (Nat.le_refl _) (Nat.le_refl _) rfl ⟨_, rfl, rfl, rfl, rfl, rfl⟩
set_option maxRecDepth 20000 in
set_option maxHeartbeats 4000000 in
theorem c3_rc_t (hl : l.stackTraces = false) (hS : ShT E G a) (hX : AbsX I a T n) (hw : I a 3 = 0) (k : Nat) (hk : k < n) (hat : I a 2 = nI k) (hc : T k = 116) : z_CI E l mX3_readCommand 4 [.ref a] G I sz (fun x I' => (FrT I I' a ∧ I' a 2 = nI (p_cmd T n k).2 ∧ I' a 3 = z_b (!(p_cmd T n k).1.isSome) ∧ x = z_b (p_cmd T n k).1.isSome ∧ ∀ u v, (p_cmd T n k).1 = some (u, v) → I' a 4 = nI (T k) ∧ I' a 5 = nI u ∧ ((T k = 116 ∨ T k = 108) → I' a 6 = nI v))) := by
  obtain ⟨h0, h1⟩ := id hS
  obtain ⟨hn, gn, gc⟩ := id hX
  obtain ⟨t1, t2⟩ := gc k hk
  have ec : p_cmd T n k = p_two T n 1 6 1 0 996 3 (k + 1) := by unfold p_cmd; split <;> (try split) <;> first | rfl | omega
  rcases hr1 : p_rn T n 1 6 1 0 (k + 1) with ⟨_ | u, k1⟩
  · have hv : p_cmd T n k = (none, k1) := by rw [ec, p_two, hr1]
    refine z_Ct.of hl pn_X3 [some (.ref a)] rfl (Nat.le_of_ble_eq_true rfl) ?_
    refine v_aload_n (pc' := 1) dX3_readCommand_0 rfl rfl ?_
    refine g_X3_22 (pc' := 4) rfl dX3_readCommand_1 (by assumption) rfl ?_
    rw [hw]
    refine v_if_ne (tgt := 18) (pc' := 7) dX3_readCommand_4 (by decide) rfl (fun c_4 => ?_) (fun c_4 => ?_)
    · exact absurd rfl c_4
    · refine v_aload_n (pc' := 8) dX3_readCommand_7 rfl rfl ?_
      refine v_aload_n (pc' := 9) dX3_readCommand_8 rfl rfl ?_
      refine g_X3_19 (pc' := 12) rfl dX3_readCommand_9 (by assumption) rfl ?_
      rw [hat]
      refine v_cVR (pc' := 15) (c3_isInText hl hS hX k (by omega)) dX3_readCommand_12 lk_X3_46 mwX3_isInText miX3_isInText h0 rfl rfl rfl rfl (by decide) (Nat.le_of_ble_eq_true rfl) rfl ?_
      rw [decide_eq_true hk]
      refine v_if_ne (tgt := 20) (pc' := 18) dX3_readCommand_15 (by decide) rfl (fun c_15 => ?_) (fun c_15 => ?_)
      · refine v_aload_n (pc' := 21) dX3_readCommand_20 rfl rfl ?_
        refine v_aload_n (pc' := 22) dX3_readCommand_21 rfl rfl ?_
        refine g_X3_9 (pc' := 25) rfl dX3_readCommand_22 (by assumption) rfl ?_
        refine v_aload_n (pc' := 26) dX3_readCommand_25 rfl rfl ?_
        refine g_X3_19 (pc' := 29) rfl dX3_readCommand_26 (by assumption) rfl ?_
        rw [hat]
        refine v_cald (pc' := 30) dX3_readCommand_29 (k) rfl (by assumption) (by omega) (by decide) rfl ?_
        rw [t2]
        refine p_X3_26 (pc' := 33) rfl dX3_readCommand_30 (by assumption) rfl ?_
        refine v_aload_n (pc' := 34) dX3_readCommand_33 rfl rfl ?_
        refine v_dup (pc' := 35) dX3_readCommand_34 rfl rfl ?_
        refine g_X3_19 (pc' := 38) rfl dX3_readCommand_35 (by assumption) rfl ?_
        rw [show z_up I a 4 (nI (T k)) a 2 = nI k by rw [z_up_row, z_row_at, pk_un (by omega)]; exact hat]
        refine v_iconst (pc' := 39) dX3_readCommand_38 kc_1 rfl ?_
        refine v_iadd (pc' := 40) dX3_readCommand_39 rfl ?_
        rw [nI_1]
        refine p_X3_19 (pc' := 43) rfl dX3_readCommand_40 (by assumption) rfl ?_
        refine v_aload_n (pc' := 44) dX3_readCommand_43 rfl rfl ?_
        refine g_X3_26 (pc' := 47) rfl dX3_readCommand_44 (by assumption) rfl ?_
        rw [show z_up (z_up I a 4 (nI (T k))) a 2 (nI (k + 1)) a 4 = nI (T k) by simp (disch := omega) only [z_up_row, z_row_row, z_row_at, pk_us, pk_un]]
        generalize hI1 : z_up (z_up I a 4 (nI (T k))) a 2 (nI (k + 1)) = I1
        have hF1 : FrT I I1 a := by rw [← hI1]; exact (FrT.up (by omega)).tr (FrT.up (by omega))
        have hX1 := hX.fr hF1
        have l1 : I1 a 4 = nI (T k) := by rw [← hI1]; simp (disch := omega) only [z_up_row, z_row_row, z_row_at, pk_us, pk_un]
        have at1 : I1 a 2 = nI (k + 1) := by rw [← hI1]; simp (disch := omega) only [z_up_row, z_row_row, z_row_at, pk_us]
        have w1 : I1 a 3 = 0 := by rw [← hI1]; simp (disch := omega) only [z_up_row, z_row_row, z_row_at, pk_un]; exact hw
        refine v_lookup (tgt := 104) (off := 57) dX3_readCommand_47 rfl (by rw [nI_toInt (by omega)]; simp only [Array.toList, Op.lookupswitch.offset]; repeat' first | omega | split) (by decide) ?_
        refine v_aload_n (pc' := 105) dX3_readCommand_104 rfl rfl ?_
        refine v_aload_n (pc' := 106) dX3_readCommand_105 rfl rfl ?_
        refine v_iconst (pc' := 107) dX3_readCommand_106 kc_1 rfl ?_
        refine v_iconst (pc' := 108) dX3_readCommand_107 kc_1 rfl ?_
        refine v_bipush (pc' := 110) dX3_readCommand_108 kb_6 rfl ?_
        refine v_cVI (pc' := 113) (c3_readNumber hl hS hX1 1 1 6 (k + 1) (by omega) (by omega) (by omega) (by omega) at1 w1 rfl rfl rfl) dX3_readCommand_110 lk_X3_50 mwX3_readNumber miX3_readNumber h0 rfl rfl rfl rfl (by decide) (Nat.le_of_ble_eq_true rfl) rfl ?_
        rintro x2 I2 ⟨hF2, at2, w2, rfl⟩
        rw [hr1] at at2 w2 ⊢
        refine p_X3_29 (pc' := 116) rfl dX3_readCommand_113 (by assumption) rfl ?_
        refine v_aload_n (pc' := 117) dX3_readCommand_116 rfl rfl ?_
        refine v_aload_n (pc' := 118) dX3_readCommand_117 rfl rfl ?_
        refine v_iconst (pc' := 119) dX3_readCommand_118 kc_3 rfl ?_
        refine v_iconst (pc' := 120) dX3_readCommand_119 kc_0 rfl ?_
        refine v_sipush (pc' := 123) dX3_readCommand_120 ks_996 rfl ?_
        refine v_cVI (pc' := 126) (c3_readNumberW hl hS ((hX1.fr hF2.1).fr (FrT.up (by omega))) (by rw [z_up_row, z_row_at, pk_un (by omega)]; exact w2) 3 (by omega) _ _ rfl) dX3_readCommand_123 lk_X3_50 mwX3_readNumber miX3_readNumber h0 rfl rfl rfl rfl (by decide) (Nat.le_of_ble_eq_true rfl) rfl ?_
        rintro _ _ ⟨rfl, rfl⟩
        refine p_X3_32 (pc' := 129) rfl dX3_readCommand_126 (by assumption) rfl ?_
        refine v_goto (tgt := 217) dX3_readCommand_129 (by decide) ?_
        refine v_aload_n (pc' := 218) dX3_readCommand_217 rfl rfl ?_
        refine g_X3_22 (pc' := 221) rfl dX3_readCommand_218 (by assumption) rfl ?_
        rw [show (z_up (z_up I2 a 5 (rv none)) a 6 (-1)) a 3 = 1 by simp (disch := omega) only [z_up_row, z_row_row, z_row_at, pk_us, pk_un]; exact w2]
        refine v_if_ne (tgt := 228) (pc' := 224) dX3_readCommand_221 (by decide) rfl (fun c_221 => ?_) (fun c_221 => ?_)
        · refine v_iconst (pc' := 229) dX3_readCommand_228 kc_0 rfl ?_
          exact v_zret dX3_readCommand_229 rfl (Nat.le_refl _) (Nat.le_refl _) rfl ⟨_, rfl, rfl, rfl, hF1.tr ((hF2.1.tr (FrT.up (by omega))).tr (FrT.up (by omega))), by rw [hv]; simp (disch := omega) only [z_up_row, z_row_row, z_row_at, pk_us, pk_un]; exact at2, by rw [hv]; simp (disch := omega) only [z_up_row, z_row_row, z_row_at, pk_us, pk_un]; exact w2, by rw [hv]; rfl, fun u' v' q => by rw [hv] at q; cases q⟩
        · exact absurd c_221 (by decide)
      · exact absurd c_15 (by decide)
  · have hk1 : k1 ≤ n := by have := (p_rn_le (T := T) (n := n) (lo := 1) (hi := 6) 1 0 (k + 1) (by omega)).2; rw [hr1] at this; exact this
    rcases hr2 : p_rn T n 0 996 3 0 k1 with ⟨_ | v, k2⟩
    · have hv : p_cmd T n k = (none, k2) := by rw [ec, p_two, hr1]; simp only [hr2]
      refine z_Ct.of hl pn_X3 [some (.ref a)] rfl (Nat.le_of_ble_eq_true rfl) ?_
      refine v_aload_n (pc' := 1) dX3_readCommand_0 rfl rfl ?_
      refine g_X3_22 (pc' := 4) rfl dX3_readCommand_1 (by assumption) rfl ?_
      rw [hw]
      refine v_if_ne (tgt := 18) (pc' := 7) dX3_readCommand_4 (by decide) rfl (fun c_4 => ?_) (fun c_4 => ?_)
      · exact absurd rfl c_4
      · refine v_aload_n (pc' := 8) dX3_readCommand_7 rfl rfl ?_
        refine v_aload_n (pc' := 9) dX3_readCommand_8 rfl rfl ?_
        refine g_X3_19 (pc' := 12) rfl dX3_readCommand_9 (by assumption) rfl ?_
        rw [hat]
        refine v_cVR (pc' := 15) (c3_isInText hl hS hX k (by omega)) dX3_readCommand_12 lk_X3_46 mwX3_isInText miX3_isInText h0 rfl rfl rfl rfl (by decide) (Nat.le_of_ble_eq_true rfl) rfl ?_
        rw [decide_eq_true hk]
        refine v_if_ne (tgt := 20) (pc' := 18) dX3_readCommand_15 (by decide) rfl (fun c_15 => ?_) (fun c_15 => ?_)
        · refine v_aload_n (pc' := 21) dX3_readCommand_20 rfl rfl ?_
          refine v_aload_n (pc' := 22) dX3_readCommand_21 rfl rfl ?_
          refine g_X3_9 (pc' := 25) rfl dX3_readCommand_22 (by assumption) rfl ?_
          refine v_aload_n (pc' := 26) dX3_readCommand_25 rfl rfl ?_
          refine g_X3_19 (pc' := 29) rfl dX3_readCommand_26 (by assumption) rfl ?_
          rw [hat]
          refine v_cald (pc' := 30) dX3_readCommand_29 (k) rfl (by assumption) (by omega) (by decide) rfl ?_
          rw [t2]
          refine p_X3_26 (pc' := 33) rfl dX3_readCommand_30 (by assumption) rfl ?_
          refine v_aload_n (pc' := 34) dX3_readCommand_33 rfl rfl ?_
          refine v_dup (pc' := 35) dX3_readCommand_34 rfl rfl ?_
          refine g_X3_19 (pc' := 38) rfl dX3_readCommand_35 (by assumption) rfl ?_
          rw [show z_up I a 4 (nI (T k)) a 2 = nI k by rw [z_up_row, z_row_at, pk_un (by omega)]; exact hat]
          refine v_iconst (pc' := 39) dX3_readCommand_38 kc_1 rfl ?_
          refine v_iadd (pc' := 40) dX3_readCommand_39 rfl ?_
          rw [nI_1]
          refine p_X3_19 (pc' := 43) rfl dX3_readCommand_40 (by assumption) rfl ?_
          refine v_aload_n (pc' := 44) dX3_readCommand_43 rfl rfl ?_
          refine g_X3_26 (pc' := 47) rfl dX3_readCommand_44 (by assumption) rfl ?_
          rw [show z_up (z_up I a 4 (nI (T k))) a 2 (nI (k + 1)) a 4 = nI (T k) by simp (disch := omega) only [z_up_row, z_row_row, z_row_at, pk_us, pk_un]]
          generalize hI1 : z_up (z_up I a 4 (nI (T k))) a 2 (nI (k + 1)) = I1
          have hF1 : FrT I I1 a := by rw [← hI1]; exact (FrT.up (by omega)).tr (FrT.up (by omega))
          have hX1 := hX.fr hF1
          have l1 : I1 a 4 = nI (T k) := by rw [← hI1]; simp (disch := omega) only [z_up_row, z_row_row, z_row_at, pk_us, pk_un]
          have at1 : I1 a 2 = nI (k + 1) := by rw [← hI1]; simp (disch := omega) only [z_up_row, z_row_row, z_row_at, pk_us]
          have w1 : I1 a 3 = 0 := by rw [← hI1]; simp (disch := omega) only [z_up_row, z_row_row, z_row_at, pk_un]; exact hw
          refine v_lookup (tgt := 104) (off := 57) dX3_readCommand_47 rfl (by rw [nI_toInt (by omega)]; simp only [Array.toList, Op.lookupswitch.offset]; repeat' first | omega | split) (by decide) ?_
          refine v_aload_n (pc' := 105) dX3_readCommand_104 rfl rfl ?_
          refine v_aload_n (pc' := 106) dX3_readCommand_105 rfl rfl ?_
          refine v_iconst (pc' := 107) dX3_readCommand_106 kc_1 rfl ?_
          refine v_iconst (pc' := 108) dX3_readCommand_107 kc_1 rfl ?_
          refine v_bipush (pc' := 110) dX3_readCommand_108 kb_6 rfl ?_
          refine v_cVI (pc' := 113) (c3_readNumber hl hS hX1 1 1 6 (k + 1) (by omega) (by omega) (by omega) (by omega) at1 w1 rfl rfl rfl) dX3_readCommand_110 lk_X3_50 mwX3_readNumber miX3_readNumber h0 rfl rfl rfl rfl (by decide) (Nat.le_of_ble_eq_true rfl) rfl ?_
          rintro x2 I2 ⟨hF2, at2, w2, rfl⟩
          rw [hr1] at at2 w2 ⊢
          refine p_X3_29 (pc' := 116) rfl dX3_readCommand_113 (by assumption) rfl ?_
          refine v_aload_n (pc' := 117) dX3_readCommand_116 rfl rfl ?_
          refine v_aload_n (pc' := 118) dX3_readCommand_117 rfl rfl ?_
          refine v_iconst (pc' := 119) dX3_readCommand_118 kc_3 rfl ?_
          refine v_iconst (pc' := 120) dX3_readCommand_119 kc_0 rfl ?_
          refine v_sipush (pc' := 123) dX3_readCommand_120 ks_996 rfl ?_
          refine v_cVI (pc' := 126) (c3_readNumber hl hS ((hX1.fr hF2.1).fr (FrT.up (by omega))) 3 0 996 k1 (by omega) (by omega) (by omega) hk1 (by rw [z_up_row, z_row_at, pk_un (by omega)]; exact at2) (by rw [z_up_row, z_row_at, pk_un (by omega)]; exact w2) rfl rfl rfl) dX3_readCommand_123 lk_X3_50 mwX3_readNumber miX3_readNumber h0 rfl rfl rfl rfl (by decide) (Nat.le_of_ble_eq_true rfl) rfl ?_
          rintro x3 I3 ⟨hF3, at3, w3, rfl⟩
          rw [hr2] at at3 w3 ⊢
          refine p_X3_32 (pc' := 129) rfl dX3_readCommand_126 (by assumption) rfl ?_
          refine v_goto (tgt := 217) dX3_readCommand_129 (by decide) ?_
          refine v_aload_n (pc' := 218) dX3_readCommand_217 rfl rfl ?_
          refine g_X3_22 (pc' := 221) rfl dX3_readCommand_218 (by assumption) rfl ?_
          rw [show (z_up I3 a 6 (rv none)) a 3 = 1 by simp (disch := omega) only [z_up_row, z_row_row, z_row_at, pk_us, pk_un]; exact w3]
          refine v_if_ne (tgt := 228) (pc' := 224) dX3_readCommand_221 (by decide) rfl (fun c_221 => ?_) (fun c_221 => ?_)
          · refine v_iconst (pc' := 229) dX3_readCommand_228 kc_0 rfl ?_
            exact v_zret dX3_readCommand_229 rfl (Nat.le_refl _) (Nat.le_refl _) rfl ⟨_, rfl, rfl, rfl, hF1.tr (((hF2.1.tr (FrT.up (by omega))).tr hF3.1).tr (FrT.up (by omega))), by rw [hv]; simp (disch := omega) only [z_up_row, z_row_row, z_row_at, pk_us, pk_un]; exact at3, by rw [hv]; simp (disch := omega) only [z_up_row, z_row_row, z_row_at, pk_us, pk_un]; exact w3, by rw [hv]; rfl, fun u' v' q => by rw [hv] at q; cases q⟩
          · exact absurd c_221 (by decide)
        · exact absurd c_15 (by decide)
    · have hv : p_cmd T n k = (some (u, v), k2) := by rw [ec, p_two, hr1]; simp only [hr2]
      refine z_Ct.of hl pn_X3 [some (.ref a)] rfl (Nat.le_of_ble_eq_true rfl) ?_
      refine v_aload_n (pc' := 1) dX3_readCommand_0 rfl rfl ?_
      refine g_X3_22 (pc' := 4) rfl dX3_readCommand_1 (by assumption) rfl ?_
      rw [hw]
      refine v_if_ne (tgt := 18) (pc' := 7) dX3_readCommand_4 (by decide) rfl (fun c_4 => ?_) (fun c_4 => ?_)
      · exact absurd rfl c_4
      · refine v_aload_n (pc' := 8) dX3_readCommand_7 rfl rfl ?_
        refine v_aload_n (pc' := 9) dX3_readCommand_8 rfl rfl ?_
        refine g_X3_19 (pc' := 12) rfl dX3_readCommand_9 (by assumption) rfl ?_
        rw [hat]
        refine v_cVR (pc' := 15) (c3_isInText hl hS hX k (by omega)) dX3_readCommand_12 lk_X3_46 mwX3_isInText miX3_isInText h0 rfl rfl rfl rfl (by decide) (Nat.le_of_ble_eq_true rfl) rfl ?_
        rw [decide_eq_true hk]
        refine v_if_ne (tgt := 20) (pc' := 18) dX3_readCommand_15 (by decide) rfl (fun c_15 => ?_) (fun c_15 => ?_)
        · refine v_aload_n (pc' := 21) dX3_readCommand_20 rfl rfl ?_
          refine v_aload_n (pc' := 22) dX3_readCommand_21 rfl rfl ?_
          refine g_X3_9 (pc' := 25) rfl dX3_readCommand_22 (by assumption) rfl ?_
          refine v_aload_n (pc' := 26) dX3_readCommand_25 rfl rfl ?_
          refine g_X3_19 (pc' := 29) rfl dX3_readCommand_26 (by assumption) rfl ?_
          rw [hat]
          refine v_cald (pc' := 30) dX3_readCommand_29 (k) rfl (by assumption) (by omega) (by decide) rfl ?_
          rw [t2]
          refine p_X3_26 (pc' := 33) rfl dX3_readCommand_30 (by assumption) rfl ?_
          refine v_aload_n (pc' := 34) dX3_readCommand_33 rfl rfl ?_
          refine v_dup (pc' := 35) dX3_readCommand_34 rfl rfl ?_
          refine g_X3_19 (pc' := 38) rfl dX3_readCommand_35 (by assumption) rfl ?_
          rw [show z_up I a 4 (nI (T k)) a 2 = nI k by rw [z_up_row, z_row_at, pk_un (by omega)]; exact hat]
          refine v_iconst (pc' := 39) dX3_readCommand_38 kc_1 rfl ?_
          refine v_iadd (pc' := 40) dX3_readCommand_39 rfl ?_
          rw [nI_1]
          refine p_X3_19 (pc' := 43) rfl dX3_readCommand_40 (by assumption) rfl ?_
          refine v_aload_n (pc' := 44) dX3_readCommand_43 rfl rfl ?_
          refine g_X3_26 (pc' := 47) rfl dX3_readCommand_44 (by assumption) rfl ?_
          rw [show z_up (z_up I a 4 (nI (T k))) a 2 (nI (k + 1)) a 4 = nI (T k) by simp (disch := omega) only [z_up_row, z_row_row, z_row_at, pk_us, pk_un]]
          generalize hI1 : z_up (z_up I a 4 (nI (T k))) a 2 (nI (k + 1)) = I1
          have hF1 : FrT I I1 a := by rw [← hI1]; exact (FrT.up (by omega)).tr (FrT.up (by omega))
          have hX1 := hX.fr hF1
          have l1 : I1 a 4 = nI (T k) := by rw [← hI1]; simp (disch := omega) only [z_up_row, z_row_row, z_row_at, pk_us, pk_un]
          have at1 : I1 a 2 = nI (k + 1) := by rw [← hI1]; simp (disch := omega) only [z_up_row, z_row_row, z_row_at, pk_us]
          have w1 : I1 a 3 = 0 := by rw [← hI1]; simp (disch := omega) only [z_up_row, z_row_row, z_row_at, pk_un]; exact hw
          refine v_lookup (tgt := 104) (off := 57) dX3_readCommand_47 rfl (by rw [nI_toInt (by omega)]; simp only [Array.toList, Op.lookupswitch.offset]; repeat' first | omega | split) (by decide) ?_
          refine v_aload_n (pc' := 105) dX3_readCommand_104 rfl rfl ?_
          refine v_aload_n (pc' := 106) dX3_readCommand_105 rfl rfl ?_
          refine v_iconst (pc' := 107) dX3_readCommand_106 kc_1 rfl ?_
          refine v_iconst (pc' := 108) dX3_readCommand_107 kc_1 rfl ?_
          refine v_bipush (pc' := 110) dX3_readCommand_108 kb_6 rfl ?_
          refine v_cVI (pc' := 113) (c3_readNumber hl hS hX1 1 1 6 (k + 1) (by omega) (by omega) (by omega) (by omega) at1 w1 rfl rfl rfl) dX3_readCommand_110 lk_X3_50 mwX3_readNumber miX3_readNumber h0 rfl rfl rfl rfl (by decide) (Nat.le_of_ble_eq_true rfl) rfl ?_
          rintro x2 I2 ⟨hF2, at2, w2, rfl⟩
          rw [hr1] at at2 w2 ⊢
          refine p_X3_29 (pc' := 116) rfl dX3_readCommand_113 (by assumption) rfl ?_
          refine v_aload_n (pc' := 117) dX3_readCommand_116 rfl rfl ?_
          refine v_aload_n (pc' := 118) dX3_readCommand_117 rfl rfl ?_
          refine v_iconst (pc' := 119) dX3_readCommand_118 kc_3 rfl ?_
          refine v_iconst (pc' := 120) dX3_readCommand_119 kc_0 rfl ?_
          refine v_sipush (pc' := 123) dX3_readCommand_120 ks_996 rfl ?_
          refine v_cVI (pc' := 126) (c3_readNumber hl hS ((hX1.fr hF2.1).fr (FrT.up (by omega))) 3 0 996 k1 (by omega) (by omega) (by omega) hk1 (by rw [z_up_row, z_row_at, pk_un (by omega)]; exact at2) (by rw [z_up_row, z_row_at, pk_un (by omega)]; exact w2) rfl rfl rfl) dX3_readCommand_123 lk_X3_50 mwX3_readNumber miX3_readNumber h0 rfl rfl rfl rfl (by decide) (Nat.le_of_ble_eq_true rfl) rfl ?_
          rintro x3 I3 ⟨hF3, at3, w3, rfl⟩
          rw [hr2] at at3 w3 ⊢
          refine p_X3_32 (pc' := 129) rfl dX3_readCommand_126 (by assumption) rfl ?_
          refine v_goto (tgt := 217) dX3_readCommand_129 (by decide) ?_
          refine v_aload_n (pc' := 218) dX3_readCommand_217 rfl rfl ?_
          refine g_X3_22 (pc' := 221) rfl dX3_readCommand_218 (by assumption) rfl ?_
          rw [show (z_up I3 a 6 (rv (some v))) a 3 = 0 by simp (disch := omega) only [z_up_row, z_row_row, z_row_at, pk_us, pk_un]; exact w3]
          refine v_if_ne (tgt := 228) (pc' := 224) dX3_readCommand_221 (by decide) rfl (fun c_221 => ?_) (fun c_221 => ?_)
          · exact absurd rfl c_221
          · refine v_iconst (pc' := 225) dX3_readCommand_224 kc_1 rfl ?_
            refine v_goto (tgt := 229) dX3_readCommand_225 (by decide) ?_
            exact v_zret dX3_readCommand_229 rfl (Nat.le_refl _) (Nat.le_refl _) rfl ⟨_, rfl, rfl, rfl, hF1.tr (((hF2.1.tr (FrT.up (by omega))).tr hF3.1).tr (FrT.up (by omega))), by rw [hv]; simp (disch := omega) only [z_up_row, z_row_row, z_row_at, pk_us, pk_un]; exact at3, by rw [hv]; simp (disch := omega) only [z_up_row, z_row_row, z_row_at, pk_us, pk_un]; exact w3, by rw [hv]; rfl, fun u' v' q => by rw [hv] at q; cases q; exact ⟨by rw [z_up_row, z_row_at, pk_un (by omega), hF3.2.1, z_up_row, z_row_at, pk_un (by omega), hF2.2.1]; exact l1, by rw [z_up_row, z_row_at, pk_un (by omega), hF3.2.2.1, z_up_row, z_row_at, pk_us]; rfl, fun _ => by rw [z_up_row, z_row_at, pk_us]; rfl⟩⟩
        · exact absurd c_15 (by decide)

set_option maxRecDepth 20000 in
set_option maxHeartbeats 4000000 in
theorem c3_rc_l (hl : l.stackTraces = false) (hS : ShT E G a) (hX : AbsX I a T n) (hw : I a 3 = 0) (k : Nat) (hk : k < n) (hat : I a 2 = nI k) (hc : T k = 108) : z_CI E l mX3_readCommand 4 [.ref a] G I sz (fun x I' => (FrT I I' a ∧ I' a 2 = nI (p_cmd T n k).2 ∧ I' a 3 = z_b (!(p_cmd T n k).1.isSome) ∧ x = z_b (p_cmd T n k).1.isSome ∧ ∀ u v, (p_cmd T n k).1 = some (u, v) → I' a 4 = nI (T k) ∧ I' a 5 = nI u ∧ ((T k = 116 ∨ T k = 108) → I' a 6 = nI v))) := by
  obtain ⟨h0, h1⟩ := id hS
  obtain ⟨hn, gn, gc⟩ := id hX
  obtain ⟨t1, t2⟩ := gc k hk
  have ec : p_cmd T n k = p_two T n 0 5 1 0 11 2 (k + 1) := by unfold p_cmd; split <;> (try split) <;> first | rfl | omega
  rcases hr1 : p_rn T n 0 5 1 0 (k + 1) with ⟨_ | u, k1⟩
  · have hv : p_cmd T n k = (none, k1) := by rw [ec, p_two, hr1]
    refine z_Ct.of hl pn_X3 [some (.ref a)] rfl (Nat.le_of_ble_eq_true rfl) ?_
    refine v_aload_n (pc' := 1) dX3_readCommand_0 rfl rfl ?_
    refine g_X3_22 (pc' := 4) rfl dX3_readCommand_1 (by assumption) rfl ?_
    rw [hw]
    refine v_if_ne (tgt := 18) (pc' := 7) dX3_readCommand_4 (by decide) rfl (fun c_4 => ?_) (fun c_4 => ?_)
    · exact absurd rfl c_4
    · refine v_aload_n (pc' := 8) dX3_readCommand_7 rfl rfl ?_
      refine v_aload_n (pc' := 9) dX3_readCommand_8 rfl rfl ?_
      refine g_X3_19 (pc' := 12) rfl dX3_readCommand_9 (by assumption) rfl ?_
      rw [hat]
      refine v_cVR (pc' := 15) (c3_isInText hl hS hX k (by omega)) dX3_readCommand_12 lk_X3_46 mwX3_isInText miX3_isInText h0 rfl rfl rfl rfl (by decide) (Nat.le_of_ble_eq_true rfl) rfl ?_
      rw [decide_eq_true hk]
      refine v_if_ne (tgt := 20) (pc' := 18) dX3_readCommand_15 (by decide) rfl (fun c_15 => ?_) (fun c_15 => ?_)
      · refine v_aload_n (pc' := 21) dX3_readCommand_20 rfl rfl ?_
        refine v_aload_n (pc' := 22) dX3_readCommand_21 rfl rfl ?_
        refine g_X3_9 (pc' := 25) rfl dX3_readCommand_22 (by assumption) rfl ?_
        refine v_aload_n (pc' := 26) dX3_readCommand_25 rfl rfl ?_
        refine g_X3_19 (pc' := 29) rfl dX3_readCommand_26 (by assumption) rfl ?_
        rw [hat]
        refine v_cald (pc' := 30) dX3_readCommand_29 (k) rfl (by assumption) (by omega) (by decide) rfl ?_
        rw [t2]
        refine p_X3_26 (pc' := 33) rfl dX3_readCommand_30 (by assumption) rfl ?_
        refine v_aload_n (pc' := 34) dX3_readCommand_33 rfl rfl ?_
        refine v_dup (pc' := 35) dX3_readCommand_34 rfl rfl ?_
        refine g_X3_19 (pc' := 38) rfl dX3_readCommand_35 (by assumption) rfl ?_
        rw [show z_up I a 4 (nI (T k)) a 2 = nI k by rw [z_up_row, z_row_at, pk_un (by omega)]; exact hat]
        refine v_iconst (pc' := 39) dX3_readCommand_38 kc_1 rfl ?_
        refine v_iadd (pc' := 40) dX3_readCommand_39 rfl ?_
        rw [nI_1]
        refine p_X3_19 (pc' := 43) rfl dX3_readCommand_40 (by assumption) rfl ?_
        refine v_aload_n (pc' := 44) dX3_readCommand_43 rfl rfl ?_
        refine g_X3_26 (pc' := 47) rfl dX3_readCommand_44 (by assumption) rfl ?_
        rw [show z_up (z_up I a 4 (nI (T k))) a 2 (nI (k + 1)) a 4 = nI (T k) by simp (disch := omega) only [z_up_row, z_row_row, z_row_at, pk_us, pk_un]]
        generalize hI1 : z_up (z_up I a 4 (nI (T k))) a 2 (nI (k + 1)) = I1
        have hF1 : FrT I I1 a := by rw [← hI1]; exact (FrT.up (by omega)).tr (FrT.up (by omega))
        have hX1 := hX.fr hF1
        have l1 : I1 a 4 = nI (T k) := by rw [← hI1]; simp (disch := omega) only [z_up_row, z_row_row, z_row_at, pk_us, pk_un]
        have at1 : I1 a 2 = nI (k + 1) := by rw [← hI1]; simp (disch := omega) only [z_up_row, z_row_row, z_row_at, pk_us]
        have w1 : I1 a 3 = 0 := by rw [← hI1]; simp (disch := omega) only [z_up_row, z_row_row, z_row_at, pk_un]; exact hw
        refine v_lookup (tgt := 132) (off := 85) dX3_readCommand_47 rfl (by rw [nI_toInt (by omega)]; simp only [Array.toList, Op.lookupswitch.offset]; repeat' first | omega | split) (by decide) ?_
        refine v_aload_n (pc' := 133) dX3_readCommand_132 rfl rfl ?_
        refine v_aload_n (pc' := 134) dX3_readCommand_133 rfl rfl ?_
        refine v_iconst (pc' := 135) dX3_readCommand_134 kc_1 rfl ?_
        refine v_iconst (pc' := 136) dX3_readCommand_135 kc_0 rfl ?_
        refine v_iconst (pc' := 137) dX3_readCommand_136 kc_5 rfl ?_
        refine v_cVI (pc' := 140) (c3_readNumber hl hS hX1 1 0 5 (k + 1) (by omega) (by omega) (by omega) (by omega) at1 w1 rfl rfl rfl) dX3_readCommand_137 lk_X3_50 mwX3_readNumber miX3_readNumber h0 rfl rfl rfl rfl (by decide) (Nat.le_of_ble_eq_true rfl) rfl ?_
        rintro x2 I2 ⟨hF2, at2, w2, rfl⟩
        rw [hr1] at at2 w2 ⊢
        refine p_X3_29 (pc' := 143) rfl dX3_readCommand_140 (by assumption) rfl ?_
        refine v_aload_n (pc' := 144) dX3_readCommand_143 rfl rfl ?_
        refine v_aload_n (pc' := 145) dX3_readCommand_144 rfl rfl ?_
        refine v_iconst (pc' := 146) dX3_readCommand_145 kc_2 rfl ?_
        refine v_iconst (pc' := 147) dX3_readCommand_146 kc_0 rfl ?_
        refine v_bipush (pc' := 149) dX3_readCommand_147 kb_11 rfl ?_
        refine v_cVI (pc' := 152) (c3_readNumberW hl hS ((hX1.fr hF2.1).fr (FrT.up (by omega))) (by rw [z_up_row, z_row_at, pk_un (by omega)]; exact w2) 2 (by omega) _ _ rfl) dX3_readCommand_149 lk_X3_50 mwX3_readNumber miX3_readNumber h0 rfl rfl rfl rfl (by decide) (Nat.le_of_ble_eq_true rfl) rfl ?_
        rintro _ _ ⟨rfl, rfl⟩
        refine p_X3_32 (pc' := 155) rfl dX3_readCommand_152 (by assumption) rfl ?_
        refine v_goto (tgt := 217) dX3_readCommand_155 (by decide) ?_
        refine v_aload_n (pc' := 218) dX3_readCommand_217 rfl rfl ?_
        refine g_X3_22 (pc' := 221) rfl dX3_readCommand_218 (by assumption) rfl ?_
        rw [show (z_up (z_up I2 a 5 (rv none)) a 6 (-1)) a 3 = 1 by simp (disch := omega) only [z_up_row, z_row_row, z_row_at, pk_us, pk_un]; exact w2]
        refine v_if_ne (tgt := 228) (pc' := 224) dX3_readCommand_221 (by decide) rfl (fun c_221 => ?_) (fun c_221 => ?_)
        · refine v_iconst (pc' := 229) dX3_readCommand_228 kc_0 rfl ?_
          exact v_zret dX3_readCommand_229 rfl (Nat.le_refl _) (Nat.le_refl _) rfl ⟨_, rfl, rfl, rfl, hF1.tr ((hF2.1.tr (FrT.up (by omega))).tr (FrT.up (by omega))), by rw [hv]; simp (disch := omega) only [z_up_row, z_row_row, z_row_at, pk_us, pk_un]; exact at2, by rw [hv]; simp (disch := omega) only [z_up_row, z_row_row, z_row_at, pk_us, pk_un]; exact w2, by rw [hv]; rfl, fun u' v' q => by rw [hv] at q; cases q⟩
        · exact absurd c_221 (by decide)
      · exact absurd c_15 (by decide)
  · have hk1 : k1 ≤ n := by have := (p_rn_le (T := T) (n := n) (lo := 0) (hi := 5) 1 0 (k + 1) (by omega)).2; rw [hr1] at this; exact this
    rcases hr2 : p_rn T n 0 11 2 0 k1 with ⟨_ | v, k2⟩
    · have hv : p_cmd T n k = (none, k2) := by rw [ec, p_two, hr1]; simp only [hr2]
      refine z_Ct.of hl pn_X3 [some (.ref a)] rfl (Nat.le_of_ble_eq_true rfl) ?_
      refine v_aload_n (pc' := 1) dX3_readCommand_0 rfl rfl ?_
      refine g_X3_22 (pc' := 4) rfl dX3_readCommand_1 (by assumption) rfl ?_
      rw [hw]
      refine v_if_ne (tgt := 18) (pc' := 7) dX3_readCommand_4 (by decide) rfl (fun c_4 => ?_) (fun c_4 => ?_)
      · exact absurd rfl c_4
      · refine v_aload_n (pc' := 8) dX3_readCommand_7 rfl rfl ?_
        refine v_aload_n (pc' := 9) dX3_readCommand_8 rfl rfl ?_
        refine g_X3_19 (pc' := 12) rfl dX3_readCommand_9 (by assumption) rfl ?_
        rw [hat]
        refine v_cVR (pc' := 15) (c3_isInText hl hS hX k (by omega)) dX3_readCommand_12 lk_X3_46 mwX3_isInText miX3_isInText h0 rfl rfl rfl rfl (by decide) (Nat.le_of_ble_eq_true rfl) rfl ?_
        rw [decide_eq_true hk]
        refine v_if_ne (tgt := 20) (pc' := 18) dX3_readCommand_15 (by decide) rfl (fun c_15 => ?_) (fun c_15 => ?_)
        · refine v_aload_n (pc' := 21) dX3_readCommand_20 rfl rfl ?_
          refine v_aload_n (pc' := 22) dX3_readCommand_21 rfl rfl ?_
          refine g_X3_9 (pc' := 25) rfl dX3_readCommand_22 (by assumption) rfl ?_
          refine v_aload_n (pc' := 26) dX3_readCommand_25 rfl rfl ?_
          refine g_X3_19 (pc' := 29) rfl dX3_readCommand_26 (by assumption) rfl ?_
          rw [hat]
          refine v_cald (pc' := 30) dX3_readCommand_29 (k) rfl (by assumption) (by omega) (by decide) rfl ?_
          rw [t2]
          refine p_X3_26 (pc' := 33) rfl dX3_readCommand_30 (by assumption) rfl ?_
          refine v_aload_n (pc' := 34) dX3_readCommand_33 rfl rfl ?_
          refine v_dup (pc' := 35) dX3_readCommand_34 rfl rfl ?_
          refine g_X3_19 (pc' := 38) rfl dX3_readCommand_35 (by assumption) rfl ?_
          rw [show z_up I a 4 (nI (T k)) a 2 = nI k by rw [z_up_row, z_row_at, pk_un (by omega)]; exact hat]
          refine v_iconst (pc' := 39) dX3_readCommand_38 kc_1 rfl ?_
          refine v_iadd (pc' := 40) dX3_readCommand_39 rfl ?_
          rw [nI_1]
          refine p_X3_19 (pc' := 43) rfl dX3_readCommand_40 (by assumption) rfl ?_
          refine v_aload_n (pc' := 44) dX3_readCommand_43 rfl rfl ?_
          refine g_X3_26 (pc' := 47) rfl dX3_readCommand_44 (by assumption) rfl ?_
          rw [show z_up (z_up I a 4 (nI (T k))) a 2 (nI (k + 1)) a 4 = nI (T k) by simp (disch := omega) only [z_up_row, z_row_row, z_row_at, pk_us, pk_un]]
          generalize hI1 : z_up (z_up I a 4 (nI (T k))) a 2 (nI (k + 1)) = I1
          have hF1 : FrT I I1 a := by rw [← hI1]; exact (FrT.up (by omega)).tr (FrT.up (by omega))
          have hX1 := hX.fr hF1
          have l1 : I1 a 4 = nI (T k) := by rw [← hI1]; simp (disch := omega) only [z_up_row, z_row_row, z_row_at, pk_us, pk_un]
          have at1 : I1 a 2 = nI (k + 1) := by rw [← hI1]; simp (disch := omega) only [z_up_row, z_row_row, z_row_at, pk_us]
          have w1 : I1 a 3 = 0 := by rw [← hI1]; simp (disch := omega) only [z_up_row, z_row_row, z_row_at, pk_un]; exact hw
          refine v_lookup (tgt := 132) (off := 85) dX3_readCommand_47 rfl (by rw [nI_toInt (by omega)]; simp only [Array.toList, Op.lookupswitch.offset]; repeat' first | omega | split) (by decide) ?_
          refine v_aload_n (pc' := 133) dX3_readCommand_132 rfl rfl ?_
          refine v_aload_n (pc' := 134) dX3_readCommand_133 rfl rfl ?_
          refine v_iconst (pc' := 135) dX3_readCommand_134 kc_1 rfl ?_
          refine v_iconst (pc' := 136) dX3_readCommand_135 kc_0 rfl ?_
          refine v_iconst (pc' := 137) dX3_readCommand_136 kc_5 rfl ?_
          refine v_cVI (pc' := 140) (c3_readNumber hl hS hX1 1 0 5 (k + 1) (by omega) (by omega) (by omega) (by omega) at1 w1 rfl rfl rfl) dX3_readCommand_137 lk_X3_50 mwX3_readNumber miX3_readNumber h0 rfl rfl rfl rfl (by decide) (Nat.le_of_ble_eq_true rfl) rfl ?_
          rintro x2 I2 ⟨hF2, at2, w2, rfl⟩
          rw [hr1] at at2 w2 ⊢
          refine p_X3_29 (pc' := 143) rfl dX3_readCommand_140 (by assumption) rfl ?_
          refine v_aload_n (pc' := 144) dX3_readCommand_143 rfl rfl ?_
          refine v_aload_n (pc' := 145) dX3_readCommand_144 rfl rfl ?_
          refine v_iconst (pc' := 146) dX3_readCommand_145 kc_2 rfl ?_
          refine v_iconst (pc' := 147) dX3_readCommand_146 kc_0 rfl ?_
          refine v_bipush (pc' := 149) dX3_readCommand_147 kb_11 rfl ?_
          refine v_cVI (pc' := 152) (c3_readNumber hl hS ((hX1.fr hF2.1).fr (FrT.up (by omega))) 2 0 11 k1 (by omega) (by omega) (by omega) hk1 (by rw [z_up_row, z_row_at, pk_un (by omega)]; exact at2) (by rw [z_up_row, z_row_at, pk_un (by omega)]; exact w2) rfl rfl rfl) dX3_readCommand_149 lk_X3_50 mwX3_readNumber miX3_readNumber h0 rfl rfl rfl rfl (by decide) (Nat.le_of_ble_eq_true rfl) rfl ?_
          rintro x3 I3 ⟨hF3, at3, w3, rfl⟩
          rw [hr2] at at3 w3 ⊢
          refine p_X3_32 (pc' := 155) rfl dX3_readCommand_152 (by assumption) rfl ?_
          refine v_goto (tgt := 217) dX3_readCommand_155 (by decide) ?_
          refine v_aload_n (pc' := 218) dX3_readCommand_217 rfl rfl ?_
          refine g_X3_22 (pc' := 221) rfl dX3_readCommand_218 (by assumption) rfl ?_
          rw [show (z_up I3 a 6 (rv none)) a 3 = 1 by simp (disch := omega) only [z_up_row, z_row_row, z_row_at, pk_us, pk_un]; exact w3]
          refine v_if_ne (tgt := 228) (pc' := 224) dX3_readCommand_221 (by decide) rfl (fun c_221 => ?_) (fun c_221 => ?_)
          · refine v_iconst (pc' := 229) dX3_readCommand_228 kc_0 rfl ?_
            exact v_zret dX3_readCommand_229 rfl (Nat.le_refl _) (Nat.le_refl _) rfl ⟨_, rfl, rfl, rfl, hF1.tr (((hF2.1.tr (FrT.up (by omega))).tr hF3.1).tr (FrT.up (by omega))), by rw [hv]; simp (disch := omega) only [z_up_row, z_row_row, z_row_at, pk_us, pk_un]; exact at3, by rw [hv]; simp (disch := omega) only [z_up_row, z_row_row, z_row_at, pk_us, pk_un]; exact w3, by rw [hv]; rfl, fun u' v' q => by rw [hv] at q; cases q⟩
          · exact absurd c_221 (by decide)
        · exact absurd c_15 (by decide)
    · have hv : p_cmd T n k = (some (u, v), k2) := by rw [ec, p_two, hr1]; simp only [hr2]
      refine z_Ct.of hl pn_X3 [some (.ref a)] rfl (Nat.le_of_ble_eq_true rfl) ?_
      refine v_aload_n (pc' := 1) dX3_readCommand_0 rfl rfl ?_
      refine g_X3_22 (pc' := 4) rfl dX3_readCommand_1 (by assumption) rfl ?_
      rw [hw]
      refine v_if_ne (tgt := 18) (pc' := 7) dX3_readCommand_4 (by decide) rfl (fun c_4 => ?_) (fun c_4 => ?_)
      · exact absurd rfl c_4
      · refine v_aload_n (pc' := 8) dX3_readCommand_7 rfl rfl ?_
        refine v_aload_n (pc' := 9) dX3_readCommand_8 rfl rfl ?_
        refine g_X3_19 (pc' := 12) rfl dX3_readCommand_9 (by assumption) rfl ?_
        rw [hat]
        refine v_cVR (pc' := 15) (c3_isInText hl hS hX k (by omega)) dX3_readCommand_12 lk_X3_46 mwX3_isInText miX3_isInText h0 rfl rfl rfl rfl (by decide) (Nat.le_of_ble_eq_true rfl) rfl ?_
        rw [decide_eq_true hk]
        refine v_if_ne (tgt := 20) (pc' := 18) dX3_readCommand_15 (by decide) rfl (fun c_15 => ?_) (fun c_15 => ?_)
        · refine v_aload_n (pc' := 21) dX3_readCommand_20 rfl rfl ?_
          refine v_aload_n (pc' := 22) dX3_readCommand_21 rfl rfl ?_
          refine g_X3_9 (pc' := 25) rfl dX3_readCommand_22 (by assumption) rfl ?_
          refine v_aload_n (pc' := 26) dX3_readCommand_25 rfl rfl ?_
          refine g_X3_19 (pc' := 29) rfl dX3_readCommand_26 (by assumption) rfl ?_
          rw [hat]
          refine v_cald (pc' := 30) dX3_readCommand_29 (k) rfl (by assumption) (by omega) (by decide) rfl ?_
          rw [t2]
          refine p_X3_26 (pc' := 33) rfl dX3_readCommand_30 (by assumption) rfl ?_
          refine v_aload_n (pc' := 34) dX3_readCommand_33 rfl rfl ?_
          refine v_dup (pc' := 35) dX3_readCommand_34 rfl rfl ?_
          refine g_X3_19 (pc' := 38) rfl dX3_readCommand_35 (by assumption) rfl ?_
          rw [show z_up I a 4 (nI (T k)) a 2 = nI k by rw [z_up_row, z_row_at, pk_un (by omega)]; exact hat]
          refine v_iconst (pc' := 39) dX3_readCommand_38 kc_1 rfl ?_
          refine v_iadd (pc' := 40) dX3_readCommand_39 rfl ?_
          rw [nI_1]
          refine p_X3_19 (pc' := 43) rfl dX3_readCommand_40 (by assumption) rfl ?_
          refine v_aload_n (pc' := 44) dX3_readCommand_43 rfl rfl ?_
          refine g_X3_26 (pc' := 47) rfl dX3_readCommand_44 (by assumption) rfl ?_
          rw [show z_up (z_up I a 4 (nI (T k))) a 2 (nI (k + 1)) a 4 = nI (T k) by simp (disch := omega) only [z_up_row, z_row_row, z_row_at, pk_us, pk_un]]
          generalize hI1 : z_up (z_up I a 4 (nI (T k))) a 2 (nI (k + 1)) = I1
          have hF1 : FrT I I1 a := by rw [← hI1]; exact (FrT.up (by omega)).tr (FrT.up (by omega))
          have hX1 := hX.fr hF1
          have l1 : I1 a 4 = nI (T k) := by rw [← hI1]; simp (disch := omega) only [z_up_row, z_row_row, z_row_at, pk_us, pk_un]
          have at1 : I1 a 2 = nI (k + 1) := by rw [← hI1]; simp (disch := omega) only [z_up_row, z_row_row, z_row_at, pk_us]
          have w1 : I1 a 3 = 0 := by rw [← hI1]; simp (disch := omega) only [z_up_row, z_row_row, z_row_at, pk_un]; exact hw
          refine v_lookup (tgt := 132) (off := 85) dX3_readCommand_47 rfl (by rw [nI_toInt (by omega)]; simp only [Array.toList, Op.lookupswitch.offset]; repeat' first | omega | split) (by decide) ?_
          refine v_aload_n (pc' := 133) dX3_readCommand_132 rfl rfl ?_
          refine v_aload_n (pc' := 134) dX3_readCommand_133 rfl rfl ?_
          refine v_iconst (pc' := 135) dX3_readCommand_134 kc_1 rfl ?_
          refine v_iconst (pc' := 136) dX3_readCommand_135 kc_0 rfl ?_
          refine v_iconst (pc' := 137) dX3_readCommand_136 kc_5 rfl ?_
          refine v_cVI (pc' := 140) (c3_readNumber hl hS hX1 1 0 5 (k + 1) (by omega) (by omega) (by omega) (by omega) at1 w1 rfl rfl rfl) dX3_readCommand_137 lk_X3_50 mwX3_readNumber miX3_readNumber h0 rfl rfl rfl rfl (by decide) (Nat.le_of_ble_eq_true rfl) rfl ?_
          rintro x2 I2 ⟨hF2, at2, w2, rfl⟩
          rw [hr1] at at2 w2 ⊢
          refine p_X3_29 (pc' := 143) rfl dX3_readCommand_140 (by assumption) rfl ?_
          refine v_aload_n (pc' := 144) dX3_readCommand_143 rfl rfl ?_
          refine v_aload_n (pc' := 145) dX3_readCommand_144 rfl rfl ?_
          refine v_iconst (pc' := 146) dX3_readCommand_145 kc_2 rfl ?_
          refine v_iconst (pc' := 147) dX3_readCommand_146 kc_0 rfl ?_
          refine v_bipush (pc' := 149) dX3_readCommand_147 kb_11 rfl ?_
          refine v_cVI (pc' := 152) (c3_readNumber hl hS ((hX1.fr hF2.1).fr (FrT.up (by omega))) 2 0 11 k1 (by omega) (by omega) (by omega) hk1 (by rw [z_up_row, z_row_at, pk_un (by omega)]; exact at2) (by rw [z_up_row, z_row_at, pk_un (by omega)]; exact w2) rfl rfl rfl) dX3_readCommand_149 lk_X3_50 mwX3_readNumber miX3_readNumber h0 rfl rfl rfl rfl (by decide) (Nat.le_of_ble_eq_true rfl) rfl ?_
          rintro x3 I3 ⟨hF3, at3, w3, rfl⟩
          rw [hr2] at at3 w3 ⊢
          refine p_X3_32 (pc' := 155) rfl dX3_readCommand_152 (by assumption) rfl ?_
          refine v_goto (tgt := 217) dX3_readCommand_155 (by decide) ?_
          refine v_aload_n (pc' := 218) dX3_readCommand_217 rfl rfl ?_
          refine g_X3_22 (pc' := 221) rfl dX3_readCommand_218 (by assumption) rfl ?_
          rw [show (z_up I3 a 6 (rv (some v))) a 3 = 0 by simp (disch := omega) only [z_up_row, z_row_row, z_row_at, pk_us, pk_un]; exact w3]
          refine v_if_ne (tgt := 228) (pc' := 224) dX3_readCommand_221 (by decide) rfl (fun c_221 => ?_) (fun c_221 => ?_)
          · exact absurd rfl c_221
          · refine v_iconst (pc' := 225) dX3_readCommand_224 kc_1 rfl ?_
            refine v_goto (tgt := 229) dX3_readCommand_225 (by decide) ?_
            exact v_zret dX3_readCommand_229 rfl (Nat.le_refl _) (Nat.le_refl _) rfl ⟨_, rfl, rfl, rfl, hF1.tr (((hF2.1.tr (FrT.up (by omega))).tr hF3.1).tr (FrT.up (by omega))), by rw [hv]; simp (disch := omega) only [z_up_row, z_row_row, z_row_at, pk_us, pk_un]; exact at3, by rw [hv]; simp (disch := omega) only [z_up_row, z_row_row, z_row_at, pk_us, pk_un]; exact w3, by rw [hv]; rfl, fun u' v' q => by rw [hv] at q; cases q; exact ⟨by rw [z_up_row, z_row_at, pk_un (by omega), hF3.2.1, z_up_row, z_row_at, pk_un (by omega), hF2.2.1]; exact l1, by rw [z_up_row, z_row_at, pk_un (by omega), hF3.2.2.1, z_up_row, z_row_at, pk_us]; rfl, fun _ => by rw [z_up_row, z_row_at, pk_us]; rfl⟩⟩
        · exact absurd c_15 (by decide)

set_option maxRecDepth 20000 in
set_option maxHeartbeats 4000000 in
theorem c3_rc_b (hl : l.stackTraces = false) (hS : ShT E G a) (hX : AbsX I a T n) (hw : I a 3 = 0) (k : Nat) (hk : k < n) (hat : I a 2 = nI k) (hc : T k = 98 ∨ T k = 103) : z_CI E l mX3_readCommand 4 [.ref a] G I sz (fun x I' => (FrT I I' a ∧ I' a 2 = nI (p_cmd T n k).2 ∧ I' a 3 = z_b (!(p_cmd T n k).1.isSome) ∧ x = z_b (p_cmd T n k).1.isSome ∧ ∀ u v, (p_cmd T n k).1 = some (u, v) → I' a 4 = nI (T k) ∧ I' a 5 = nI u ∧ ((T k = 116 ∨ T k = 108) → I' a 6 = nI v))) := by
  obtain ⟨h0, h1⟩ := id hS
  obtain ⟨hn, gn, gc⟩ := id hX
  obtain ⟨t1, t2⟩ := gc k hk
  have ec : p_cmd T n k = p_onen T n 0 11 2 (k + 1) := by
    unfold p_cmd
    repeat' first | rfl | omega | split
  rcases hr1 : p_rn T n 0 11 2 0 (k + 1) with ⟨_ | u, k1⟩
  · have hv : p_cmd T n k = (none, k1) := by rw [ec, p_onen, hr1]
    refine z_Ct.of hl pn_X3 [some (.ref a)] rfl (Nat.le_of_ble_eq_true rfl) ?_
    refine v_aload_n (pc' := 1) dX3_readCommand_0 rfl rfl ?_
    refine g_X3_22 (pc' := 4) rfl dX3_readCommand_1 (by assumption) rfl ?_
    rw [hw]
    refine v_if_ne (tgt := 18) (pc' := 7) dX3_readCommand_4 (by decide) rfl (fun c_4 => ?_) (fun c_4 => ?_)
    · exact absurd rfl c_4
    · refine v_aload_n (pc' := 8) dX3_readCommand_7 rfl rfl ?_
      refine v_aload_n (pc' := 9) dX3_readCommand_8 rfl rfl ?_
      refine g_X3_19 (pc' := 12) rfl dX3_readCommand_9 (by assumption) rfl ?_
      rw [hat]
      refine v_cVR (pc' := 15) (c3_isInText hl hS hX k (by omega)) dX3_readCommand_12 lk_X3_46 mwX3_isInText miX3_isInText h0 rfl rfl rfl rfl (by decide) (Nat.le_of_ble_eq_true rfl) rfl ?_
      rw [decide_eq_true hk]
      refine v_if_ne (tgt := 20) (pc' := 18) dX3_readCommand_15 (by decide) rfl (fun c_15 => ?_) (fun c_15 => ?_)
      · refine v_aload_n (pc' := 21) dX3_readCommand_20 rfl rfl ?_
        refine v_aload_n (pc' := 22) dX3_readCommand_21 rfl rfl ?_
        refine g_X3_9 (pc' := 25) rfl dX3_readCommand_22 (by assumption) rfl ?_
        refine v_aload_n (pc' := 26) dX3_readCommand_25 rfl rfl ?_
        refine g_X3_19 (pc' := 29) rfl dX3_readCommand_26 (by assumption) rfl ?_
        rw [hat]
        refine v_cald (pc' := 30) dX3_readCommand_29 (k) rfl (by assumption) (by omega) (by decide) rfl ?_
        rw [t2]
        refine p_X3_26 (pc' := 33) rfl dX3_readCommand_30 (by assumption) rfl ?_
        refine v_aload_n (pc' := 34) dX3_readCommand_33 rfl rfl ?_
        refine v_dup (pc' := 35) dX3_readCommand_34 rfl rfl ?_
        refine g_X3_19 (pc' := 38) rfl dX3_readCommand_35 (by assumption) rfl ?_
        rw [show z_up I a 4 (nI (T k)) a 2 = nI k by rw [z_up_row, z_row_at, pk_un (by omega)]; exact hat]
        refine v_iconst (pc' := 39) dX3_readCommand_38 kc_1 rfl ?_
        refine v_iadd (pc' := 40) dX3_readCommand_39 rfl ?_
        rw [nI_1]
        refine p_X3_19 (pc' := 43) rfl dX3_readCommand_40 (by assumption) rfl ?_
        refine v_aload_n (pc' := 44) dX3_readCommand_43 rfl rfl ?_
        refine g_X3_26 (pc' := 47) rfl dX3_readCommand_44 (by assumption) rfl ?_
        rw [show z_up (z_up I a 4 (nI (T k))) a 2 (nI (k + 1)) a 4 = nI (T k) by simp (disch := omega) only [z_up_row, z_row_row, z_row_at, pk_us, pk_un]]
        generalize hI1 : z_up (z_up I a 4 (nI (T k))) a 2 (nI (k + 1)) = I1
        have hF1 : FrT I I1 a := by rw [← hI1]; exact (FrT.up (by omega)).tr (FrT.up (by omega))
        have hX1 := hX.fr hF1
        have l1 : I1 a 4 = nI (T k) := by rw [← hI1]; simp (disch := omega) only [z_up_row, z_row_row, z_row_at, pk_us, pk_un]
        have at1 : I1 a 2 = nI (k + 1) := by rw [← hI1]; simp (disch := omega) only [z_up_row, z_row_row, z_row_at, pk_us]
        have w1 : I1 a 3 = 0 := by rw [← hI1]; simp (disch := omega) only [z_up_row, z_row_row, z_row_at, pk_un]; exact hw
        refine v_lookup (tgt := 158) (off := 111) dX3_readCommand_47 rfl (by rw [nI_toInt (by omega)]; simp only [Array.toList, Op.lookupswitch.offset]; repeat' first | omega | split) (by decide) ?_
        refine v_aload_n (pc' := 159) dX3_readCommand_158 rfl rfl ?_
        refine v_aload_n (pc' := 160) dX3_readCommand_159 rfl rfl ?_
        refine v_iconst (pc' := 161) dX3_readCommand_160 kc_2 rfl ?_
        refine v_iconst (pc' := 162) dX3_readCommand_161 kc_0 rfl ?_
        refine v_bipush (pc' := 164) dX3_readCommand_162 kb_11 rfl ?_
        refine v_cVI (pc' := 167) (c3_readNumber hl hS hX1 2 0 11 (k + 1) (by omega) (by omega) (by omega) (by omega) at1 w1 rfl rfl rfl) dX3_readCommand_164 lk_X3_50 mwX3_readNumber miX3_readNumber h0 rfl rfl rfl rfl (by decide) (Nat.le_of_ble_eq_true rfl) rfl ?_
        rintro x2 I2 ⟨hF2, at2, w2, rfl⟩
        rw [hr1] at at2 w2 ⊢
        refine p_X3_29 (pc' := 170) rfl dX3_readCommand_167 (by assumption) rfl ?_
        refine v_goto (tgt := 217) dX3_readCommand_170 (by decide) ?_
        refine v_aload_n (pc' := 218) dX3_readCommand_217 rfl rfl ?_
        refine g_X3_22 (pc' := 221) rfl dX3_readCommand_218 (by assumption) rfl ?_
        rw [show (z_up I2 a 5 (rv none)) a 3 = 1 by simp (disch := omega) only [z_up_row, z_row_row, z_row_at, pk_us, pk_un]; exact w2]
        refine v_if_ne (tgt := 228) (pc' := 224) dX3_readCommand_221 (by decide) rfl (fun c_221 => ?_) (fun c_221 => ?_)
        · refine v_iconst (pc' := 229) dX3_readCommand_228 kc_0 rfl ?_
          exact v_zret dX3_readCommand_229 rfl (Nat.le_refl _) (Nat.le_refl _) rfl ⟨_, rfl, rfl, rfl, hF1.tr (hF2.1.tr (FrT.up (by omega))), by rw [hv]; simp (disch := omega) only [z_up_row, z_row_row, z_row_at, pk_us, pk_un]; exact at2, by rw [hv]; simp (disch := omega) only [z_up_row, z_row_row, z_row_at, pk_us, pk_un]; exact w2, by rw [hv]; rfl, fun u' v' q => by rw [hv] at q; cases q⟩
        · exact absurd c_221 (by decide)
      · exact absurd c_15 (by decide)
  · have hv : p_cmd T n k = (some (u, 0), k1) := by rw [ec, p_onen, hr1]
    refine z_Ct.of hl pn_X3 [some (.ref a)] rfl (Nat.le_of_ble_eq_true rfl) ?_
    refine v_aload_n (pc' := 1) dX3_readCommand_0 rfl rfl ?_
    refine g_X3_22 (pc' := 4) rfl dX3_readCommand_1 (by assumption) rfl ?_
    rw [hw]
    refine v_if_ne (tgt := 18) (pc' := 7) dX3_readCommand_4 (by decide) rfl (fun c_4 => ?_) (fun c_4 => ?_)
    · exact absurd rfl c_4
    · refine v_aload_n (pc' := 8) dX3_readCommand_7 rfl rfl ?_
      refine v_aload_n (pc' := 9) dX3_readCommand_8 rfl rfl ?_
      refine g_X3_19 (pc' := 12) rfl dX3_readCommand_9 (by assumption) rfl ?_
      rw [hat]
      refine v_cVR (pc' := 15) (c3_isInText hl hS hX k (by omega)) dX3_readCommand_12 lk_X3_46 mwX3_isInText miX3_isInText h0 rfl rfl rfl rfl (by decide) (Nat.le_of_ble_eq_true rfl) rfl ?_
      rw [decide_eq_true hk]
      refine v_if_ne (tgt := 20) (pc' := 18) dX3_readCommand_15 (by decide) rfl (fun c_15 => ?_) (fun c_15 => ?_)
      · refine v_aload_n (pc' := 21) dX3_readCommand_20 rfl rfl ?_
        refine v_aload_n (pc' := 22) dX3_readCommand_21 rfl rfl ?_
        refine g_X3_9 (pc' := 25) rfl dX3_readCommand_22 (by assumption) rfl ?_
        refine v_aload_n (pc' := 26) dX3_readCommand_25 rfl rfl ?_
        refine g_X3_19 (pc' := 29) rfl dX3_readCommand_26 (by assumption) rfl ?_
        rw [hat]
        refine v_cald (pc' := 30) dX3_readCommand_29 (k) rfl (by assumption) (by omega) (by decide) rfl ?_
        rw [t2]
        refine p_X3_26 (pc' := 33) rfl dX3_readCommand_30 (by assumption) rfl ?_
        refine v_aload_n (pc' := 34) dX3_readCommand_33 rfl rfl ?_
        refine v_dup (pc' := 35) dX3_readCommand_34 rfl rfl ?_
        refine g_X3_19 (pc' := 38) rfl dX3_readCommand_35 (by assumption) rfl ?_
        rw [show z_up I a 4 (nI (T k)) a 2 = nI k by rw [z_up_row, z_row_at, pk_un (by omega)]; exact hat]
        refine v_iconst (pc' := 39) dX3_readCommand_38 kc_1 rfl ?_
        refine v_iadd (pc' := 40) dX3_readCommand_39 rfl ?_
        rw [nI_1]
        refine p_X3_19 (pc' := 43) rfl dX3_readCommand_40 (by assumption) rfl ?_
        refine v_aload_n (pc' := 44) dX3_readCommand_43 rfl rfl ?_
        refine g_X3_26 (pc' := 47) rfl dX3_readCommand_44 (by assumption) rfl ?_
        rw [show z_up (z_up I a 4 (nI (T k))) a 2 (nI (k + 1)) a 4 = nI (T k) by simp (disch := omega) only [z_up_row, z_row_row, z_row_at, pk_us, pk_un]]
        generalize hI1 : z_up (z_up I a 4 (nI (T k))) a 2 (nI (k + 1)) = I1
        have hF1 : FrT I I1 a := by rw [← hI1]; exact (FrT.up (by omega)).tr (FrT.up (by omega))
        have hX1 := hX.fr hF1
        have l1 : I1 a 4 = nI (T k) := by rw [← hI1]; simp (disch := omega) only [z_up_row, z_row_row, z_row_at, pk_us, pk_un]
        have at1 : I1 a 2 = nI (k + 1) := by rw [← hI1]; simp (disch := omega) only [z_up_row, z_row_row, z_row_at, pk_us]
        have w1 : I1 a 3 = 0 := by rw [← hI1]; simp (disch := omega) only [z_up_row, z_row_row, z_row_at, pk_un]; exact hw
        refine v_lookup (tgt := 158) (off := 111) dX3_readCommand_47 rfl (by rw [nI_toInt (by omega)]; simp only [Array.toList, Op.lookupswitch.offset]; repeat' first | omega | split) (by decide) ?_
        refine v_aload_n (pc' := 159) dX3_readCommand_158 rfl rfl ?_
        refine v_aload_n (pc' := 160) dX3_readCommand_159 rfl rfl ?_
        refine v_iconst (pc' := 161) dX3_readCommand_160 kc_2 rfl ?_
        refine v_iconst (pc' := 162) dX3_readCommand_161 kc_0 rfl ?_
        refine v_bipush (pc' := 164) dX3_readCommand_162 kb_11 rfl ?_
        refine v_cVI (pc' := 167) (c3_readNumber hl hS hX1 2 0 11 (k + 1) (by omega) (by omega) (by omega) (by omega) at1 w1 rfl rfl rfl) dX3_readCommand_164 lk_X3_50 mwX3_readNumber miX3_readNumber h0 rfl rfl rfl rfl (by decide) (Nat.le_of_ble_eq_true rfl) rfl ?_
        rintro x2 I2 ⟨hF2, at2, w2, rfl⟩
        rw [hr1] at at2 w2 ⊢
        refine p_X3_29 (pc' := 170) rfl dX3_readCommand_167 (by assumption) rfl ?_
        refine v_goto (tgt := 217) dX3_readCommand_170 (by decide) ?_
        refine v_aload_n (pc' := 218) dX3_readCommand_217 rfl rfl ?_
        refine g_X3_22 (pc' := 221) rfl dX3_readCommand_218 (by assumption) rfl ?_
        rw [show (z_up I2 a 5 (rv (some u))) a 3 = 0 by simp (disch := omega) only [z_up_row, z_row_row, z_row_at, pk_us, pk_un]; exact w2]
        refine v_if_ne (tgt := 228) (pc' := 224) dX3_readCommand_221 (by decide) rfl (fun c_221 => ?_) (fun c_221 => ?_)
        · exact absurd rfl c_221
        · refine v_iconst (pc' := 225) dX3_readCommand_224 kc_1 rfl ?_
          refine v_goto (tgt := 229) dX3_readCommand_225 (by decide) ?_
          exact v_zret dX3_readCommand_229 rfl (Nat.le_refl _) (Nat.le_refl _) rfl ⟨_, rfl, rfl, rfl, hF1.tr (hF2.1.tr (FrT.up (by omega))), by rw [hv]; simp (disch := omega) only [z_up_row, z_row_row, z_row_at, pk_us, pk_un]; exact at2, by rw [hv]; simp (disch := omega) only [z_up_row, z_row_row, z_row_at, pk_us, pk_un]; exact w2, by rw [hv]; rfl, fun u' v' q => by rw [hv] at q; cases q; exact ⟨by rw [z_up_row, z_row_at, pk_un (by omega), hF2.2.1]; exact l1, by rw [z_up_row, z_row_at, pk_us]; rfl, fun q9 => by omega⟩⟩
      · exact absurd c_15 (by decide)

set_option maxRecDepth 20000 in
set_option maxHeartbeats 4000000 in
theorem c3_rc_s (hl : l.stackTraces = false) (hS : ShT E G a) (hX : AbsX I a T n) (hw : I a 3 = 0) (k : Nat) (hk : k < n) (hat : I a 2 = nI k) (hc : T k = 115) : z_CI E l mX3_readCommand 4 [.ref a] G I sz (fun x I' => (FrT I I' a ∧ I' a 2 = nI (p_cmd T n k).2 ∧ I' a 3 = z_b (!(p_cmd T n k).1.isSome) ∧ x = z_b (p_cmd T n k).1.isSome ∧ ∀ u v, (p_cmd T n k).1 = some (u, v) → I' a 4 = nI (T k) ∧ I' a 5 = nI u ∧ ((T k = 116 ∨ T k = 108) → I' a 6 = nI v))) := by
  obtain ⟨h0, h1⟩ := id hS
  obtain ⟨hn, gn, gc⟩ := id hX
  obtain ⟨t1, t2⟩ := gc k hk
  have ec : p_cmd T n k = p_onen T n 0 5 1 (k + 1) := by
    unfold p_cmd
    repeat' first | rfl | omega | split
  rcases hr1 : p_rn T n 0 5 1 0 (k + 1) with ⟨_ | u, k1⟩
  · have hv : p_cmd T n k = (none, k1) := by rw [ec, p_onen, hr1]
    refine z_Ct.of hl pn_X3 [some (.ref a)] rfl (Nat.le_of_ble_eq_true rfl) ?_
    refine v_aload_n (pc' := 1) dX3_readCommand_0 rfl rfl ?_
    refine g_X3_22 (pc' := 4) rfl dX3_readCommand_1 (by assumption) rfl ?_
    rw [hw]
    refine v_if_ne (tgt := 18) (pc' := 7) dX3_readCommand_4 (by decide) rfl (fun c_4 => ?_) (fun c_4 => ?_)
    · exact absurd rfl c_4
    · refine v_aload_n (pc' := 8) dX3_readCommand_7 rfl rfl ?_
      refine v_aload_n (pc' := 9) dX3_readCommand_8 rfl rfl ?_
      refine g_X3_19 (pc' := 12) rfl dX3_readCommand_9 (by assumption) rfl ?_
      rw [hat]
      refine v_cVR (pc' := 15) (c3_isInText hl hS hX k (by omega)) dX3_readCommand_12 lk_X3_46 mwX3_isInText miX3_isInText h0 rfl rfl rfl rfl (by decide) (Nat.le_of_ble_eq_true rfl) rfl ?_
      rw [decide_eq_true hk]
      refine v_if_ne (tgt := 20) (pc' := 18) dX3_readCommand_15 (by decide) rfl (fun c_15 => ?_) (fun c_15 => ?_)
      · refine v_aload_n (pc' := 21) dX3_readCommand_20 rfl rfl ?_
        refine v_aload_n (pc' := 22) dX3_readCommand_21 rfl rfl ?_
        refine g_X3_9 (pc' := 25) rfl dX3_readCommand_22 (by assumption) rfl ?_
        refine v_aload_n (pc' := 26) dX3_readCommand_25 rfl rfl ?_
        refine g_X3_19 (pc' := 29) rfl dX3_readCommand_26 (by assumption) rfl ?_
        rw [hat]
        refine v_cald (pc' := 30) dX3_readCommand_29 (k) rfl (by assumption) (by omega) (by decide) rfl ?_
        rw [t2]
        refine p_X3_26 (pc' := 33) rfl dX3_readCommand_30 (by assumption) rfl ?_
        refine v_aload_n (pc' := 34) dX3_readCommand_33 rfl rfl ?_
        refine v_dup (pc' := 35) dX3_readCommand_34 rfl rfl ?_
        refine g_X3_19 (pc' := 38) rfl dX3_readCommand_35 (by assumption) rfl ?_
        rw [show z_up I a 4 (nI (T k)) a 2 = nI k by rw [z_up_row, z_row_at, pk_un (by omega)]; exact hat]
        refine v_iconst (pc' := 39) dX3_readCommand_38 kc_1 rfl ?_
        refine v_iadd (pc' := 40) dX3_readCommand_39 rfl ?_
        rw [nI_1]
        refine p_X3_19 (pc' := 43) rfl dX3_readCommand_40 (by assumption) rfl ?_
        refine v_aload_n (pc' := 44) dX3_readCommand_43 rfl rfl ?_
        refine g_X3_26 (pc' := 47) rfl dX3_readCommand_44 (by assumption) rfl ?_
        rw [show z_up (z_up I a 4 (nI (T k))) a 2 (nI (k + 1)) a 4 = nI (T k) by simp (disch := omega) only [z_up_row, z_row_row, z_row_at, pk_us, pk_un]]
        generalize hI1 : z_up (z_up I a 4 (nI (T k))) a 2 (nI (k + 1)) = I1
        have hF1 : FrT I I1 a := by rw [← hI1]; exact (FrT.up (by omega)).tr (FrT.up (by omega))
        have hX1 := hX.fr hF1
        have l1 : I1 a 4 = nI (T k) := by rw [← hI1]; simp (disch := omega) only [z_up_row, z_row_row, z_row_at, pk_us, pk_un]
        have at1 : I1 a 2 = nI (k + 1) := by rw [← hI1]; simp (disch := omega) only [z_up_row, z_row_row, z_row_at, pk_us]
        have w1 : I1 a 3 = 0 := by rw [← hI1]; simp (disch := omega) only [z_up_row, z_row_row, z_row_at, pk_un]; exact hw
        refine v_lookup (tgt := 173) (off := 126) dX3_readCommand_47 rfl (by rw [nI_toInt (by omega)]; simp only [Array.toList, Op.lookupswitch.offset]; repeat' first | omega | split) (by decide) ?_
        refine v_aload_n (pc' := 174) dX3_readCommand_173 rfl rfl ?_
        refine v_aload_n (pc' := 175) dX3_readCommand_174 rfl rfl ?_
        refine v_iconst (pc' := 176) dX3_readCommand_175 kc_1 rfl ?_
        refine v_iconst (pc' := 177) dX3_readCommand_176 kc_0 rfl ?_
        refine v_iconst (pc' := 178) dX3_readCommand_177 kc_5 rfl ?_
        refine v_cVI (pc' := 181) (c3_readNumber hl hS hX1 1 0 5 (k + 1) (by omega) (by omega) (by omega) (by omega) at1 w1 rfl rfl rfl) dX3_readCommand_178 lk_X3_50 mwX3_readNumber miX3_readNumber h0 rfl rfl rfl rfl (by decide) (Nat.le_of_ble_eq_true rfl) rfl ?_
        rintro x2 I2 ⟨hF2, at2, w2, rfl⟩
        rw [hr1] at at2 w2 ⊢
        refine p_X3_29 (pc' := 184) rfl dX3_readCommand_181 (by assumption) rfl ?_
        refine v_goto (tgt := 217) dX3_readCommand_184 (by decide) ?_
        refine v_aload_n (pc' := 218) dX3_readCommand_217 rfl rfl ?_
        refine g_X3_22 (pc' := 221) rfl dX3_readCommand_218 (by assumption) rfl ?_
        rw [show (z_up I2 a 5 (rv none)) a 3 = 1 by simp (disch := omega) only [z_up_row, z_row_row, z_row_at, pk_us, pk_un]; exact w2]
        refine v_if_ne (tgt := 228) (pc' := 224) dX3_readCommand_221 (by decide) rfl (fun c_221 => ?_) (fun c_221 => ?_)
        · refine v_iconst (pc' := 229) dX3_readCommand_228 kc_0 rfl ?_
          exact v_zret dX3_readCommand_229 rfl (Nat.le_refl _) (Nat.le_refl _) rfl ⟨_, rfl, rfl, rfl, hF1.tr (hF2.1.tr (FrT.up (by omega))), by rw [hv]; simp (disch := omega) only [z_up_row, z_row_row, z_row_at, pk_us, pk_un]; exact at2, by rw [hv]; simp (disch := omega) only [z_up_row, z_row_row, z_row_at, pk_us, pk_un]; exact w2, by rw [hv]; rfl, fun u' v' q => by rw [hv] at q; cases q⟩
        · exact absurd c_221 (by decide)
      · exact absurd c_15 (by decide)
  · have hv : p_cmd T n k = (some (u, 0), k1) := by rw [ec, p_onen, hr1]
    refine z_Ct.of hl pn_X3 [some (.ref a)] rfl (Nat.le_of_ble_eq_true rfl) ?_
    refine v_aload_n (pc' := 1) dX3_readCommand_0 rfl rfl ?_
    refine g_X3_22 (pc' := 4) rfl dX3_readCommand_1 (by assumption) rfl ?_
    rw [hw]
    refine v_if_ne (tgt := 18) (pc' := 7) dX3_readCommand_4 (by decide) rfl (fun c_4 => ?_) (fun c_4 => ?_)
    · exact absurd rfl c_4
    · refine v_aload_n (pc' := 8) dX3_readCommand_7 rfl rfl ?_
      refine v_aload_n (pc' := 9) dX3_readCommand_8 rfl rfl ?_
      refine g_X3_19 (pc' := 12) rfl dX3_readCommand_9 (by assumption) rfl ?_
      rw [hat]
      refine v_cVR (pc' := 15) (c3_isInText hl hS hX k (by omega)) dX3_readCommand_12 lk_X3_46 mwX3_isInText miX3_isInText h0 rfl rfl rfl rfl (by decide) (Nat.le_of_ble_eq_true rfl) rfl ?_
      rw [decide_eq_true hk]
      refine v_if_ne (tgt := 20) (pc' := 18) dX3_readCommand_15 (by decide) rfl (fun c_15 => ?_) (fun c_15 => ?_)
      · refine v_aload_n (pc' := 21) dX3_readCommand_20 rfl rfl ?_
        refine v_aload_n (pc' := 22) dX3_readCommand_21 rfl rfl ?_
        refine g_X3_9 (pc' := 25) rfl dX3_readCommand_22 (by assumption) rfl ?_
        refine v_aload_n (pc' := 26) dX3_readCommand_25 rfl rfl ?_
        refine g_X3_19 (pc' := 29) rfl dX3_readCommand_26 (by assumption) rfl ?_
        rw [hat]
        refine v_cald (pc' := 30) dX3_readCommand_29 (k) rfl (by assumption) (by omega) (by decide) rfl ?_
        rw [t2]
        refine p_X3_26 (pc' := 33) rfl dX3_readCommand_30 (by assumption) rfl ?_
        refine v_aload_n (pc' := 34) dX3_readCommand_33 rfl rfl ?_
        refine v_dup (pc' := 35) dX3_readCommand_34 rfl rfl ?_
        refine g_X3_19 (pc' := 38) rfl dX3_readCommand_35 (by assumption) rfl ?_
        rw [show z_up I a 4 (nI (T k)) a 2 = nI k by rw [z_up_row, z_row_at, pk_un (by omega)]; exact hat]
        refine v_iconst (pc' := 39) dX3_readCommand_38 kc_1 rfl ?_
        refine v_iadd (pc' := 40) dX3_readCommand_39 rfl ?_
        rw [nI_1]
        refine p_X3_19 (pc' := 43) rfl dX3_readCommand_40 (by assumption) rfl ?_
        refine v_aload_n (pc' := 44) dX3_readCommand_43 rfl rfl ?_
        refine g_X3_26 (pc' := 47) rfl dX3_readCommand_44 (by assumption) rfl ?_
        rw [show z_up (z_up I a 4 (nI (T k))) a 2 (nI (k + 1)) a 4 = nI (T k) by simp (disch := omega) only [z_up_row, z_row_row, z_row_at, pk_us, pk_un]]
        generalize hI1 : z_up (z_up I a 4 (nI (T k))) a 2 (nI (k + 1)) = I1
        have hF1 : FrT I I1 a := by rw [← hI1]; exact (FrT.up (by omega)).tr (FrT.up (by omega))
        have hX1 := hX.fr hF1
        have l1 : I1 a 4 = nI (T k) := by rw [← hI1]; simp (disch := omega) only [z_up_row, z_row_row, z_row_at, pk_us, pk_un]
        have at1 : I1 a 2 = nI (k + 1) := by rw [← hI1]; simp (disch := omega) only [z_up_row, z_row_row, z_row_at, pk_us]
        have w1 : I1 a 3 = 0 := by rw [← hI1]; simp (disch := omega) only [z_up_row, z_row_row, z_row_at, pk_un]; exact hw
        refine v_lookup (tgt := 173) (off := 126) dX3_readCommand_47 rfl (by rw [nI_toInt (by omega)]; simp only [Array.toList, Op.lookupswitch.offset]; repeat' first | omega | split) (by decide) ?_
        refine v_aload_n (pc' := 174) dX3_readCommand_173 rfl rfl ?_
        refine v_aload_n (pc' := 175) dX3_readCommand_174 rfl rfl ?_
        refine v_iconst (pc' := 176) dX3_readCommand_175 kc_1 rfl ?_
        refine v_iconst (pc' := 177) dX3_readCommand_176 kc_0 rfl ?_
        refine v_iconst (pc' := 178) dX3_readCommand_177 kc_5 rfl ?_
        refine v_cVI (pc' := 181) (c3_readNumber hl hS hX1 1 0 5 (k + 1) (by omega) (by omega) (by omega) (by omega) at1 w1 rfl rfl rfl) dX3_readCommand_178 lk_X3_50 mwX3_readNumber miX3_readNumber h0 rfl rfl rfl rfl (by decide) (Nat.le_of_ble_eq_true rfl) rfl ?_
        rintro x2 I2 ⟨hF2, at2, w2, rfl⟩
        rw [hr1] at at2 w2 ⊢
        refine p_X3_29 (pc' := 184) rfl dX3_readCommand_181 (by assumption) rfl ?_
        refine v_goto (tgt := 217) dX3_readCommand_184 (by decide) ?_
        refine v_aload_n (pc' := 218) dX3_readCommand_217 rfl rfl ?_
        refine g_X3_22 (pc' := 221) rfl dX3_readCommand_218 (by assumption) rfl ?_
        rw [show (z_up I2 a 5 (rv (some u))) a 3 = 0 by simp (disch := omega) only [z_up_row, z_row_row, z_row_at, pk_us, pk_un]; exact w2]
        refine v_if_ne (tgt := 228) (pc' := 224) dX3_readCommand_221 (by decide) rfl (fun c_221 => ?_) (fun c_221 => ?_)
        · exact absurd rfl c_221
        · refine v_iconst (pc' := 225) dX3_readCommand_224 kc_1 rfl ?_
          refine v_goto (tgt := 229) dX3_readCommand_225 (by decide) ?_
          exact v_zret dX3_readCommand_229 rfl (Nat.le_refl _) (Nat.le_refl _) rfl ⟨_, rfl, rfl, rfl, hF1.tr (hF2.1.tr (FrT.up (by omega))), by rw [hv]; simp (disch := omega) only [z_up_row, z_row_row, z_row_at, pk_us, pk_un]; exact at2, by rw [hv]; simp (disch := omega) only [z_up_row, z_row_row, z_row_at, pk_us, pk_un]; exact w2, by rw [hv]; rfl, fun u' v' q => by rw [hv] at q; cases q; exact ⟨by rw [z_up_row, z_row_at, pk_un (by omega), hF2.2.1]; exact l1, by rw [z_up_row, z_row_at, pk_us]; rfl, fun q9 => by omega⟩⟩
      · exact absurd c_15 (by decide)

set_option maxRecDepth 20000 in
set_option maxHeartbeats 4000000 in
theorem c3_rc_w (hl : l.stackTraces = false) (hS : ShT E G a) (hX : AbsX I a T n) (hw : I a 3 = 0) (k : Nat) (hk : k < n) (hat : I a 2 = nI k) (hc : T k = 119) : z_CI E l mX3_readCommand 4 [.ref a] G I sz (fun x I' => (FrT I I' a ∧ I' a 2 = nI (p_cmd T n k).2 ∧ I' a 3 = z_b (!(p_cmd T n k).1.isSome) ∧ x = z_b (p_cmd T n k).1.isSome ∧ ∀ u v, (p_cmd T n k).1 = some (u, v) → I' a 4 = nI (T k) ∧ I' a 5 = nI u ∧ ((T k = 116 ∨ T k = 108) → I' a 6 = nI v))) := by
  obtain ⟨h0, h1⟩ := id hS
  obtain ⟨hn, gn, gc⟩ := id hX
  obtain ⟨t1, t2⟩ := gc k hk
  have ec : p_cmd T n k = p_onen T n 1 60 2 (k + 1) := by
    unfold p_cmd
    repeat' first | rfl | omega | split
  rcases hr1 : p_rn T n 1 60 2 0 (k + 1) with ⟨_ | u, k1⟩
  · have hv : p_cmd T n k = (none, k1) := by rw [ec, p_onen, hr1]
    refine z_Ct.of hl pn_X3 [some (.ref a)] rfl (Nat.le_of_ble_eq_true rfl) ?_
    refine v_aload_n (pc' := 1) dX3_readCommand_0 rfl rfl ?_
    refine g_X3_22 (pc' := 4) rfl dX3_readCommand_1 (by assumption) rfl ?_
    rw [hw]
    refine v_if_ne (tgt := 18) (pc' := 7) dX3_readCommand_4 (by decide) rfl (fun c_4 => ?_) (fun c_4 => ?_)
    · exact absurd rfl c_4
    · refine v_aload_n (pc' := 8) dX3_readCommand_7 rfl rfl ?_
      refine v_aload_n (pc' := 9) dX3_readCommand_8 rfl rfl ?_
      refine g_X3_19 (pc' := 12) rfl dX3_readCommand_9 (by assumption) rfl ?_
      rw [hat]
      refine v_cVR (pc' := 15) (c3_isInText hl hS hX k (by omega)) dX3_readCommand_12 lk_X3_46 mwX3_isInText miX3_isInText h0 rfl rfl rfl rfl (by decide) (Nat.le_of_ble_eq_true rfl) rfl ?_
      rw [decide_eq_true hk]
      refine v_if_ne (tgt := 20) (pc' := 18) dX3_readCommand_15 (by decide) rfl (fun c_15 => ?_) (fun c_15 => ?_)
      · refine v_aload_n (pc' := 21) dX3_readCommand_20 rfl rfl ?_
        refine v_aload_n (pc' := 22) dX3_readCommand_21 rfl rfl ?_
        refine g_X3_9 (pc' := 25) rfl dX3_readCommand_22 (by assumption) rfl ?_
        refine v_aload_n (pc' := 26) dX3_readCommand_25 rfl rfl ?_
        refine g_X3_19 (pc' := 29) rfl dX3_readCommand_26 (by assumption) rfl ?_
        rw [hat]
        refine v_cald (pc' := 30) dX3_readCommand_29 (k) rfl (by assumption) (by omega) (by decide) rfl ?_
        rw [t2]
        refine p_X3_26 (pc' := 33) rfl dX3_readCommand_30 (by assumption) rfl ?_
        refine v_aload_n (pc' := 34) dX3_readCommand_33 rfl rfl ?_
        refine v_dup (pc' := 35) dX3_readCommand_34 rfl rfl ?_
        refine g_X3_19 (pc' := 38) rfl dX3_readCommand_35 (by assumption) rfl ?_
        rw [show z_up I a 4 (nI (T k)) a 2 = nI k by rw [z_up_row, z_row_at, pk_un (by omega)]; exact hat]
        refine v_iconst (pc' := 39) dX3_readCommand_38 kc_1 rfl ?_
        refine v_iadd (pc' := 40) dX3_readCommand_39 rfl ?_
        rw [nI_1]
        refine p_X3_19 (pc' := 43) rfl dX3_readCommand_40 (by assumption) rfl ?_
        refine v_aload_n (pc' := 44) dX3_readCommand_43 rfl rfl ?_
        refine g_X3_26 (pc' := 47) rfl dX3_readCommand_44 (by assumption) rfl ?_
        rw [show z_up (z_up I a 4 (nI (T k))) a 2 (nI (k + 1)) a 4 = nI (T k) by simp (disch := omega) only [z_up_row, z_row_row, z_row_at, pk_us, pk_un]]
        generalize hI1 : z_up (z_up I a 4 (nI (T k))) a 2 (nI (k + 1)) = I1
        have hF1 : FrT I I1 a := by rw [← hI1]; exact (FrT.up (by omega)).tr (FrT.up (by omega))
        have hX1 := hX.fr hF1
        have l1 : I1 a 4 = nI (T k) := by rw [← hI1]; simp (disch := omega) only [z_up_row, z_row_row, z_row_at, pk_us, pk_un]
        have at1 : I1 a 2 = nI (k + 1) := by rw [← hI1]; simp (disch := omega) only [z_up_row, z_row_row, z_row_at, pk_us]
        have w1 : I1 a 3 = 0 := by rw [← hI1]; simp (disch := omega) only [z_up_row, z_row_row, z_row_at, pk_un]; exact hw
        refine v_lookup (tgt := 187) (off := 140) dX3_readCommand_47 rfl (by rw [nI_toInt (by omega)]; simp only [Array.toList, Op.lookupswitch.offset]; repeat' first | omega | split) (by decide) ?_
        refine v_aload_n (pc' := 188) dX3_readCommand_187 rfl rfl ?_
        refine v_aload_n (pc' := 189) dX3_readCommand_188 rfl rfl ?_
        refine v_iconst (pc' := 190) dX3_readCommand_189 kc_2 rfl ?_
        refine v_iconst (pc' := 191) dX3_readCommand_190 kc_1 rfl ?_
        refine v_bipush (pc' := 193) dX3_readCommand_191 kb_60 rfl ?_
        refine v_cVI (pc' := 196) (c3_readNumber hl hS hX1 2 1 60 (k + 1) (by omega) (by omega) (by omega) (by omega) at1 w1 rfl rfl rfl) dX3_readCommand_193 lk_X3_50 mwX3_readNumber miX3_readNumber h0 rfl rfl rfl rfl (by decide) (Nat.le_of_ble_eq_true rfl) rfl ?_
        rintro x2 I2 ⟨hF2, at2, w2, rfl⟩
        rw [hr1] at at2 w2 ⊢
        refine p_X3_29 (pc' := 199) rfl dX3_readCommand_196 (by assumption) rfl ?_
        refine v_goto (tgt := 217) dX3_readCommand_199 (by decide) ?_
        refine v_aload_n (pc' := 218) dX3_readCommand_217 rfl rfl ?_
        refine g_X3_22 (pc' := 221) rfl dX3_readCommand_218 (by assumption) rfl ?_
        rw [show (z_up I2 a 5 (rv none)) a 3 = 1 by simp (disch := omega) only [z_up_row, z_row_row, z_row_at, pk_us, pk_un]; exact w2]
        refine v_if_ne (tgt := 228) (pc' := 224) dX3_readCommand_221 (by decide) rfl (fun c_221 => ?_) (fun c_221 => ?_)
        · refine v_iconst (pc' := 229) dX3_readCommand_228 kc_0 rfl ?_
          exact v_zret dX3_readCommand_229 rfl (Nat.le_refl _) (Nat.le_refl _) rfl ⟨_, rfl, rfl, rfl, hF1.tr (hF2.1.tr (FrT.up (by omega))), by rw [hv]; simp (disch := omega) only [z_up_row, z_row_row, z_row_at, pk_us, pk_un]; exact at2, by rw [hv]; simp (disch := omega) only [z_up_row, z_row_row, z_row_at, pk_us, pk_un]; exact w2, by rw [hv]; rfl, fun u' v' q => by rw [hv] at q; cases q⟩
        · exact absurd c_221 (by decide)
      · exact absurd c_15 (by decide)
  · have hv : p_cmd T n k = (some (u, 0), k1) := by rw [ec, p_onen, hr1]
    refine z_Ct.of hl pn_X3 [some (.ref a)] rfl (Nat.le_of_ble_eq_true rfl) ?_
    refine v_aload_n (pc' := 1) dX3_readCommand_0 rfl rfl ?_
    refine g_X3_22 (pc' := 4) rfl dX3_readCommand_1 (by assumption) rfl ?_
    rw [hw]
    refine v_if_ne (tgt := 18) (pc' := 7) dX3_readCommand_4 (by decide) rfl (fun c_4 => ?_) (fun c_4 => ?_)
    · exact absurd rfl c_4
    · refine v_aload_n (pc' := 8) dX3_readCommand_7 rfl rfl ?_
      refine v_aload_n (pc' := 9) dX3_readCommand_8 rfl rfl ?_
      refine g_X3_19 (pc' := 12) rfl dX3_readCommand_9 (by assumption) rfl ?_
      rw [hat]
      refine v_cVR (pc' := 15) (c3_isInText hl hS hX k (by omega)) dX3_readCommand_12 lk_X3_46 mwX3_isInText miX3_isInText h0 rfl rfl rfl rfl (by decide) (Nat.le_of_ble_eq_true rfl) rfl ?_
      rw [decide_eq_true hk]
      refine v_if_ne (tgt := 20) (pc' := 18) dX3_readCommand_15 (by decide) rfl (fun c_15 => ?_) (fun c_15 => ?_)
      · refine v_aload_n (pc' := 21) dX3_readCommand_20 rfl rfl ?_
        refine v_aload_n (pc' := 22) dX3_readCommand_21 rfl rfl ?_
        refine g_X3_9 (pc' := 25) rfl dX3_readCommand_22 (by assumption) rfl ?_
        refine v_aload_n (pc' := 26) dX3_readCommand_25 rfl rfl ?_
        refine g_X3_19 (pc' := 29) rfl dX3_readCommand_26 (by assumption) rfl ?_
        rw [hat]
        refine v_cald (pc' := 30) dX3_readCommand_29 (k) rfl (by assumption) (by omega) (by decide) rfl ?_
        rw [t2]
        refine p_X3_26 (pc' := 33) rfl dX3_readCommand_30 (by assumption) rfl ?_
        refine v_aload_n (pc' := 34) dX3_readCommand_33 rfl rfl ?_
        refine v_dup (pc' := 35) dX3_readCommand_34 rfl rfl ?_
        refine g_X3_19 (pc' := 38) rfl dX3_readCommand_35 (by assumption) rfl ?_
        rw [show z_up I a 4 (nI (T k)) a 2 = nI k by rw [z_up_row, z_row_at, pk_un (by omega)]; exact hat]
        refine v_iconst (pc' := 39) dX3_readCommand_38 kc_1 rfl ?_
        refine v_iadd (pc' := 40) dX3_readCommand_39 rfl ?_
        rw [nI_1]
        refine p_X3_19 (pc' := 43) rfl dX3_readCommand_40 (by assumption) rfl ?_
        refine v_aload_n (pc' := 44) dX3_readCommand_43 rfl rfl ?_
        refine g_X3_26 (pc' := 47) rfl dX3_readCommand_44 (by assumption) rfl ?_
        rw [show z_up (z_up I a 4 (nI (T k))) a 2 (nI (k + 1)) a 4 = nI (T k) by simp (disch := omega) only [z_up_row, z_row_row, z_row_at, pk_us, pk_un]]
        generalize hI1 : z_up (z_up I a 4 (nI (T k))) a 2 (nI (k + 1)) = I1
        have hF1 : FrT I I1 a := by rw [← hI1]; exact (FrT.up (by omega)).tr (FrT.up (by omega))
        have hX1 := hX.fr hF1
        have l1 : I1 a 4 = nI (T k) := by rw [← hI1]; simp (disch := omega) only [z_up_row, z_row_row, z_row_at, pk_us, pk_un]
        have at1 : I1 a 2 = nI (k + 1) := by rw [← hI1]; simp (disch := omega) only [z_up_row, z_row_row, z_row_at, pk_us]
        have w1 : I1 a 3 = 0 := by rw [← hI1]; simp (disch := omega) only [z_up_row, z_row_row, z_row_at, pk_un]; exact hw
        refine v_lookup (tgt := 187) (off := 140) dX3_readCommand_47 rfl (by rw [nI_toInt (by omega)]; simp only [Array.toList, Op.lookupswitch.offset]; repeat' first | omega | split) (by decide) ?_
        refine v_aload_n (pc' := 188) dX3_readCommand_187 rfl rfl ?_
        refine v_aload_n (pc' := 189) dX3_readCommand_188 rfl rfl ?_
        refine v_iconst (pc' := 190) dX3_readCommand_189 kc_2 rfl ?_
        refine v_iconst (pc' := 191) dX3_readCommand_190 kc_1 rfl ?_
        refine v_bipush (pc' := 193) dX3_readCommand_191 kb_60 rfl ?_
        refine v_cVI (pc' := 196) (c3_readNumber hl hS hX1 2 1 60 (k + 1) (by omega) (by omega) (by omega) (by omega) at1 w1 rfl rfl rfl) dX3_readCommand_193 lk_X3_50 mwX3_readNumber miX3_readNumber h0 rfl rfl rfl rfl (by decide) (Nat.le_of_ble_eq_true rfl) rfl ?_
        rintro x2 I2 ⟨hF2, at2, w2, rfl⟩
        rw [hr1] at at2 w2 ⊢
        refine p_X3_29 (pc' := 199) rfl dX3_readCommand_196 (by assumption) rfl ?_
        refine v_goto (tgt := 217) dX3_readCommand_199 (by decide) ?_
        refine v_aload_n (pc' := 218) dX3_readCommand_217 rfl rfl ?_
        refine g_X3_22 (pc' := 221) rfl dX3_readCommand_218 (by assumption) rfl ?_
        rw [show (z_up I2 a 5 (rv (some u))) a 3 = 0 by simp (disch := omega) only [z_up_row, z_row_row, z_row_at, pk_us, pk_un]; exact w2]
        refine v_if_ne (tgt := 228) (pc' := 224) dX3_readCommand_221 (by decide) rfl (fun c_221 => ?_) (fun c_221 => ?_)
        · exact absurd rfl c_221
        · refine v_iconst (pc' := 225) dX3_readCommand_224 kc_1 rfl ?_
          refine v_goto (tgt := 229) dX3_readCommand_225 (by decide) ?_
          exact v_zret dX3_readCommand_229 rfl (Nat.le_refl _) (Nat.le_refl _) rfl ⟨_, rfl, rfl, rfl, hF1.tr (hF2.1.tr (FrT.up (by omega))), by rw [hv]; simp (disch := omega) only [z_up_row, z_row_row, z_row_at, pk_us, pk_un]; exact at2, by rw [hv]; simp (disch := omega) only [z_up_row, z_row_row, z_row_at, pk_us, pk_un]; exact w2, by rw [hv]; rfl, fun u' v' q => by rw [hv] at q; cases q; exact ⟨by rw [z_up_row, z_row_at, pk_un (by omega), hF2.2.1]; exact l1, by rw [z_up_row, z_row_at, pk_us]; rfl, fun q9 => by omega⟩⟩
      · exact absurd c_15 (by decide)

set_option maxRecDepth 20000 in
set_option maxHeartbeats 4000000 in
theorem c3_rc_x (hl : l.stackTraces = false) (hS : ShT E G a) (hX : AbsX I a T n) (hw : I a 3 = 0) (k : Nat) (hk : k < n) (hat : I a 2 = nI k) (hc : ¬ T k = 116 ∧ ¬ T k = 108 ∧ ¬ T k = 98 ∧ ¬ T k = 103 ∧ ¬ T k = 115 ∧ ¬ T k = 119) : z_CI E l mX3_readCommand 4 [.ref a] G I sz (fun x I' => (FrT I I' a ∧ I' a 2 = nI (p_cmd T n k).2 ∧ I' a 3 = z_b (!(p_cmd T n k).1.isSome) ∧ x = z_b (p_cmd T n k).1.isSome ∧ ∀ u v, (p_cmd T n k).1 = some (u, v) → I' a 4 = nI (T k) ∧ I' a 5 = nI u ∧ ((T k = 116 ∨ T k = 108) → I' a 6 = nI v))) := by
  obtain ⟨h0, h1⟩ := id hS
  obtain ⟨hn, gn, gc⟩ := id hX
  obtain ⟨t1, t2⟩ := gc k hk
  have hv : p_cmd T n k = (none, k) := by
    unfold p_cmd
    repeat' first | rfl | omega | split
  refine z_Ct.of hl pn_X3 [some (.ref a)] rfl (Nat.le_of_ble_eq_true rfl) ?_
  refine v_aload_n (pc' := 1) dX3_readCommand_0 rfl rfl ?_
  refine g_X3_22 (pc' := 4) rfl dX3_readCommand_1 (by assumption) rfl ?_
  rw [hw]
  refine v_if_ne (tgt := 18) (pc' := 7) dX3_readCommand_4 (by decide) rfl (fun c_4 => ?_) (fun c_4 => ?_)
  · exact absurd rfl c_4
  · refine v_aload_n (pc' := 8) dX3_readCommand_7 rfl rfl ?_
    refine v_aload_n (pc' := 9) dX3_readCommand_8 rfl rfl ?_
    refine g_X3_19 (pc' := 12) rfl dX3_readCommand_9 (by assumption) rfl ?_
    rw [hat]
    refine v_cVR (pc' := 15) (c3_isInText hl hS hX k (by omega)) dX3_readCommand_12 lk_X3_46 mwX3_isInText miX3_isInText h0 rfl rfl rfl rfl (by decide) (Nat.le_of_ble_eq_true rfl) rfl ?_
    rw [decide_eq_true hk]
    refine v_if_ne (tgt := 20) (pc' := 18) dX3_readCommand_15 (by decide) rfl (fun c_15 => ?_) (fun c_15 => ?_)
    · refine v_aload_n (pc' := 21) dX3_readCommand_20 rfl rfl ?_
      refine v_aload_n (pc' := 22) dX3_readCommand_21 rfl rfl ?_
      refine g_X3_9 (pc' := 25) rfl dX3_readCommand_22 (by assumption) rfl ?_
      refine v_aload_n (pc' := 26) dX3_readCommand_25 rfl rfl ?_
      refine g_X3_19 (pc' := 29) rfl dX3_readCommand_26 (by assumption) rfl ?_
      rw [hat]
      refine v_cald (pc' := 30) dX3_readCommand_29 (k) rfl (by assumption) (by omega) (by decide) rfl ?_
      rw [t2]
      refine p_X3_26 (pc' := 33) rfl dX3_readCommand_30 (by assumption) rfl ?_
      refine v_aload_n (pc' := 34) dX3_readCommand_33 rfl rfl ?_
      refine v_dup (pc' := 35) dX3_readCommand_34 rfl rfl ?_
      refine g_X3_19 (pc' := 38) rfl dX3_readCommand_35 (by assumption) rfl ?_
      rw [show z_up I a 4 (nI (T k)) a 2 = nI k by rw [z_up_row, z_row_at, pk_un (by omega)]; exact hat]
      refine v_iconst (pc' := 39) dX3_readCommand_38 kc_1 rfl ?_
      refine v_iadd (pc' := 40) dX3_readCommand_39 rfl ?_
      rw [nI_1]
      refine p_X3_19 (pc' := 43) rfl dX3_readCommand_40 (by assumption) rfl ?_
      refine v_aload_n (pc' := 44) dX3_readCommand_43 rfl rfl ?_
      refine g_X3_26 (pc' := 47) rfl dX3_readCommand_44 (by assumption) rfl ?_
      rw [show z_up (z_up I a 4 (nI (T k))) a 2 (nI (k + 1)) a 4 = nI (T k) by simp (disch := omega) only [z_up_row, z_row_row, z_row_at, pk_us, pk_un]]
      generalize hI1 : z_up (z_up I a 4 (nI (T k))) a 2 (nI (k + 1)) = I1
      have hF1 : FrT I I1 a := by rw [← hI1]; exact (FrT.up (by omega)).tr (FrT.up (by omega))
      have hX1 := hX.fr hF1
      have l1 : I1 a 4 = nI (T k) := by rw [← hI1]; simp (disch := omega) only [z_up_row, z_row_row, z_row_at, pk_us, pk_un]
      have at1 : I1 a 2 = nI (k + 1) := by rw [← hI1]; simp (disch := omega) only [z_up_row, z_row_row, z_row_at, pk_us]
      have w1 : I1 a 3 = 0 := by rw [← hI1]; simp (disch := omega) only [z_up_row, z_row_row, z_row_at, pk_un]; exact hw
      refine v_lookup (tgt := 202) (off := 155) dX3_readCommand_47 rfl (by rw [nI_toInt (by omega)]; simp only [Array.toList, Op.lookupswitch.offset]; repeat' first | omega | split) (by decide) ?_
      refine v_aload_n (pc' := 203) dX3_readCommand_202 rfl rfl ?_
      refine v_dup (pc' := 204) dX3_readCommand_203 rfl rfl ?_
      skip
      refine g_X3_19 (pc' := 207) rfl dX3_readCommand_204 (by assumption) rfl ?_
      rw [at1]
      refine v_iconst (pc' := 208) dX3_readCommand_207 kc_1 rfl ?_
      refine v_isub (pc' := 209) dX3_readCommand_208 rfl ?_
      rw [show (nI (k + 1) - 1 : Int32) = nI k from nI_pred k]
      refine p_X3_19 (pc' := 212) rfl dX3_readCommand_209 (by assumption) rfl ?_
      refine v_aload_n (pc' := 213) dX3_readCommand_212 rfl rfl ?_
      refine v_iconst (pc' := 214) dX3_readCommand_213 kc_1 rfl ?_
      refine p_X3_22 (pc' := 217) rfl rfl rfl dX3_readCommand_214 (by assumption) rfl ?_
      refine v_aload_n (pc' := 218) dX3_readCommand_217 rfl rfl ?_
      refine g_X3_22 (pc' := 221) rfl dX3_readCommand_218 (by assumption) rfl ?_
      rw [show z_up (z_up I1 a 2 (nI k)) a 3 1 a 3 = 1 by simp (disch := omega) only [z_up_row, z_row_row, z_row_at, pk_us]]
      refine v_if_ne (tgt := 228) (pc' := 224) dX3_readCommand_221 (by decide) rfl (fun c_221 => ?_) (fun c_221 => ?_)
      · refine v_iconst (pc' := 229) dX3_readCommand_228 kc_0 rfl ?_
        exact v_zret dX3_readCommand_229 rfl (Nat.le_refl _) (Nat.le_refl _) rfl ⟨_, rfl, rfl, rfl, hF1.tr ((FrT.up (by omega)).tr (FrT.up (by omega))), by rw [hv]; simp (disch := omega) only [z_up_row, z_row_row, z_row_at, pk_us, pk_un], by rw [hv]; simp (disch := omega) only [z_up_row, z_row_row, z_row_at, pk_us, pk_un]; rfl, by rw [hv]; rfl, fun u' v' q => by rw [hv] at q; cases q⟩
      · exact absurd c_221 (by decide)
    · exact absurd c_15 (by decide)
theorem c3_readCommand (hl : l.stackTraces = false) (hS : ShT E G a) (hX : AbsX I a T n) (hw : I a 3 = 0) (k : Nat) (hk : k < n) (hat : I a 2 = nI k) : z_CI E l mX3_readCommand 4 [.ref a] G I sz (fun x I' => (FrT I I' a ∧ I' a 2 = nI (p_cmd T n k).2 ∧ I' a 3 = z_b (!(p_cmd T n k).1.isSome) ∧ x = z_b (p_cmd T n k).1.isSome ∧ ∀ u v, (p_cmd T n k).1 = some (u, v) → I' a 4 = nI (T k) ∧ I' a 5 = nI u ∧ ((T k = 116 ∨ T k = 108) → I' a 6 = nI v))) := by
  by_cases c1 : T k = 116
  · exact c3_rc_t hl hS hX hw k hk hat c1
  by_cases c2 : T k = 108
  · exact c3_rc_l hl hS hX hw k hk hat c2
  by_cases c3 : T k = 98 ∨ T k = 103
  · exact c3_rc_b hl hS hX hw k hk hat c3
  by_cases c4 : T k = 115
  · exact c3_rc_s hl hS hX hw k hk hat c4
  by_cases c5 : T k = 119
  · exact c3_rc_w hl hS hX hw k hk hat c5
  · exact c3_rc_x hl hS hX hw k hk hat (by omega)
end TEXT2
