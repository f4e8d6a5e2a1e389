/-! THE CLASS: the text and its reader (written by wip/whole/gen_text.py) -/
def ShT (E : zE) (G : zG) (a : Nat) : Prop := (a, sTx a) ∈ G ∧ (a + 1, sI E 2 120) ∈ G
def AbsX (I : zI) (a : Nat) (T : Nat → Nat) (n : Nat) : Prop := n ≤ 120 ∧ I a 1 = nI n ∧ ∀ k, k < n → T k < 256 ∧ I (a + 1) k = nI (T k)
/-- only the text's own numbers have changed, not its length -/
def FrT (I I' : zI) (a : Nat) : Prop := (∀ q, q ≠ a → I' q = I q) ∧ I' a 1 = I a 1
/-- only the reader's place and its error -/
def FrN (I I' : zI) (a : Nat) : Prop := FrT I I' a ∧ I' a 4 = I a 4 ∧ I' a 5 = I a 5 ∧ I' a 6 = I a 6
theorem FrT.rf {I : zI} {a : Nat} : FrT I I a := ⟨fun _ _ => rfl, rfl⟩
theorem FrT.tr {I I' I'' : zI} {a : Nat} (h : FrT I I' a) (h' : FrT I' I'' a) : FrT I I'' a := ⟨fun q hq => (h'.1 q hq).trans (h.1 q hq), h'.2.trans h.2⟩
theorem FrT.up {I : zI} {a k : Nat} {x : Int32} (hk : 1 ≠ k) : FrT I (z_up I a k x) a := ⟨fun q hq => z_up_ne _ _ _ _ hq, by rw [z_up_row, z_row_at, pk_un hk]⟩
theorem FrN.rf {I : zI} {a : Nat} : FrN I I a := ⟨FrT.rf, rfl, rfl, rfl⟩
theorem FrN.tr {I I' I'' : zI} {a : Nat} (h : FrN I I' a) (h' : FrN I' I'' a) : FrN I I'' a := ⟨h.1.tr h'.1, h'.2.1.trans h.2.1, h'.2.2.1.trans h.2.2.1, h'.2.2.2.trans h.2.2.2⟩
theorem FrN.up {I : zI} {a k : Nat} {x : Int32} (hk : k = 2 ∨ k = 3) : FrN I (z_up I a k x) a := ⟨FrT.up (by omega), by rw [z_up_row, z_row_at, pk_un (by omega)], by rw [z_up_row, z_row_at, pk_un (by omega)], by rw [z_up_row, z_row_at, pk_un (by omega)]⟩
theorem AbsX.fr {I I' : zI} {a : Nat} {T : Nat → Nat} {n : Nat} (h : AbsX I a T n) (hf : FrT I I' a) : AbsX I' a T n := ⟨h.1, hf.2.trans h.2.1, fun k hk => by rw [hf.1 (a + 1) (by omega)]; exact h.2.2 k hk⟩
def p_dig (T : Nat → Nat) (n k : Nat) : Option Nat := if k < n ∧ 48 ≤ T k ∧ T k ≤ 57 then some (T k - 48) else none
def p_rn (T : Nat → Nat) (n lo hi : Nat) : Nat → Nat → Nat → Option Nat × Nat
  | 0, v, k => (some v, k)
  | d + 1, v, k =>
    match p_dig T n k with
    | none => (none, k)
    | some g => if (v * 10 + g) * 10 ^ d > hi ∨ (v * 10 + g + 1) * 10 ^ d ≤ lo then (none, k) else p_rn T n lo hi d (v * 10 + g) (k + 1)
def rv : Option Nat → Int32
  | some v => nI v
  | none => -1
theorem p_dig_lt {T : Nat → Nat} {n k g : Nat} (h : p_dig T n k = some g) : k < n ∧ g ≤ 9 := by
  unfold p_dig at h
  split at h
  · cases h; omega
  · cases h
theorem p_rn_le {T : Nat → Nat} {n lo hi : Nat} : ∀ (d v k : Nat), k ≤ n → k ≤ (p_rn T n lo hi d v k).2 ∧ (p_rn T n lo hi d v k).2 ≤ n
  | 0, v, k, h => ⟨Nat.le_refl _, h⟩
  | d + 1, v, k, h => by
    rw [p_rn]
    cases hg : p_dig T n k with
    | none => exact ⟨Nat.le_refl _, h⟩
    | some g =>
      have := p_dig_lt hg
      simp only [hg]
      split
      · exact ⟨Nat.le_refl _, h⟩
      · have h9 := p_rn_le (T := T) (n := n) (lo := lo) (hi := hi) d (v * 10 + g) (k + 1) (by omega)
        exact ⟨by omega, h9.2⟩
section TEXT
variable {E : zE} {l : Launch} {G : zG} {I : zI} {sz a n : Nat} {T : Nat → Nat}
set_option maxRecDepth 20000 in
set_option maxHeartbeats 4000000 in
theorem c3_isFull (hl : l.stackTraces = false) (hS : ShT E G a) (hX : AbsX I a T n) : z_CR E l mX3_isFull 0 [.ref a] G I sz (.int (z_b (decide (120 ≤ n)))) := by
  obtain ⟨h0, h1⟩ := id hS
  obtain ⟨hn, gn, gc⟩ := id hX
  refine z_Ct.of hl pn_X3 [some (.ref a)] rfl (Nat.le_of_ble_eq_true rfl) ?_
  refine v_aload_n (pc' := 1) dX3_isFull_0 rfl rfl ?_
  refine g_X3_15 (pc' := 4) rfl dX3_isFull_1 (by assumption) rfl ?_
  refine v_bipush (pc' := 6) dX3_isFull_4 kb_120 rfl ?_
  rw [gn]
  refine v_icmp_lt (tgt := 13) (pc' := 9) dX3_isFull_6 (by decide) rfl (fun c_6 => ?_) (fun c_6 => ?_)
  · have hh : ¬ 120 ≤ n := fun q => nI_nlt (b := 120) q (by omega) c_6
    refine v_iconst (pc' := 14) dX3_isFull_13 kc_0 rfl ?_
    exact v_zret dX3_isFull_14 rfl (Nat.le_refl _) (Nat.le_refl _) rfl (z_rdi (by simp [z_b, hh]))
  · have hh : 120 ≤ n := by
      rcases Nat.lt_or_ge n 120 with q | q
      · exact absurd (nI_lt (b := 120) q (by omega)) c_6
      · exact q
    refine v_iconst (pc' := 10) dX3_isFull_9 kc_1 rfl ?_
    refine v_goto (tgt := 14) dX3_isFull_10 (by decide) ?_
    exact v_zret dX3_isFull_14 rfl (Nat.le_refl _) (Nat.le_refl _) rfl (z_rdi (by simp [z_b, hh]))
set_option maxRecDepth 20000 in
set_option maxHeartbeats 4000000 in
theorem c3_put (hl : l.stackTraces = false) (hS : ShT E G a) (hX : AbsX I a T n) (c : Nat) (hc : c < 256) (hn2 : n < 120) {c3 : Int32} (hc3 : c3 = nI c) : z_CI E l mX3_put 1 [.ref a, .int c3] G I sz (fun x I' => x = nI (n + 1) ∧ I' = z_up (z_up I (a + 1) n (nI c)) a 1 (nI (n + 1))) := by
  obtain ⟨h0, h1⟩ := id hS
  obtain ⟨hn, gn, gc⟩ := id hX
  subst hc3
  refine z_Ct.of hl pn_X3 [some (.ref a), some (.int (nI c))] rfl (Nat.le_of_ble_eq_true rfl) ?_
  refine v_aload_n (pc' := 1) dX3_put_0 rfl rfl ?_
  refine g_X3_15 (pc' := 4) rfl dX3_put_1 (by assumption) rfl ?_
  refine v_iconst (pc' := 5) dX3_put_4 kc_0 rfl ?_
  refine v_bipush (pc' := 7) dX3_put_5 kb_119 rfl ?_
  rw [gn]
  refine v_cSNR (pc' := 10) (c4_isBetween hl (nI n) 0 119) dX3_put_7 lk_X3_35 mwX4_isBetween msX4_isBetween rfl rfl (by decide) (Nat.le_of_ble_eq_true rfl) rfl ?_
  refine v_if_eq (tgt := 33) (pc' := 13) dX3_put_10 (by decide) rfl (fun c_10 => ?_) (fun c_10 => ?_)
  · exact absurd (z_b_eq0.mp c_10) (by rw [show z_in (nI n) 0 119 = true from z_in_of (lo := 0) (hi := 119) (by omega) (by omega) (by omega)]; decide)
  · refine v_aload_n (pc' := 14) dX3_put_13 rfl rfl ?_
    refine g_X3_9 (pc' := 17) rfl dX3_put_14 (by assumption) rfl ?_
    refine v_aload_n (pc' := 18) dX3_put_17 rfl rfl ?_
    refine g_X3_15 (pc' := 21) rfl dX3_put_18 (by assumption) rfl ?_
    rw [gn]
    refine v_iload_n (pc' := 22) dX3_put_21 rfl rfl ?_
    refine v_cast (pc' := 23) dX3_put_22 (n) rfl (by assumption) hn2 (by decide) (pk_charN (by omega)).1 rfl ?_
    refine v_aload_n (pc' := 24) dX3_put_23 rfl rfl ?_
    refine v_dup (pc' := 25) dX3_put_24 rfl rfl ?_
    refine g_X3_15 (pc' := 28) rfl dX3_put_25 (by assumption) rfl ?_
    rw [show z_up I (a + 1) n (nI c) a 1 = nI n by rw [z_up_row, z_row_ne _ _ _ (by omega)]; exact gn]
    refine v_iconst (pc' := 29) dX3_put_28 kc_1 rfl ?_
    refine v_iadd (pc' := 30) dX3_put_29 rfl ?_
    rw [show (nI n + 1) = nI (n + 1) from nI_1 n]
    refine p_X3_15 (pc' := 33) rfl dX3_put_30 (by assumption) rfl ?_
    refine v_aload_n (pc' := 34) dX3_put_33 rfl rfl ?_
    refine g_X3_15 (pc' := 37) rfl dX3_put_34 (by assumption) rfl ?_
    exact v_iret dX3_put_37 rfl (Nat.le_refl _) (Nat.le_refl _) ⟨_, rfl, rfl, rfl, by rw [z_up_row, z_row_at, pk_us], rfl⟩
theorem in_text {k n : Nat} (hk : k < 1000) (hn : n ≤ 120) : z_in (nI k) 0 (nI n - 1) = decide (k < n) := by
  have e : (nI n - 1).toInt = (n : Int) - 1 := by
    show (nI n - nI 1).toInt = _
    exact pk_sub_toInt (by omega) (by omega)
  simp only [z_in]
  rw [decide_eq_true (nI_pos' (show k < 2 ^ 31 by omega)), Bool.true_and]
  refine decide_eq_decide.mpr ?_
  rw [Int32.le_iff_toInt_le, e, nI_toInt (by omega)]
  omega
set_option maxRecDepth 20000 in
set_option maxHeartbeats 4000000 in
theorem c3_isInText (hl : l.stackTraces = false) (hS : ShT E G a) (hX : AbsX I a T n) (k : Nat) (hk : k < 1000) : z_CR E l mX3_isInText 1 [.ref a, .int (nI k)] G I sz (.int (z_b (decide (k < n)))) := by
  obtain ⟨h0, h1⟩ := id hS
  obtain ⟨hn, gn, gc⟩ := id hX
  refine z_Ct.of hl pn_X3 [some (.ref a), some (.int (nI k))] rfl (Nat.le_of_ble_eq_true rfl) ?_
  refine v_iload_n (pc' := 1) dX3_isInText_0 rfl rfl ?_
  refine v_iconst (pc' := 2) dX3_isInText_1 kc_0 rfl ?_
  refine v_aload_n (pc' := 3) dX3_isInText_2 rfl rfl ?_
  refine g_X3_15 (pc' := 6) rfl dX3_isInText_3 (by assumption) rfl ?_
  rw [gn]
  refine v_iconst (pc' := 7) dX3_isInText_6 kc_1 rfl ?_
  refine v_isub (pc' := 8) dX3_isInText_7 rfl ?_
  refine v_cSNR (pc' := 11) (c4_isBetween hl (nI k) 0 (nI n - 1)) dX3_isInText_8 lk_X3_35 mwX4_isBetween msX4_isBetween rfl rfl (by decide) (Nat.le_of_ble_eq_true rfl) rfl ?_
  rw [in_text hk hn]
  refine v_if_eq (tgt := 24) (pc' := 14) dX3_isInText_11 (by decide) rfl (fun c_11 => ?_) (fun c_11 => ?_)
  · rw [z_b_eq0, decide_eq_false_iff_not] at c_11
    refine v_iconst (pc' := 25) dX3_isInText_24 kc_0 rfl ?_
    exact v_zret dX3_isInText_25 rfl (Nat.le_refl _) (Nat.le_refl _) rfl (z_rdi (by simp [z_b, c_11]))
  · rw [z_b_ne0, decide_eq_true_eq] at c_11
    refine v_iload_n (pc' := 15) dX3_isInText_14 rfl rfl ?_
    refine v_bipush (pc' := 17) dX3_isInText_15 kb_120 rfl ?_
    refine v_icmp_ge (tgt := 24) (pc' := 20) dX3_isInText_17 (by decide) rfl (fun c_17 => ?_) (fun c_17 => ?_)
    · exact absurd c_17 (nI_ge (b := 120) (by omega) (by omega))
    · refine v_iconst (pc' := 21) dX3_isInText_20 kc_1 rfl ?_
      refine v_goto (tgt := 25) dX3_isInText_21 (by decide) ?_
      exact v_zret dX3_isInText_25 rfl (Nat.le_refl _) (Nat.le_refl _) rfl (z_rdi (by simp [z_b, c_11]))
set_option maxRecDepth 20000 in
set_option maxHeartbeats 4000000 in
theorem c3_digitAt (hl : l.stackTraces = false) (hS : ShT E G a) (hX : AbsX I a T n) (k : Nat) (hk : k < 1000) : z_CR E l mX3_digitAt 2 [.ref a, .int (nI k)] G I sz (.int (rv (p_dig T n k))) := by
  obtain ⟨h0, h1⟩ := id hS
  obtain ⟨hn, gn, gc⟩ := id hX
  refine z_Ct.of hl pn_X3 [some (.ref a), some (.int (nI k))] rfl (Nat.le_of_ble_eq_true rfl) ?_
  refine v_aload_n (pc' := 1) dX3_digitAt_0 rfl rfl ?_
  refine v_iload_n (pc' := 2) dX3_digitAt_1 rfl rfl ?_
  refine v_cVR (pc' := 5) (c3_isInText hl hS hX k hk) dX3_digitAt_2 lk_X3_46 mwX3_isInText miX3_isInText h0 rfl rfl rfl rfl (by decide) (Nat.le_of_ble_eq_true rfl) rfl ?_
  refine v_if_eq (tgt := 36) (pc' := 8) dX3_digitAt_5 (by decide) rfl (fun c_5 => ?_) (fun c_5 => ?_)
  · rw [z_b_eq0, decide_eq_false_iff_not] at c_5
    have hd : p_dig T n k = none := if_neg (fun q => c_5 q.1)
    refine v_iconst (pc' := 37) dX3_digitAt_36 kc_m1 rfl ?_
    exact v_iret dX3_digitAt_37 rfl (Nat.le_refl _) (Nat.le_refl _) (z_rdi (by first | (rw [hd]; rfl) | (rw [hd]; exact pk_sub (b := 48) (by omega))))
  · rw [z_b_ne0, decide_eq_true_eq] at c_5
    obtain ⟨hc, hT⟩ := gc k c_5
    refine v_aload_n (pc' := 9) dX3_digitAt_8 rfl rfl ?_
    refine g_X3_9 (pc' := 12) rfl dX3_digitAt_9 (by assumption) rfl ?_
    refine v_iload_n (pc' := 13) dX3_digitAt_12 rfl rfl ?_
    refine v_cald (pc' := 14) dX3_digitAt_13 (k) rfl (by assumption) (by omega) (by decide) rfl ?_
    rw [hT]
    refine v_bipush (pc' := 16) dX3_digitAt_14 kb_48 rfl ?_
    refine v_bipush (pc' := 18) dX3_digitAt_16 kb_57 rfl ?_
    refine v_cSNR (pc' := 21) (c4_isBetween hl (nI (T k)) 48 57) dX3_digitAt_18 lk_X3_35 mwX4_isBetween msX4_isBetween rfl rfl (by decide) (Nat.le_of_ble_eq_true rfl) rfl ?_
    refine v_if_eq (tgt := 36) (pc' := 24) dX3_digitAt_21 (by decide) rfl (fun c_21 => ?_) (fun c_21 => ?_)
    · rw [z_b_eq0] at c_21
      have hd : p_dig T n k = none := if_neg (fun q => by rw [show z_in (nI (T k)) 48 57 = true from z_in_of (lo := 48) (hi := 57) q.2.1 q.2.2 (by omega)] at c_21; cases c_21)
      refine v_iconst (pc' := 37) dX3_digitAt_36 kc_m1 rfl ?_
      exact v_iret dX3_digitAt_37 rfl (Nat.le_refl _) (Nat.le_refl _) (z_rdi (by first | (rw [hd]; rfl) | (rw [hd]; exact pk_sub (b := 48) (by omega))))
    · rw [z_b_ne0] at c_21
      obtain ⟨c, q1, q2, q3⟩ := z_in_nI (lo := 48) (hi := 57) (by omega) (by omega) c_21
      have q4 : T k = c := (nI_eq (by omega) (by omega)).mp q3
      have hd : p_dig T n k = some (T k - 48) := if_pos ⟨c_5, by omega, by omega⟩
      refine v_aload_n (pc' := 25) dX3_digitAt_24 rfl rfl ?_
      refine g_X3_9 (pc' := 28) rfl dX3_digitAt_25 (by assumption) rfl ?_
      refine v_iload_n (pc' := 29) dX3_digitAt_28 rfl rfl ?_
      refine v_cald (pc' := 30) dX3_digitAt_29 (k) rfl (by assumption) (by omega) (by decide) rfl ?_
      rw [hT]
      refine v_bipush (pc' := 32) dX3_digitAt_30 kb_48 rfl ?_
      refine v_isub (pc' := 33) dX3_digitAt_32 rfl ?_
      refine v_goto (tgt := 37) dX3_digitAt_33 (by decide) ?_
      exact v_iret dX3_digitAt_37 rfl (Nat.le_refl _) (Nat.le_refl _) (z_rdi (by first | (rw [hd]; rfl) | (rw [hd]; exact pk_sub (b := 48) (by omega))))
set_option maxRecDepth 20000 in
set_option maxHeartbeats 4000000 in
theorem c3_readNumber (hl : l.stackTraces = false) (hS : ShT E G a) (hX : AbsX I a T n) (d lo hi k : Nat) (hd : d ≤ 3) (hlo : lo ≤ 1000) (hhi : hi ≤ 996) (hk : k ≤ n) (hat : I a 2 = nI k) (hw : I a 3 = 0) {d3 lo3 hi3 : Int32} (hd3 : d3 = nI d) (hlo3 : lo3 = nI lo) (hhi3 : hi3 = nI hi) : z_CI E l mX3_readNumber 3 [.ref a, .int d3, .int lo3, .int hi3] G I sz (fun x I' => (FrN I I' a ∧ I' a 2 = nI (p_rn T n lo hi d 0 k).2 ∧ I' a 3 = z_b (!(p_rn T n lo hi d 0 k).1.isSome) ∧ x = rv (p_rn T n lo hi d 0 k).1)) := by
  obtain ⟨h0, h1⟩ := id hS
  obtain ⟨hn, gn, gc⟩ := id hX
  subst hd3; subst hlo3; subst hhi3
  have wl : ∀ (j : Nat) (x1 x2 : Int32) (o : Option Value) (k1 : Nat) (I1 : zI), z_c1 o = true → FrN I I1 a → I1 a 2 = nI k1 → I1 a 3 = 1 → p_rn T n lo hi d 0 k = (none, k1) → z_V E l mX3_readNumber (z_rm 3 0 0) 0 0 (z_q (fun v' G' I' sz' => ∃ x, v' = some (.int x) ∧ G' = G ∧ sz' = sz ∧ (FrN I I' a ∧ I' a 2 = nI (p_rn T n lo hi d 0 k).2 ∧ I' a 3 = z_b (!(p_rn T n lo hi d 0 k).1.isSome) ∧ x = rv (p_rn T n lo hi d 0 k).1))) 0 0 G I1 sz 31 [some (.ref a), some (.int (nI d)), some (.int (nI lo)), some (.int (nI hi)), some (.int x1), some (.int x2), some (.int (nI j)), o] [] := by
    intro j x1 x2 o k1 I1 ho hF hat1 hw1 hp'
    refine v_iload (pc' := 33) dX3_readNumber_31 rfl rfl ?_
    refine v_iload_n (pc' := 34) dX3_readNumber_33 rfl rfl ?_
    refine v_icmp_ge (tgt := 129) (pc' := 37) dX3_readNumber_34 (by decide) rfl (fun c_34 => ?_) (fun c_34 => ?_)
    · refine v_aload_n (pc' := 130) dX3_readNumber_129 rfl rfl ?_
      refine g_X3_22 (pc' := 133) rfl dX3_readNumber_130 (by assumption) rfl ?_
      rw [hw1]
      refine v_if_eq (tgt := 140) (pc' := 136) dX3_readNumber_133 (by decide) rfl (fun c_133 => ?_) (fun c_133 => ?_)
      · exact absurd c_133 (by decide)
      · refine v_iconst (pc' := 137) dX3_readNumber_136 kc_m1 rfl ?_
        refine v_goto (tgt := 142) dX3_readNumber_137 (by decide) ?_
        exact v_iret dX3_readNumber_142 rfl (Nat.le_refl _) (Nat.le_refl _) ⟨_, rfl, rfl, rfl, by rw [hp']; exact ⟨hF, hat1, by rw [hw1]; rfl, rfl⟩⟩
    · refine v_aload_n (pc' := 38) dX3_readNumber_37 rfl rfl ?_
      refine g_X3_22 (pc' := 41) rfl dX3_readNumber_38 (by assumption) rfl ?_
      rw [hw1]
      refine v_if_ne (tgt := 129) (pc' := 44) dX3_readNumber_41 (by decide) rfl (fun c_41 => ?_) (fun c_41 => ?_)
      · refine v_aload_n (pc' := 130) dX3_readNumber_129 rfl rfl ?_
        refine g_X3_22 (pc' := 133) rfl dX3_readNumber_130 (by assumption) rfl ?_
        rw [hw1]
        refine v_if_eq (tgt := 140) (pc' := 136) dX3_readNumber_133 (by decide) rfl (fun c_133 => ?_) (fun c_133 => ?_)
        · exact absurd c_133 (by decide)
        · refine v_iconst (pc' := 137) dX3_readNumber_136 kc_m1 rfl ?_
          refine v_goto (tgt := 142) dX3_readNumber_137 (by decide) ?_
          exact v_iret dX3_readNumber_142 rfl (Nat.le_refl _) (Nat.le_refl _) ⟨_, rfl, rfl, rfl, by rw [hp']; exact ⟨hF, hat1, by rw [hw1]; rfl, rfl⟩⟩
      · exact absurd c_41 (by decide)
  have loop : ∀ (n9 j v k1 : Nat) (I1 : zI) (o : Option Value), z_c1 o = true → d = j + n9 → FrN I I1 a → I1 a 2 = nI k1 → I1 a 3 = 0 → v ≤ 1000 → k1 ≤ n → n9 ≤ 3 → p_rn T n lo hi n9 v k1 = p_rn T n lo hi d 0 k → z_V E l mX3_readNumber (z_rm 3 0 0) 0 0 (z_q (fun v' G' I' sz' => ∃ x, v' = some (.int x) ∧ G' = G ∧ sz' = sz ∧ (FrN I I' a ∧ I' a 2 = nI (p_rn T n lo hi d 0 k).2 ∧ I' a 3 = z_b (!(p_rn T n lo hi d 0 k).1.isSome) ∧ x = rv (p_rn T n lo hi d 0 k).1))) 0 0 G I1 sz 31 [some (.ref a), some (.int (nI d)), some (.int (nI lo)), some (.int (nI hi)), some (.int (nI v)), some (.int (nI (10 ^ n9))), some (.int (nI j)), o] [] := by
    intro n9
    induction n9 with
    | zero =>
      intro j v k1 I1 o ho hj hF hat1 hw1 hv hk1 hn9 hp
      refine v_iload (pc' := 33) dX3_readNumber_31 rfl rfl ?_
      refine v_iload_n (pc' := 34) dX3_readNumber_33 rfl rfl ?_
      refine v_icmp_ge (tgt := 129) (pc' := 37) dX3_readNumber_34 (by decide) rfl (fun c_34 => ?_) (fun c_34 => ?_)
      · refine v_aload_n (pc' := 130) dX3_readNumber_129 rfl rfl ?_
        refine g_X3_22 (pc' := 133) rfl dX3_readNumber_130 (by assumption) rfl ?_
        rw [hw1]
        refine v_if_eq (tgt := 140) (pc' := 136) dX3_readNumber_133 (by decide) rfl (fun c_133 => ?_) (fun c_133 => ?_)
        · refine v_iload (pc' := 142) dX3_readNumber_140 rfl rfl ?_
          exact v_iret dX3_readNumber_142 rfl (Nat.le_refl _) (Nat.le_refl _) ⟨_, rfl, rfl, rfl, by rw [← hp]; exact ⟨hF, hat1, by rw [hw1]; rfl, rfl⟩⟩
        · exact absurd rfl c_133
      · exact absurd (nI_le (by omega) (by omega)) c_34
    | succ n9 ih =>
      intro j v k1 I1 o ho hj hF hat1 hw1 hv hk1 hn9 hp
      have pw : 10 ^ n9 ≤ 100 := Nat.pow_le_pow_right (n := 10) (by omega) (show n9 ≤ 2 by omega)
      cases hg : p_dig T n k1 with
      | none =>
        have hp' : p_rn T n lo hi d 0 k = (none, k1) := by
          rw [← hp, p_rn, hg]
        refine v_iload (pc' := 33) dX3_readNumber_31 rfl rfl ?_
        refine v_iload_n (pc' := 34) dX3_readNumber_33 rfl rfl ?_
        refine v_icmp_ge (tgt := 129) (pc' := 37) dX3_readNumber_34 (by decide) rfl (fun c_34 => ?_) (fun c_34 => ?_)
        · exact absurd c_34 (nI_ge (by omega) (by omega))
        · refine v_aload_n (pc' := 38) dX3_readNumber_37 rfl rfl ?_
          refine g_X3_22 (pc' := 41) rfl dX3_readNumber_38 (by assumption) rfl ?_
          rw [hw1]
          refine v_if_ne (tgt := 129) (pc' := 44) dX3_readNumber_41 (by decide) rfl (fun c_41 => ?_) (fun c_41 => ?_)
          · exact absurd rfl c_41
          · refine v_iload (pc' := 46) dX3_readNumber_44 rfl rfl ?_
            refine v_bipush (pc' := 48) dX3_readNumber_46 kb_10 rfl ?_
            refine v_idiv (pc' := 49) dX3_readNumber_48 (by decide) rfl ?_
            rw [show (nI (10 ^ (n9 + 1)) / 10 : Int32) = nI (10 ^ n9) by rw [Nat.pow_succ, show (10 : Int32) = nI 10 from rfl, pk_div (by omega) (by omega) (by omega), Nat.mul_div_cancel _ (by omega)]]
            refine v_istore5 (pc' := 51) dX3_readNumber_49 (by decide) rfl rfl ?_
            refine v_aload_n (pc' := 52) dX3_readNumber_51 rfl rfl ?_
            refine v_aload_n (pc' := 53) dX3_readNumber_52 rfl rfl ?_
            refine g_X3_19 (pc' := 56) rfl dX3_readNumber_53 (by assumption) rfl ?_
            rw [hat1]
            refine v_cVR (pc' := 59) (c3_digitAt hl hS (hX.fr hF.1) k1 (by omega)) dX3_readNumber_56 lk_X3_54 mwX3_digitAt miX3_digitAt h0 rfl rfl rfl rfl (by decide) (Nat.le_of_ble_eq_true rfl) rfl ?_
            rw [hg]
            show z_V _ _ _ _ _ _ _ _ _ _ _ _ _ _ (.int (-1) :: _)
            refine v_istore7 (pc' := 61) dX3_readNumber_59 (by decide) rfl rfl ?_
            refine v_iload (pc' := 63) dX3_readNumber_61 rfl rfl ?_
            refine v_bipush (pc' := 65) dX3_readNumber_63 kb_10 rfl ?_
            refine v_imul (pc' := 66) dX3_readNumber_65 rfl ?_
            refine v_iload (pc' := 68) dX3_readNumber_66 rfl rfl ?_
            refine v_iadd (pc' := 69) dX3_readNumber_68 rfl ?_
            refine v_istore4 (pc' := 71) dX3_readNumber_69 (by decide) rfl rfl ?_
            refine v_aload_n (pc' := 72) dX3_readNumber_71 rfl rfl ?_
            refine v_iload (pc' := 74) dX3_readNumber_72 rfl rfl ?_
            refine v_iconst (pc' := 75) dX3_readNumber_74 kc_m1 rfl ?_
            refine v_icmp_eq (tgt := 98) (pc' := 78) dX3_readNumber_75 (by decide) rfl (fun c_75 => ?_) (fun c_75 => ?_)
            · refine v_iconst (pc' := 99) dX3_readNumber_98 kc_1 rfl ?_
              refine v_goto (tgt := 103) dX3_readNumber_99 (by decide) ?_
              refine p_X3_22 (pc' := 106) rfl rfl rfl dX3_readNumber_103 (by assumption) rfl ?_
              refine v_aload_n (pc' := 107) dX3_readNumber_106 rfl rfl ?_
              refine g_X3_22 (pc' := 110) rfl dX3_readNumber_107 (by assumption) rfl ?_
              rw [show z_up I1 a 3 1 a 3 = 1 by rw [z_up_row, z_row_at, pk_us]]
              refine v_if_ne (tgt := 123) (pc' := 113) dX3_readNumber_110 (by decide) rfl (fun c_110 => ?_) (fun c_110 => ?_)
              · refine v_iinc6 (pc' := 126) dX3_readNumber_123 (by decide) rfl kc_1 (nI_1 j) rfl ?_
                refine v_goto (tgt := 31) dX3_readNumber_126 (by decide) ?_
                exact wl (j + 1) _ _ _ k1 _ rfl (hF.tr (FrN.up (by omega))) (by rw [z_up_row, z_row_at, pk_un (by omega)]; exact hat1) (by rw [z_up_row, z_row_at, pk_us]) hp'
              · exact absurd c_110 (by decide)
            · exact absurd rfl c_75
      | some g =>
        obtain ⟨g1, g2⟩ := p_dig_lt hg
        have b1 : (v * 10 + g) * 10 ^ n9 ≤ 100000 * 100 := Nat.mul_le_mul (by omega) pw
        have b2 : (v * 10 + g + 1) * 10 ^ n9 ≤ 100000 * 100 := Nat.mul_le_mul (by omega) pw
        have e1 : (nI v * 10 + nI g : Int32) = nI (v * 10 + g) := by rw [show (10 : Int32) = nI 10 from rfl, pk_mul, nI_add]
        have e2 : nI (v * 10 + g) * nI (10 ^ n9) = nI ((v * 10 + g) * 10 ^ n9) := pk_mul _ _
        have e3 : nI (v * 10 + g + 1) * nI (10 ^ n9) = nI ((v * 10 + g + 1) * 10 ^ n9) := pk_mul _ _
        refine v_iload (pc' := 33) dX3_readNumber_31 rfl rfl ?_
        refine v_iload_n (pc' := 34) dX3_readNumber_33 rfl rfl ?_
        refine v_icmp_ge (tgt := 129) (pc' := 37) dX3_readNumber_34 (by decide) rfl (fun c_34 => ?_) (fun c_34 => ?_)
        · exact absurd c_34 (nI_ge (by omega) (by omega))
        · refine v_aload_n (pc' := 38) dX3_readNumber_37 rfl rfl ?_
          refine g_X3_22 (pc' := 41) rfl dX3_readNumber_38 (by assumption) rfl ?_
          rw [hw1]
          refine v_if_ne (tgt := 129) (pc' := 44) dX3_readNumber_41 (by decide) rfl (fun c_41 => ?_) (fun c_41 => ?_)
          · exact absurd rfl c_41
          · refine v_iload (pc' := 46) dX3_readNumber_44 rfl rfl ?_
            refine v_bipush (pc' := 48) dX3_readNumber_46 kb_10 rfl ?_
            refine v_idiv (pc' := 49) dX3_readNumber_48 (by decide) rfl ?_
            rw [show (nI (10 ^ (n9 + 1)) / 10 : Int32) = nI (10 ^ n9) by rw [Nat.pow_succ, show (10 : Int32) = nI 10 from rfl, pk_div (by omega) (by omega) (by omega), Nat.mul_div_cancel _ (by omega)]]
            refine v_istore5 (pc' := 51) dX3_readNumber_49 (by decide) rfl rfl ?_
            refine v_aload_n (pc' := 52) dX3_readNumber_51 rfl rfl ?_
            refine v_aload_n (pc' := 53) dX3_readNumber_52 rfl rfl ?_
            refine g_X3_19 (pc' := 56) rfl dX3_readNumber_53 (by assumption) rfl ?_
            rw [hat1]
            refine v_cVR (pc' := 59) (c3_digitAt hl hS (hX.fr hF.1) k1 (by omega)) dX3_readNumber_56 lk_X3_54 mwX3_digitAt miX3_digitAt h0 rfl rfl rfl rfl (by decide) (Nat.le_of_ble_eq_true rfl) rfl ?_
            rw [hg]
            show z_V _ _ _ _ _ _ _ _ _ _ _ _ _ _ (.int (nI g) :: _)
            refine v_istore7 (pc' := 61) dX3_readNumber_59 (by decide) rfl rfl ?_
            refine v_iload (pc' := 63) dX3_readNumber_61 rfl rfl ?_
            refine v_bipush (pc' := 65) dX3_readNumber_63 kb_10 rfl ?_
            refine v_imul (pc' := 66) dX3_readNumber_65 rfl ?_
            refine v_iload (pc' := 68) dX3_readNumber_66 rfl rfl ?_
            refine v_iadd (pc' := 69) dX3_readNumber_68 rfl ?_
            refine v_istore4 (pc' := 71) dX3_readNumber_69 (by decide) rfl rfl ?_
            rw [e1]
            refine v_aload_n (pc' := 72) dX3_readNumber_71 rfl rfl ?_
            refine v_iload (pc' := 74) dX3_readNumber_72 rfl rfl ?_
            refine v_iconst (pc' := 75) dX3_readNumber_74 kc_m1 rfl ?_
            refine v_icmp_eq (tgt := 98) (pc' := 78) dX3_readNumber_75 (by decide) rfl (fun c_75 => ?_) (fun c_75 => ?_)
            · exact absurd c_75 (nI_m1 (by omega))
            · refine v_iload (pc' := 80) dX3_readNumber_78 rfl rfl ?_
              refine v_iload (pc' := 82) dX3_readNumber_80 rfl rfl ?_
              refine v_imul (pc' := 83) dX3_readNumber_82 rfl ?_
              refine v_iload_n (pc' := 84) dX3_readNumber_83 rfl rfl ?_
              rw [e2]
              refine v_icmp_gt (tgt := 98) (pc' := 87) dX3_readNumber_84 (by decide) rfl (fun c_84 => ?_) (fun c_84 => ?_)
              · have hp' : p_rn T n lo hi d 0 k = (none, k1) := by
                  rw [← hp, p_rn, hg]
                  exact if_pos (Or.inl ((nI_ltI (by omega) (by omega)).mp c_84))
                refine v_iconst (pc' := 99) dX3_readNumber_98 kc_1 rfl ?_
                refine v_goto (tgt := 103) dX3_readNumber_99 (by decide) ?_
                refine p_X3_22 (pc' := 106) rfl rfl rfl dX3_readNumber_103 (by assumption) rfl ?_
                refine v_aload_n (pc' := 107) dX3_readNumber_106 rfl rfl ?_
                refine g_X3_22 (pc' := 110) rfl dX3_readNumber_107 (by assumption) rfl ?_
                first | rw [show z_up I1 a 3 1 a 3 = 1 by rw [z_up_row, z_row_at, pk_us]] | rw [show z_up I1 a 3 0 a 3 = 0 by rw [z_up_row, z_row_at, pk_us]]
                refine v_if_ne (tgt := 123) (pc' := 113) dX3_readNumber_110 (by decide) rfl (fun c_110 => ?_) (fun c_110 => ?_)
                · refine v_iinc6 (pc' := 126) dX3_readNumber_123 (by decide) rfl kc_1 (nI_1 j) rfl ?_
                  refine v_goto (tgt := 31) dX3_readNumber_126 (by decide) ?_
                  first
                    | exact wl (j + 1) _ _ _ k1 _ rfl (hF.tr (FrN.up (by omega))) (by rw [z_up_row, z_row_at, pk_un (by omega)]; exact hat1) (by rw [z_up_row, z_row_at, pk_us]) hp'
                    | exact absurd c_110 (by decide)
                    | exact absurd rfl c_110
                    | exact ih (j + 1) (v * 10 + g) (k1 + 1) _ _ rfl (by omega) ((hF.tr (FrN.up (by omega))).tr (FrN.up (by omega))) (by rw [z_up_row, z_row_at, pk_us]) (by simp (disch := omega) only [z_up_row, z_row_row, z_row_at, pk_us, pk_un]) hv' (by omega) (by omega) hp'
                · refine v_aload_n (pc' := 114) dX3_readNumber_113 rfl rfl ?_
                  refine v_dup (pc' := 115) dX3_readNumber_114 rfl rfl ?_
                  refine g_X3_19 (pc' := 118) rfl dX3_readNumber_115 (by assumption) rfl ?_
                  first | rw [show z_up I1 a 3 0 a 2 = nI k1 by rw [z_up_row, z_row_at, pk_un (by omega)]; exact hat1] | skip
                  refine v_iconst (pc' := 119) dX3_readNumber_118 kc_1 rfl ?_
                  refine v_iadd (pc' := 120) dX3_readNumber_119 rfl ?_
                  first | rw [nI_1] | skip
                  refine p_X3_19 (pc' := 123) rfl dX3_readNumber_120 (by assumption) rfl ?_
                  refine v_iinc6 (pc' := 126) dX3_readNumber_123 (by decide) rfl kc_1 (nI_1 j) rfl ?_
                  refine v_goto (tgt := 31) dX3_readNumber_126 (by decide) ?_
                  first
                    | exact wl (j + 1) _ _ _ k1 _ rfl (hF.tr (FrN.up (by omega))) (by rw [z_up_row, z_row_at, pk_un (by omega)]; exact hat1) (by rw [z_up_row, z_row_at, pk_us]) hp'
                    | exact absurd c_110 (by decide)
                    | exact absurd rfl c_110
                    | exact ih (j + 1) (v * 10 + g) (k1 + 1) _ _ rfl (by omega) ((hF.tr (FrN.up (by omega))).tr (FrN.up (by omega))) (by rw [z_up_row, z_row_at, pk_us]) (by simp (disch := omega) only [z_up_row, z_row_row, z_row_at, pk_us, pk_un]) hv' (by omega) (by omega) hp'
              · rw [nI_ltI (by omega) (by omega)] at c_84
                refine v_iload (pc' := 89) dX3_readNumber_87 rfl rfl ?_
                refine v_iconst (pc' := 90) dX3_readNumber_89 kc_1 rfl ?_
                refine v_iadd (pc' := 91) dX3_readNumber_90 rfl ?_
                rw [nI_1]
                refine v_iload (pc' := 93) dX3_readNumber_91 rfl rfl ?_
                refine v_imul (pc' := 94) dX3_readNumber_93 rfl ?_
                skip
                refine v_iload_n (pc' := 95) dX3_readNumber_94 rfl rfl ?_
                rw [e3]
                refine v_icmp_gt (tgt := 102) (pc' := 98) dX3_readNumber_95 (by decide) rfl (fun c_95 => ?_) (fun c_95 => ?_)
                · rw [nI_ltI (by omega) (by omega)] at c_95
                  have hp' : p_rn T n lo hi n9 (v * 10 + g) (k1 + 1) = p_rn T n lo hi d 0 k := by
                    rw [← hp, p_rn, hg]
                    exact (if_neg (by omega)).symm
                  have hv' : v * 10 + g ≤ 1000 := Nat.le_trans (Nat.le_mul_of_pos_right _ (Nat.pow_pos (by omega))) (Nat.le_trans (by omega : (v * 10 + g) * 10 ^ n9 ≤ hi) (by omega))
                  refine v_iconst (pc' := 103) dX3_readNumber_102 kc_0 rfl ?_
                  refine p_X3_22 (pc' := 106) rfl rfl rfl dX3_readNumber_103 (by assumption) rfl ?_
                  refine v_aload_n (pc' := 107) dX3_readNumber_106 rfl rfl ?_
                  refine g_X3_22 (pc' := 110) rfl dX3_readNumber_107 (by assumption) rfl ?_
                  first | rw [show z_up I1 a 3 1 a 3 = 1 by rw [z_up_row, z_row_at, pk_us]] | rw [show z_up I1 a 3 0 a 3 = 0 by rw [z_up_row, z_row_at, pk_us]]
                  refine v_if_ne (tgt := 123) (pc' := 113) dX3_readNumber_110 (by decide) rfl (fun c_110 => ?_) (fun c_110 => ?_)
                  · refine v_iinc6 (pc' := 126) dX3_readNumber_123 (by decide) rfl kc_1 (nI_1 j) rfl ?_
                    refine v_goto (tgt := 31) dX3_readNumber_126 (by decide) ?_
                    first
                      | exact wl (j + 1) _ _ _ k1 _ rfl (hF.tr (FrN.up (by omega))) (by rw [z_up_row, z_row_at, pk_un (by omega)]; exact hat1) (by rw [z_up_row, z_row_at, pk_us]) hp'
                      | exact absurd c_110 (by decide)
                      | exact absurd rfl c_110
                      | exact ih (j + 1) (v * 10 + g) (k1 + 1) _ _ rfl (by omega) ((hF.tr (FrN.up (by omega))).tr (FrN.up (by omega))) (by rw [z_up_row, z_row_at, pk_us]) (by simp (disch := omega) only [z_up_row, z_row_row, z_row_at, pk_us, pk_un]) hv' (by omega) (by omega) hp'
                  · refine v_aload_n (pc' := 114) dX3_readNumber_113 rfl rfl ?_
                    refine v_dup (pc' := 115) dX3_readNumber_114 rfl rfl ?_
                    refine g_X3_19 (pc' := 118) rfl dX3_readNumber_115 (by assumption) rfl ?_
                    first | rw [show z_up I1 a 3 0 a 2 = nI k1 by rw [z_up_row, z_row_at, pk_un (by omega)]; exact hat1] | skip
                    refine v_iconst (pc' := 119) dX3_readNumber_118 kc_1 rfl ?_
                    refine v_iadd (pc' := 120) dX3_readNumber_119 rfl ?_
                    first | rw [nI_1] | skip
                    refine p_X3_19 (pc' := 123) rfl dX3_readNumber_120 (by assumption) rfl ?_
                    refine v_iinc6 (pc' := 126) dX3_readNumber_123 (by decide) rfl kc_1 (nI_1 j) rfl ?_
                    refine v_goto (tgt := 31) dX3_readNumber_126 (by decide) ?_
                    first
                      | exact wl (j + 1) _ _ _ k1 _ rfl (hF.tr (FrN.up (by omega))) (by rw [z_up_row, z_row_at, pk_un (by omega)]; exact hat1) (by rw [z_up_row, z_row_at, pk_us]) hp'
                      | exact absurd c_110 (by decide)
                      | exact absurd rfl c_110
                      | exact ih (j + 1) (v * 10 + g) (k1 + 1) _ _ rfl (by omega) ((hF.tr (FrN.up (by omega))).tr (FrN.up (by omega))) (by rw [z_up_row, z_row_at, pk_us]) (by simp (disch := omega) only [z_up_row, z_row_row, z_row_at, pk_us, pk_un]) hv' (by omega) (by omega) hp'
                · rw [nI_ltI (by omega) (by omega)] at c_95
                  have hp' : p_rn T n lo hi d 0 k = (none, k1) := by
                    rw [← hp, p_rn, hg]
                    exact if_pos (Or.inr (by omega))
                  refine v_iconst (pc' := 99) dX3_readNumber_98 kc_1 rfl ?_
                  refine v_goto (tgt := 103) dX3_readNumber_99 (by decide) ?_
                  refine p_X3_22 (pc' := 106) rfl rfl rfl dX3_readNumber_103 (by assumption) rfl ?_
                  refine v_aload_n (pc' := 107) dX3_readNumber_106 rfl rfl ?_
                  refine g_X3_22 (pc' := 110) rfl dX3_readNumber_107 (by assumption) rfl ?_
                  first | rw [show z_up I1 a 3 1 a 3 = 1 by rw [z_up_row, z_row_at, pk_us]] | rw [show z_up I1 a 3 0 a 3 = 0 by rw [z_up_row, z_row_at, pk_us]]
                  refine v_if_ne (tgt := 123) (pc' := 113) dX3_readNumber_110 (by decide) rfl (fun c_110 => ?_) (fun c_110 => ?_)
                  · refine v_iinc6 (pc' := 126) dX3_readNumber_123 (by decide) rfl kc_1 (nI_1 j) rfl ?_
                    refine v_goto (tgt := 31) dX3_readNumber_126 (by decide) ?_
                    first
                      | exact wl (j + 1) _ _ _ k1 _ rfl (hF.tr (FrN.up (by omega))) (by rw [z_up_row, z_row_at, pk_un (by omega)]; exact hat1) (by rw [z_up_row, z_row_at, pk_us]) hp'
                      | exact absurd c_110 (by decide)
                      | exact absurd rfl c_110
                      | exact ih (j + 1) (v * 10 + g) (k1 + 1) _ _ rfl (by omega) ((hF.tr (FrN.up (by omega))).tr (FrN.up (by omega))) (by rw [z_up_row, z_row_at, pk_us]) (by simp (disch := omega) only [z_up_row, z_row_row, z_row_at, pk_us, pk_un]) hv' (by omega) (by omega) hp'
                  · refine v_aload_n (pc' := 114) dX3_readNumber_113 rfl rfl ?_
                    refine v_dup (pc' := 115) dX3_readNumber_114 rfl rfl ?_
                    refine g_X3_19 (pc' := 118) rfl dX3_readNumber_115 (by assumption) rfl ?_
                    first | rw [show z_up I1 a 3 0 a 2 = nI k1 by rw [z_up_row, z_row_at, pk_un (by omega)]; exact hat1] | skip
                    refine v_iconst (pc' := 119) dX3_readNumber_118 kc_1 rfl ?_
                    refine v_iadd (pc' := 120) dX3_readNumber_119 rfl ?_
                    first | rw [nI_1] | skip
                    refine p_X3_19 (pc' := 123) rfl dX3_readNumber_120 (by assumption) rfl ?_
                    refine v_iinc6 (pc' := 126) dX3_readNumber_123 (by decide) rfl kc_1 (nI_1 j) rfl ?_
                    refine v_goto (tgt := 31) dX3_readNumber_126 (by decide) ?_
                    first
                      | exact wl (j + 1) _ _ _ k1 _ rfl (hF.tr (FrN.up (by omega))) (by rw [z_up_row, z_row_at, pk_un (by omega)]; exact hat1) (by rw [z_up_row, z_row_at, pk_us]) hp'
                      | exact absurd c_110 (by decide)
                      | exact absurd rfl c_110
                      | exact ih (j + 1) (v * 10 + g) (k1 + 1) _ _ rfl (by omega) ((hF.tr (FrN.up (by omega))).tr (FrN.up (by omega))) (by rw [z_up_row, z_row_at, pk_us]) (by simp (disch := omega) only [z_up_row, z_row_row, z_row_at, pk_us, pk_un]) hv' (by omega) (by omega) hp'
  have start : z_V E l mX3_readNumber (z_rm 3 0 0) 0 0 (z_q (fun v' G' I' sz' => ∃ x, v' = some (.int x) ∧ G' = G ∧ sz' = sz ∧ (FrN I I' a ∧ I' a 2 = nI (p_rn T n lo hi d 0 k).2 ∧ I' a 3 = z_b (!(p_rn T n lo hi d 0 k).1.isSome) ∧ x = rv (p_rn T n lo hi d 0 k).1))) 0 0 G I sz 28 [some (.ref a), some (.int (nI d)), some (.int (nI lo)), some (.int (nI hi)), some (.int 0), some (.int (nI (10 ^ d))), some (.int (nI d)), none] [] := by
    refine v_iconst (pc' := 29) dX3_readNumber_28 kc_0 rfl ?_
    refine v_istore6 (pc' := 31) dX3_readNumber_29 (by decide) rfl rfl ?_
    exact loop d 0 0 k I none rfl (by omega) FrN.rf hat hw (by omega) hk (by omega) rfl
  have loop1 : ∀ (n9 j : Nat), d = j + n9 → z_V E l mX3_readNumber (z_rm 3 0 0) 0 0 (z_q (fun v' G' I' sz' => ∃ x, v' = some (.int x) ∧ G' = G ∧ sz' = sz ∧ (FrN I I' a ∧ I' a 2 = nI (p_rn T n lo hi d 0 k).2 ∧ I' a 3 = z_b (!(p_rn T n lo hi d 0 k).1.isSome) ∧ x = rv (p_rn T n lo hi d 0 k).1))) 0 0 G I sz 9 [some (.ref a), some (.int (nI d)), some (.int (nI lo)), some (.int (nI hi)), some (.int 0), some (.int (nI (10 ^ j))), some (.int (nI j)), none] [] := by
    intro n9
    induction n9 with
    | zero =>
      intro j hj
      refine v_iload (pc' := 11) dX3_readNumber_9 rfl rfl ?_
      refine v_iload_n (pc' := 12) dX3_readNumber_11 rfl rfl ?_
      refine v_icmp_ge (tgt := 28) (pc' := 15) dX3_readNumber_12 (by decide) rfl (fun c_12 => ?_) (fun c_12 => ?_)
      · rw [show j = d by omega]
        exact start
      · exact absurd (nI_le (by omega) (by omega)) c_12
    | succ n9 ih =>
      intro j hj
      refine v_iload (pc' := 11) dX3_readNumber_9 rfl rfl ?_
      refine v_iload_n (pc' := 12) dX3_readNumber_11 rfl rfl ?_
      refine v_icmp_ge (tgt := 28) (pc' := 15) dX3_readNumber_12 (by decide) rfl (fun c_12 => ?_) (fun c_12 => ?_)
      · exact absurd c_12 (nI_ge (by omega) (by omega))
      · refine v_iload (pc' := 17) dX3_readNumber_15 rfl rfl ?_
        refine v_bipush (pc' := 19) dX3_readNumber_17 kb_10 rfl ?_
        refine v_imul (pc' := 20) dX3_readNumber_19 rfl ?_
        refine v_istore5 (pc' := 22) dX3_readNumber_20 (by decide) rfl rfl ?_
        refine v_iinc6 (pc' := 25) dX3_readNumber_22 (by decide) rfl kc_1 (nI_1 j) rfl ?_
        refine v_goto (tgt := 9) dX3_readNumber_25 (by decide) ?_
        rw [show (nI (10 ^ j) * 10 : Int32) = nI (10 ^ (j + 1)) by rw [Nat.pow_succ]; exact pk_mul _ 10]
        exact ih (j + 1) (by omega)
  refine z_Ct.of hl pn_X3 [some (.ref a), some (.int (nI d)), some (.int (nI lo)), some (.int (nI hi)), none, none, none, none] rfl (Nat.le_of_ble_eq_true rfl) ?_
  refine v_iconst (pc' := 1) dX3_readNumber_0 kc_0 rfl ?_
  refine v_istore4 (pc' := 3) dX3_readNumber_1 (by decide) rfl rfl ?_
  refine v_iconst (pc' := 4) dX3_readNumber_3 kc_1 rfl ?_
  refine v_istore5 (pc' := 6) dX3_readNumber_4 (by decide) rfl rfl ?_
  refine v_iconst (pc' := 7) dX3_readNumber_6 kc_0 rfl ?_
  refine v_istore6 (pc' := 9) dX3_readNumber_7 (by decide) rfl rfl ?_
  exact loop1 d 0 (by omega)
set_option maxRecDepth 20000 in
set_option maxHeartbeats 4000000 in
theorem c3_readNumberW (hl : l.stackTraces = false) (hS : ShT E G a) (hX : AbsX I a T n) (hw : I a 3 = 1) (d : Nat) (hd : d ≤ 3) (lo3 hi3 : Int32) {d3 : Int32} (hd3 : d3 = nI d) : z_CI E l mX3_readNumber 3 [.ref a, .int d3, .int lo3, .int hi3] G I sz (fun x I' => I' = I ∧ x = -1) := by
  obtain ⟨h0, h1⟩ := id hS
  obtain ⟨hn, gn, gc⟩ := id hX
  subst hd3
  have wl : z_V E l mX3_readNumber (z_rm 3 0 0) 0 0 (z_q (fun v' G' I' sz' => ∃ x, v' = some (.int x) ∧ G' = G ∧ sz' = sz ∧ (I' = I ∧ x = -1))) 0 0 G I sz 31 [some (.ref a), some (.int (nI d)), some (.int lo3), some (.int hi3), some (.int 0), some (.int (nI (10 ^ d))), some (.int 0), none] [] := by
    refine v_iload (pc' := 33) dX3_readNumber_31 rfl rfl ?_
    refine v_iload_n (pc' := 34) dX3_readNumber_33 rfl rfl ?_
    refine v_icmp_ge (tgt := 129) (pc' := 37) dX3_readNumber_34 (by decide) rfl (fun c_34 => ?_) (fun c_34 => ?_)
    · refine v_aload_n (pc' := 130) dX3_readNumber_129 rfl rfl ?_
      refine g_X3_22 (pc' := 133) rfl dX3_readNumber_130 (by assumption) rfl ?_
      rw [hw]
      refine v_if_eq (tgt := 140) (pc' := 136) dX3_readNumber_133 (by decide) rfl (fun c_133 => ?_) (fun c_133 => ?_)
      · exact absurd c_133 (by decide)
      · refine v_iconst (pc' := 137) dX3_readNumber_136 kc_m1 rfl ?_
        refine v_goto (tgt := 142) dX3_readNumber_137 (by decide) ?_
        exact v_iret dX3_readNumber_142 rfl (Nat.le_refl _) (Nat.le_refl _) ⟨_, rfl, rfl, rfl, rfl, rfl⟩
    · refine v_aload_n (pc' := 38) dX3_readNumber_37 rfl rfl ?_
      refine g_X3_22 (pc' := 41) rfl dX3_readNumber_38 (by assumption) rfl ?_
      rw [hw]
      refine v_if_ne (tgt := 129) (pc' := 44) dX3_readNumber_41 (by decide) rfl (fun c_41 => ?_) (fun c_41 => ?_)
      · refine v_aload_n (pc' := 130) dX3_readNumber_129 rfl rfl ?_
        refine g_X3_22 (pc' := 133) rfl dX3_readNumber_130 (by assumption) rfl ?_
        rw [hw]
        refine v_if_eq (tgt := 140) (pc' := 136) dX3_readNumber_133 (by decide) rfl (fun c_133 => ?_) (fun c_133 => ?_)
        · exact absurd c_133 (by decide)
        · refine v_iconst (pc' := 137) dX3_readNumber_136 kc_m1 rfl ?_
          refine v_goto (tgt := 142) dX3_readNumber_137 (by decide) ?_
          exact v_iret dX3_readNumber_142 rfl (Nat.le_refl _) (Nat.le_refl _) ⟨_, rfl, rfl, rfl, rfl, rfl⟩
      · exact absurd c_41 (by decide)
  have loop1 : ∀ (n9 j : Nat), d = j + n9 → z_V E l mX3_readNumber (z_rm 3 0 0) 0 0 (z_q (fun v' G' I' sz' => ∃ x, v' = some (.int x) ∧ G' = G ∧ sz' = sz ∧ (I' = I ∧ x = -1))) 0 0 G I sz 9 [some (.ref a), some (.int (nI d)), some (.int lo3), some (.int hi3), some (.int 0), some (.int (nI (10 ^ j))), some (.int (nI j)), none] [] := by
    intro n9
    induction n9 with
    | zero =>
      intro j hj
      refine v_iload (pc' := 11) dX3_readNumber_9 rfl rfl ?_
      refine v_iload_n (pc' := 12) dX3_readNumber_11 rfl rfl ?_
      refine v_icmp_ge (tgt := 28) (pc' := 15) dX3_readNumber_12 (by decide) rfl (fun c_12 => ?_) (fun c_12 => ?_)
      · refine v_iconst (pc' := 29) dX3_readNumber_28 kc_0 rfl ?_
        refine v_istore6 (pc' := 31) dX3_readNumber_29 (by decide) rfl rfl ?_
        rw [show j = d by omega]
        exact wl
      · exact absurd (nI_le (by omega) (by omega)) c_12
    | succ n9 ih =>
      intro j hj
      refine v_iload (pc' := 11) dX3_readNumber_9 rfl rfl ?_
      refine v_iload_n (pc' := 12) dX3_readNumber_11 rfl rfl ?_
      refine v_icmp_ge (tgt := 28) (pc' := 15) dX3_readNumber_12 (by decide) rfl (fun c_12 => ?_) (fun c_12 => ?_)
      · exact absurd c_12 (nI_ge (by omega) (by omega))
      · refine v_iload (pc' := 17) dX3_readNumber_15 rfl rfl ?_
        refine v_bipush (pc' := 19) dX3_readNumber_17 kb_10 rfl ?_
        refine v_imul (pc' := 20) dX3_readNumber_19 rfl ?_
        refine v_istore5 (pc' := 22) dX3_readNumber_20 (by decide) rfl rfl ?_
        refine v_iinc6 (pc' := 25) dX3_readNumber_22 (by decide) rfl kc_1 (nI_1 j) rfl ?_
        refine v_goto (tgt := 9) dX3_readNumber_25 (by decide) ?_
        rw [show (nI (10 ^ j) * 10 : Int32) = nI (10 ^ (j + 1)) by rw [Nat.pow_succ]; exact pk_mul _ 10]
        exact ih (j + 1) (by omega)
  refine z_Ct.of hl pn_X3 [some (.ref a), some (.int (nI d)), some (.int lo3), some (.int hi3), none, none, none, none] rfl (Nat.le_of_ble_eq_true rfl) ?_
  refine v_iconst (pc' := 1) dX3_readNumber_0 kc_0 rfl ?_
  refine v_istore4 (pc' := 3) dX3_readNumber_1 (by decide) rfl rfl ?_
  refine v_iconst (pc' := 4) dX3_readNumber_3 kc_1 rfl ?_
  refine v_istore5 (pc' := 6) dX3_readNumber_4 (by decide) rfl rfl ?_
  refine v_iconst (pc' := 7) dX3_readNumber_6 kc_0 rfl ?_
  refine v_istore6 (pc' := 9) dX3_readNumber_7 (by decide) rfl rfl ?_
  exact loop1 d 0 (by omega)
end TEXT
