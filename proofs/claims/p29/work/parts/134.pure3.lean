theorem I32_mulN {a b : Nat} : nI a * nI b = nI (a * b) := pk_mul a b
theorem WF_bring {r : zR} (h : WF r) {t s : Nat} (ht : t < cnt r) (hs : s < 12) (h5 : r 5 = -1) (hsw : (s : Int) + tI r t 0 ≤ 12) (hdis : ∀ u, u < cnt r → u ≠ t → tI r u 5 = -1 ∨ tI r u 5 + tI r u 0 ≤ s ∨ (s : Int) + tI r t 0 ≤ tI r u 5) : WF (p_bring r t (nI s)) := by
  obtain ⟨w, w1, w6, ew⟩ := WF_w h ht
  have hcc : cnt r ≤ 6 := h.1.1
  obtain ⟨⟨e8a, e8b⟩, ⟨e9a, e9b⟩, e10⟩ := h.2.2.2.2.1
  obtain ⟨m, hm, em⟩ := I32_nI (x := r 8) (n := 10) (by omega) (by omega)
  obtain ⟨k, hk, ek⟩ := I32_nI (x := r 9) (n := 21) (by omega) (by omega)
  rw [em, nI_toInt (by omega)] at e8a
  have hmw : 1 ≤ m * w ∧ m * w ≤ 54 := ⟨Nat.mul_pos (by omega) (by omega), by
    have := Nat.mul_le_mul (show m ≤ 9 by omega) w6
    omega⟩
  have eL : (r 8 * tf r t 0).toInt = (m * w : Nat) := by rw [em, ew, I32_mulN, nI_toInt (by omega)]
  have eL2 : (r 8 * tf r t 0 + r 9).toInt = (m * w + k : Nat) := by rw [em, ew, ek, I32_mulN, nI_add, nI_toInt (by omega)]
  have esI : (nI s).toInt = s := nI_toInt (by omega)
  have t0 : ∀ u, tf (p_bring r t (nI s)) u 0 = tf r u 0 := fun u => by
    by_cases e : u = t
    · subst e; simp only [p_bring, p_br1]; split <;> (try split) <;> simp (disch := omega) only [tf_upd_w, tf_upd_lo]
    · simp only [p_bring, p_br1]; split <;> (try split) <;> simp (disch := omega) only [tf_upd_t, tf_upd_lo]
  have t1 : ∀ u x, u ≠ t → x < 7 → tf (p_bring r t (nI s)) u x = tf r u x := fun u x e hx => by
    simp only [p_bring, p_br1]; split <;> (try split) <;> simp (disch := omega) only [tf_upd_t, tf_upd_lo]
  have tv : ∀ x, x ≠ 4 → x ≠ 5 → x < 7 → tf (p_bring r t (nI s)) t x = tf r t x := fun x e4 e5 hx => by
    simp only [p_bring, p_br1]; split <;> (try split) <;> simp (disch := omega) only [tf_upd_w, tf_upd_lo]
  have lo : ∀ j, j < 23 → j ≠ 5 → j ≠ 6 → j ≠ 7 → p_bring r t (nI s) j = r j := fun j a b c d => by
    simp only [p_bring, p_br1]; split <;> (try split) <;> simp (disch := omega) only [pk_un]
  have l5 : p_bring r t (nI s) 5 = nI t := by
    simp only [p_bring, p_br1]; split <;> (try split) <;> simp (disch := omega) only [pk_un, pk_us]
  have l6 : p_bring r t (nI s) 6 = nI s := by
    simp only [p_bring, p_br1]; split <;> (try split) <;> simp (disch := omega) only [pk_un, pk_us]
  have l7 : 1 ≤ (p_bring r t (nI s) 7).toInt ∧ (p_bring r t (nI s) 7).toInt ≤ 74 := by
    simp only [p_bring, p_br1]; split <;> (try split) <;> simp (disch := omega) only [pk_un, pk_us] <;> first | (rw [eL2]; omega) | (rw [eL]; omega)
  have hc : cnt (p_bring r t (nI s)) = cnt r := by unfold cnt; rw [lo 0 (by omega) (by omega) (by omega) (by omega)]
  have hjt : jt (p_bring r t (nI s)) = t := by unfold jt; rw [l5, nI_clamp (by omega)]
  -- the task's status and first stripe
  have t45 : (tf (p_bring r t (nI s)) t 4 = 1 ∧ tf (p_bring r t (nI s)) t 5 = nI s) ∨ ((tf (p_bring r t (nI s)) t 4 = 3 ∨ tf (p_bring r t (nI s)) t 4 = tf r t 4) ∧ tf (p_bring r t (nI s)) t 5 = tf r t 5 ∧ ¬ tf r t 4 = 0) := by
    by_cases a : tf r t 4 = 0
    · left
      simp only [p_bring, p_br1, if_pos a]
      constructor <;> simp (disch := omega) only [tf_upd_w, tf_upd_eq, tf_upd_lo]
    · right
      by_cases b : nI s - tf r t 5 < tf r t 0 ∧ -(nI s - tf r t 5) < tf r t 0
      · simp only [p_bring, p_br1, if_neg a, if_pos b]
        refine ⟨Or.inl ?_, ?_, a⟩ <;> simp (disch := omega) only [tf_upd_w, tf_upd_eq, tf_upd_lo]
      · simp only [p_bring, p_br1, if_neg a, if_neg b]
        refine ⟨Or.inr ?_, ?_, a⟩ <;> simp (disch := omega) only [tf_upd_lo]
  obtain ⟨⟨h6, h0⟩, ht', -, hb, hset, hd⟩ := h
  have wt := ht' t ht
  have ww : tI r t 0 = w := by unfold tI; rw [ew, nI_toInt (by omega)]
  have st : 1 ≤ tI (p_bring r t (nI s)) t 4 ∧ tI (p_bring r t (nI s)) t 4 ≤ 3 ∧ 0 ≤ tI (p_bring r t (nI s)) t 5 ∧ (tI (p_bring r t (nI s)) t 5 = s ∨ tI (p_bring r t (nI s)) t 5 = tI r t 5) ∧ tI (p_bring r t (nI s)) t 5 + tI r t 0 ≤ 12 := by
    rcases t45 with ⟨a, b⟩ | ⟨a, b, c⟩
    · have a' : tI (p_bring r t (nI s)) t 4 = 1 := by unfold tI; rw [a]; rfl
      have b' : tI (p_bring r t (nI s)) t 5 = s := by unfold tI; rw [b, esI]
      omega
    · have b' : tI (p_bring r t (nI s)) t 5 = tI r t 5 := tI_of b
      obtain ⟨-, -, -, w4, w5⟩ := wt
      have c' : ¬ tI r t 4 = 0 := fun q => c (Int32.toInt_inj.mp (by rw [i_0]; exact q))
      have a' : tI (p_bring r t (nI s)) t 4 = 3 ∨ tI (p_bring r t (nI s)) t 4 = tI r t 4 := by
        rcases a with a | a
        · left; unfold tI; rw [a]; rfl
        · right; exact tI_of a
      omega
  refine ⟨⟨by rw [hc]; exact h6, by rw [hc, lo 0 (by omega) (by omega) (by omega) (by omega)]; exact h0⟩, ?_, Or.inr ?_, ?_, ?_, ?_⟩
  · rw [hc]
    intro u hu
    by_cases e : u = t
    · subst e
      obtain ⟨a1, a2, a3, -, -⟩ := wt
      refine ⟨by rw [tI_of (t0 _)]; exact a1, by rw [tI_of (tv 1 (by omega) (by omega) (by omega))]; exact a2, by rw [tI_of (tv 2 (by omega) (by omega) (by omega))]; exact a3, by omega, Or.inr ?_⟩
      rw [tI_of (t0 _)]
      omega
    · unfold WFt
      rw [tI_of (t0 _), tI_of (t1 u 1 e (by omega)), tI_of (t1 u 2 e (by omega)), tI_of (t1 u 4 e (by omega)), tI_of (t1 u 5 e (by omega))]
      exact ht' u hu
  · unfold WFj
    rw [hjt, hc, l6, esI, tI_of (t0 _)]
    refine ⟨ht, l5, ⟨by omega, by omega⟩, l7, st.1, trivial, fun u hu hne => ?_⟩
    rw [tI_of (t0 u), tI_of (t1 u 5 hne (by omega))]
    exact hdis u hu hne
  · intro x hx; rw [lo _ (by omega) (by omega) (by omega) (by omega)]; exact hb x hx
  · rw [lo 8 (by omega) (by omega) (by omega) (by omega), lo 9 (by omega) (by omega) (by omega) (by omega), lo 10 (by omega) (by omega) (by omega) (by omega)]; exact hset
  · rw [hc]
    intro a b ha hb' hne
    rw [tI_of (t0 a), tI_of (t0 b)]
    by_cases ea : a = t
    · subst ea
      rw [tI_of (t1 b 5 (Ne.symm hne) (by omega))]
      have h1 := hdis b hb' (Ne.symm hne)
      have h2 := hd a b ha hb' hne
      obtain ⟨-, -, -, w4, w5⟩ := wt
      rcases st.2.2.2.1 with q | q <;> omega
    · by_cases eb : b = t
      · subst eb
        rw [tI_of (t1 a 5 hne (by omega))]
        have h1 := hdis a ha hne
        have h2 := hd a b ha hb' hne
        rcases st.2.2.2.1 with q | q <;> omega
      · rw [tI_of (t1 a 5 ea (by omega)), tI_of (t1 b 5 eb (by omega))]
        exact hd a b ha hb' hne
/-- what a job takes in all is no 'none' -/
theorem bringv_pos {r : zR} (h : WF r) {t : Nat} (ht : t < cnt r) : 1 ≤ (p_bringv r t).toInt ∧ (p_bringv r t).toInt ≤ 74 := by
  obtain ⟨w, w1, w6, ew⟩ := WF_w h ht
  obtain ⟨⟨e8a, e8b⟩, ⟨e9a, e9b⟩, e10⟩ := h.2.2.2.2.1
  obtain ⟨m, hm, em⟩ := I32_nI (x := r 8) (n := 10) (by omega) (by omega)
  obtain ⟨k, hk, ek⟩ := I32_nI (x := r 9) (n := 21) (by omega) (by omega)
  rw [em, nI_toInt (by omega)] at e8a
  have hmw : 1 ≤ m * w ∧ m * w ≤ 54 := ⟨Nat.mul_pos (by omega) (by omega), by
    have := Nat.mul_le_mul (show m ≤ 9 by omega) w6
    omega⟩
  unfold p_bringv
  split
  · rw [em, ew, I32_mulN, nI_toInt (by omega)]; omega
  · rw [em, ew, ek, I32_mulN, nI_add, nI_toInt (by omega)]; omega
/-- a task takes one of the stripes that it is brought to: as the class asks for it, and as the reference does -/
theorem apart_iff {r : zR} (h : WF r) {t s : Nat} (ht : t < cnt r) (hs : s < 12) (h4 : ¬ tf r t 4 = 0) : (¬ tf r t 5 = -1 ∧ tf r t 5 < nI s + tf r t 0 ∧ nI s < tf r t 5 + tf r t 0) ↔ (nI s - tf r t 5 < tf r t 0 ∧ -(nI s - tf r t 5) < tf r t 0) := by
  obtain ⟨w, w1, w6, ew⟩ := WF_w h ht
  obtain ⟨-, -, -, w4, w5⟩ := h.2.1 t ht
  have c' : ¬ tI r t 4 = 0 := fun q => h4 (Int32.toInt_inj.mp (by rw [i_0]; exact q))
  have ww : tI r t 0 = w := by unfold tI; rw [ew, nI_toInt (by omega)]
  obtain ⟨f, hf, ef⟩ := I32_nI (x := tf r t 5) (n := 12) (by unfold tI at *; omega) (by unfold tI at *; omega)
  rw [ew, ef, nI_add, nI_add, nI_ltI (by omega) (by omega), nI_ltI (by omega) (by omega), Int32.lt_iff_toInt_lt, Int32.lt_iff_toInt_lt, pk_sub_toInt (by omega) (by omega), nI_toInt (by omega)]
  have e1 : (-(nI s - nI f)).toInt = (f : Int) - s := by
    rw [Int32.neg_sub, pk_sub_toInt (by omega) (by omega)]
  rw [e1]
  constructor
  · rintro ⟨-, a, b⟩; omega
  · rintro ⟨a, b⟩; exact ⟨nI_m1 (by omega), by omega, by omega⟩
