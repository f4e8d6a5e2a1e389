/-! PURE ROWS about states: who takes a stripe, whom a bad stripe hurts; a tick keeps what holds of every row -/
theorem nI_m1 {n : Nat} (h : n < 2 ^ 31) : ¬ nI n = -1 := by
  intro q
  have h1 := nI_toInt h
  rw [q] at h1
  have h2 : ((-1 : Int32)).toInt = -1 := by decide
  omega
theorem nI_jt {x : Int32} {n : Nat} (h : x = nI n) (hn : n < 2 ^ 31) : x.toNatClampNeg = n := by rw [h]; exact nI_clamp hn
theorem p_tkf_cases (r : zR) (s : Int32) : ∀ (n t : Nat), p_tkf r s n t = -1 ∨ ∃ u, t ≤ u ∧ u < t + n ∧ p_tkf r s n t = nI u ∧ p_takes r u s = true
  | 0, t => Or.inl rfl
  | n + 1, t => by
    by_cases h : p_takes r t s = true
    · exact Or.inr ⟨t, Nat.le_refl _, by omega, by simp [p_tkf, h], h⟩
    · rcases p_tkf_cases r s n (t + 1) with h1 | ⟨u, h1, h2, h3, h4⟩
      · left; simp [p_tkf, h, h1]
      · exact Or.inr ⟨u, by omega, by omega, by simp [p_tkf, h, h3], h4⟩
theorem p_taker_cases (r : zR) (s : Int32) : p_taker r s = -1 ∨ ∃ u, u < cnt r ∧ p_taker r s = nI u ∧ p_takes r u s = true := by
  rcases p_tkf_cases r s (cnt r) 0 with h | ⟨u, h1, h2, h3, h4⟩
  · exact Or.inl h
  · exact Or.inr ⟨u, by omega, h3, h4⟩
theorem p_comer_cases (r : zR) (s : Int32) : p_comer r s = -1 ∨ (p_comer r s = r 5 ∧ ¬ r 5 = -1 ∧ ¬ tf r (jt r) 4 = 1 ∧ r 6 ≤ s ∧ s < r 6 + tf r (jt r) 0) := by
  unfold p_comer
  split
  · rename_i h
    simp only [p_isMove, Bool.and_eq_true, decide_eq_true_eq] at h
    exact Or.inr ⟨rfl, h.1.1, h.1.2, h.2.1, h.2.2⟩
  · exact Or.inl rfl
theorem WF.job {r : zR} (h : WF r) (hj : ¬ r 5 = -1) : jt r < cnt r ∧ r 5 = nI (jt r) ∧ jt r < 6 := by
  rcases h.2.2.1 with h1 | h1
  · exact absurd h1 hj
  · exact ⟨h1.1, h1.2.1, by have := h.1.1; have := h1.1; omega⟩
theorem p_hurt_cases {r : zR} (hW : WF r) (s : Int32) : p_hurt r s = -1 ∨ ∃ u, u < cnt r ∧ u < 6 ∧ p_hurt r s = nI u := by
  have h6 := hW.1.1
  unfold p_hurt
  split
  · rcases p_taker_cases r s with h | ⟨u, h1, h2, -⟩
    · exact Or.inl h
    · exact Or.inr ⟨u, h1, by omega, h2⟩
  · split
    · rename_i h
      rcases p_comer_cases r s with h1 | ⟨h1, h2, -⟩
      · exact Or.inl h1
      · have := hW.job h2
        exact Or.inr ⟨jt r, this.1, by omega, by rw [h1]; exact this.2.1⟩
    · exact Or.inl rfl
theorem upd_self (r : zR) (k : Nat) : upd r k (r k) = r := by
  funext j
  by_cases h : j = k
  · subst h; simp [upd]
  · simp [upd, h]
theorem tf_upd_lo (r : zR) {k t w : Nat} (x : Int32) (h : k < 23) : tf (upd r k x) t w = tf r t w := by
  unfold tf
  exact pk_un (by omega)
theorem tf_upd_eq (r : zR) (t w : Nat) (x : Int32) : tf (upd r (23 + 7 * t + w) x) t w = x := pk_us
theorem tf_upd_w (r : zR) {t w w' : Nat} (x : Int32) (h : w' ≠ w) : tf (upd r (23 + 7 * t + w) x) t w' = tf r t w' := pk_un (by omega)
theorem tf_upd_t (r : zR) {t u w w' : Nat} (x : Int32) (h : u ≠ t) (hw : w < 7) (hw' : w' < 7) : tf (upd r (23 + 7 * t + w) x) u w' = tf r u w' := pk_un (by omega)
theorem upd_hi (r : zR) {k t w : Nat} (x : Int32) (h : k < 23) : upd r (23 + 7 * t + w) x k = r k := pk_un (by omega)
theorem p_load_lo (r : zR) {k : Nat} (hk : k = 0 ∨ k = 1 ∨ k = 3 ∨ k = 4 ∨ k = 6 ∨ (8 ≤ k ∧ k < 23)) : p_load r k = r k := by
  unfold p_load p_finish
  split
  · rfl
  · split
    · exact pk_un (by omega)
    · split <;> simp (disch := omega) only [pk_un]
theorem p_work_lo (sv : Bool) (r : zR) (t : Nat) {k : Nat} (hk : k < 23) (h4 : k ≠ 4) : p_work sv r t k = r k := by
  unfold p_work
  split
  · simp (disch := omega) only [pk_un]
  · rfl
theorem p_works_lo (sv : Bool) {k : Nat} (hk : k < 23) (h4 : k ≠ 4) : ∀ (n t : Nat) (r : zR), p_works sv n t r k = r k
  | 0, _, _ => rfl
  | n + 1, t, r => by
    rw [p_works, p_works_lo sv hk h4 n (t + 1), p_work_lo sv r t hk h4]
theorem I32_nI {x : Int32} {n : Nat} (h0 : 0 ≤ x.toInt) (h1 : x.toInt < n) : ∃ j, j < n ∧ x = nI j := by
  refine ⟨x.toInt.toNat, by omega, Int32.toInt_inj.mp ?_⟩
  have h2 : x.toInt < 2 ^ 31 := by have := Int32.toInt_lt x; omega
  rw [nI_toInt (by omega)]
  omega
theorem p_isTask_nI {r : zR} (hW : WF r) {t : Int32} (h : p_isTask r t = true) : ∃ u, u < cnt r ∧ t = nI u := by
  obtain ⟨⟨h6, h0⟩, -⟩ := hW
  simp only [p_isTask, z_in, Bool.and_eq_true, decide_eq_true_eq] at h
  rw [h0] at h
  obtain ⟨h1, h2⟩ := h
  rw [Int32.le_iff_toInt_le] at h1 h2
  have e0 : (0 : Int32).toInt = 0 := by decide
  refine I32_nI (by omega) ?_
  generalize cnt r = c at h6 h2
  have : c = 0 ∨ c = 1 ∨ c = 2 ∨ c = 3 ∨ c = 4 ∨ c = 5 ∨ c = 6 := by omega
  rcases this with rfl | rfl | rfl | rfl | rfl | rfl | rfl
  · have e : (nI 0 - 1 : Int32).toInt = -1 := by decide
    omega
  · have e : (nI 1 - 1 : Int32).toInt = 0 := by decide
    omega
  · have e : (nI 2 - 1 : Int32).toInt = 1 := by decide
    omega
  · have e : (nI 3 - 1 : Int32).toInt = 2 := by decide
    omega
  · have e : (nI 4 - 1 : Int32).toInt = 3 := by decide
    omega
  · have e : (nI 5 - 1 : Int32).toInt = 4 := by decide
    omega
  · have e : (nI 6 - 1 : Int32).toInt = 5 := by decide
    omega
theorem p_isTask_of {r : zR} (hW : WF r) {u : Nat} (h : u < cnt r) : p_isTask r (nI u) = true := by
  obtain ⟨⟨h6, h0⟩, -⟩ := hW
  simp only [p_isTask, z_in, Bool.and_eq_true, decide_eq_true_eq]
  rw [h0]
  obtain ⟨c, hc⟩ : ∃ c, cnt r = c + 1 := ⟨cnt r - 1, by omega⟩
  rw [hc, nI_pred]
  exact ⟨nI_pos' (by omega), nI_le (by omega) (by omega)⟩
theorem p_isStripe_nI {s : Int32} (h : p_isStripe s = true) : ∃ u, u < 12 ∧ s = nI u := by
  simp only [p_isStripe, z_in, Bool.and_eq_true, decide_eq_true_eq] at h
  obtain ⟨h1, h2⟩ := h
  rw [Int32.le_iff_toInt_le] at h1 h2
  have e0 : (0 : Int32).toInt = 0 := by decide
  have e1 : (11 : Int32).toInt = 11 := by decide
  exact I32_nI (by omega) (by omega)
theorem p_isStripe_of {u : Nat} (h : u < 12) : p_isStripe (nI u) = true := by
  simp only [p_isStripe, z_in, Bool.and_eq_true, decide_eq_true_eq]
  exact ⟨nI_pos' (by omega), nI_le (b := 11) (by omega) (by omega)⟩
theorem WF_w {r : zR} (hW : WF r) {t : Nat} (ht : t < cnt r) : ∃ w, 1 ≤ w ∧ w ≤ 6 ∧ tf r t 0 = nI w := by
  obtain ⟨⟨h1, h2⟩, -⟩ := hW.2.1 t ht
  obtain ⟨j, hj, e⟩ := I32_nI (x := tf r t 0) (n := 7) (by unfold tI at h1; omega) (by unfold tI at h2; omega)
  refine ⟨j, ?_, by omega, e⟩
  unfold tI at h1
  rw [e, nI_toInt (by omega)] at h1
  omega
