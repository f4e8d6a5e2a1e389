/-! a stripe that turns bad -/
/-- a bad stripe is neither taken nor brought to -/
theorem bad_none {r : zR} (hW : WF r) (h : Hb r) {s : Nat} (hs : s < 12) (hb : ¬ r (11 + s) = 0) : p_taker r (nI s) = -1 ∧ p_comer r (nI s) = -1 := by
  constructor
  · rcases p_taker_cases r (nI s) with q | ⟨u, q1, -, q3⟩
    · exact q
    · exact absurd (h.2.2.1 u q1 s hs q3) hb
  · by_cases q : p_comer r (nI s) = -1
    · exact q
    · have hi := (comer_iff hW (nI s)).mp q
      rw [nI_toInt (by omega)] at hi
      exact absurd (h.2.2.2 hi.1 s hs hi.2.2.1 hi.2.2.2) hb
theorem bad_s {r : zR} (hW : WF r) (s : Nat) : p_bad r s (11 + s) = 1 ∨ 12 ≤ s := by
  by_cases hs : s < 12
  · left
    unfold p_bad
    split
    · exact pk_us
    · rcases p_hurt_cases hW (nI s) with hh | ⟨u, hu, hu6, hh⟩
      · rename_i q; exact absurd hh q
      · simp (disch := omega) only [p_off, upd_hi]; exact pk_us
  · right; omega
/-- whom it hurts -/
theorem hurt_or (r : zR) (s : Int32) : p_hurt r s = -1 ∨ p_hurt r s = p_taker r s ∨ p_hurt r s = p_comer r s := by
  unfold p_hurt
  split
  · exact Or.inr (Or.inl rfl)
  · split
    · exact Or.inr (Or.inr rfl)
    · exact Or.inl rfl
theorem hurt_tk {r : zR} {s : Int32} (h : ¬ p_taker r s = -1) : p_hurt r s = p_taker r s := by unfold p_hurt; rw [if_pos h]
theorem lost_0 {r : zR} {s : Int32} (h : p_hurt r s = -1) : v_lost r s = 0 := by unfold v_lost; rw [if_pos h]
theorem bad_hurt {K : Nat} {r : zR} (hW : WF r) (h : HR K r) {s u : Nat} (hs : s < 12) (hh : p_hurt r (nI s) = nI u) (hu : u < cnt r) : tf (p_bad r s) u 4 = 0 ∧ tf (p_bad r s) u 1 = tf r u 2 ∧ tf (p_bad r s) u 2 = tf r u 2 ∧ tf (p_bad r s) u 0 = tf r u 0 ∧ ∃ n, n ≤ K ∧ v_lost r (nI s) = nI n ∧ tf r u 1 = p_it (tf r u 0) n (tf r u 2) := by
  have h6 := hW.1.1
  have hne : ¬ p_hurt r (nI s) = -1 := by rw [hh]; exact nI_m1 (by omega)
  have e1 : (p_hurt r (nI s)).toNatClampNeg = u := by rw [hh, nI_clamp (by omega)]
  have eB : p_bad r s = p_off (upd (p_bad1 r s) (11 + s) 1) u := by unfold p_bad; rw [if_neg hne, e1]
  have eq : ∀ w, tf (upd (p_bad1 r s) (11 + s) 1) u w = tf r u w := fun w => by rw [tf_upd_lo _ _ (by omega), bad1_tf]
  refine ⟨?_, ?_, ?_, ?_, ?_⟩
  · rw [eB]; simp (disch := omega) only [p_off, tf_upd_w, tf_upd_eq]
  · rw [eB]; simp (disch := omega) only [p_off, tf_upd_w, tf_upd_eq, eq]
  · rw [eB]; simp (disch := omega) only [p_off, tf_upd_w, tf_upd_eq, eq]
  · rw [eB]; simp (disch := omega) only [p_off, tf_upd_w, tf_upd_eq, eq]
  · obtain ⟨n, a, b, c⟩ := h.2.2 u hu
    exact ⟨n, a, by unfold v_lost; rw [if_neg hne, e1]; exact b, c⟩
theorem bad_3 {r : zR} {s : Nat} (hs : s < 12) (hh : p_hurt r (nI s) = -1) : p_bad r s 3 = r 3 + if p_comer r (nI s) = -1 then 0 else 1 := by
  unfold p_bad p_bad1
  rw [if_pos hh, pk_un (by omega)]
  by_cases q : p_comer r (nI s) = -1
  · rw [if_pos q, if_neg (fun h => h.elim (fun a => a.1 hh) (fun a => a.2 q)), Int32.add_zero]
  · rw [if_neg q, if_pos (Or.inr ⟨hh, q⟩)]
    exact pk_us
