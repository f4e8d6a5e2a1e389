/-! PURE ROWS: a tick, a run, a bad stripe, a new task, a job keep WF -/
theorem WF_fin {r : zR} (h : WF r) (hj1 : ¬ r 5 = -1) (x : Int32) : WF (p_finish (upd r 7 x)) := by
  obtain ⟨j1, j2, j3, j4, j5, j6, j7⟩ := h.jb hj1
  obtain ⟨⟨h6, h0⟩, ht, -, hb, hs, hd⟩ := h
  have hjt : jt (upd r 7 x) = jt r := by unfold jt; rw [pk_un (by omega)]
  have t0 : ∀ u, tf (p_finish (upd r 7 x)) u 0 = tf r u 0 := fun u => by
    simp only [p_finish, hjt]
    by_cases e : u = jt r
    · subst e; simp (disch := omega) only [tf_upd_w, tf_upd_lo]
    · simp (disch := omega) only [tf_upd_t, tf_upd_lo]
  have t1 : ∀ u w, u ≠ jt r → w < 7 → tf (p_finish (upd r 7 x)) u w = tf r u w := fun u w e hw => by
    simp (disch := omega) only [p_finish, hjt, tf_upd_t, tf_upd_lo]
  have t4 : tf (p_finish (upd r 7 x)) (jt r) 4 = 2 := by
    simp (disch := omega) only [p_finish, hjt, tf_upd_w, tf_upd_eq, tf_upd_lo]
  have t5 : tf (p_finish (upd r 7 x)) (jt r) 5 = r 6 := by
    simp (disch := omega) only [p_finish, hjt, tf_upd_w, tf_upd_eq, tf_upd_lo, pk_un]
  have tv : ∀ w, w ≠ 4 → w ≠ 5 → w < 7 → tf (p_finish (upd r 7 x)) (jt r) w = tf r (jt r) w := fun w e4 e5 hw => by
    simp (disch := omega) only [p_finish, hjt, tf_upd_w, tf_upd_lo]
  have lo : ∀ k, k < 23 → k ≠ 2 → k ≠ 5 → k ≠ 7 → p_finish (upd r 7 x) k = r k := fun k a b c d => by
    simp (disch := omega) only [p_finish, pk_un]
  have hc : cnt (p_finish (upd r 7 x)) = cnt r := by unfold cnt; rw [lo 0 (by omega) (by omega) (by omega) (by omega)]
  refine ⟨⟨by rw [hc]; exact h6, by rw [hc, lo 0 (by omega) (by omega) (by omega) (by omega)]; exact h0⟩, ?_, Or.inl (by simp (disch := omega) only [p_finish, pk_us, pk_un]), ?_, ?_, ?_⟩
  · rw [hc]
    intro u hu
    obtain ⟨w1, v1, v2, w4, w5⟩ := ht u hu
    by_cases e : u = jt r
    · subst e
      refine ⟨by rw [tI_of (t0 _)]; exact w1, by rw [tI_of (tv 1 (by omega) (by omega) (by omega))]; exact v1, by rw [tI_of (tv 2 (by omega) (by omega) (by omega))]; exact v2, ?_, ?_⟩
      · unfold tI; rw [t4, i_2]; omega
      · right
        rw [tI_of (t0 _)]
        unfold tI at *
        rw [t4, t5, i_2]
        omega
    · refine ⟨by rw [tI_of (t0 _)]; exact w1, by rw [tI_of (t1 u 1 e (by omega))]; exact v1, by rw [tI_of (t1 u 2 e (by omega))]; exact v2, by rw [tI_of (t1 u 4 e (by omega))]; exact w4, ?_⟩
      rw [tI_of (t0 _), tI_of (t1 u 4 e (by omega)), tI_of (t1 u 5 e (by omega))]
      exact w5
  · intro s hs; rw [lo _ (by omega) (by omega) (by omega) (by omega)]; exact hb s hs
  · rw [lo 8 (by omega) (by omega) (by omega) (by omega), lo 9 (by omega) (by omega) (by omega) (by omega), lo 10 (by omega) (by omega) (by omega) (by omega)]; exact hs
  · rw [hc]
    have e5 : tI (p_finish (upd r 7 x)) (jt r) 5 = (r 6).toInt := by unfold tI; rw [t5]
    intro t u ht hu hne
    rw [tI_of (t0 t), tI_of (t0 u)]
    by_cases et : t = jt r
    · subst et
      rw [e5, tI_of (t1 u 5 (Ne.symm hne) (by omega))]
      have := j7 u hu (Ne.symm hne)
      omega
    · by_cases eu : u = jt r
      · subst eu
        rw [e5, tI_of (t1 t 5 hne (by omega))]
        have := j7 t ht hne
        omega
      · rw [tI_of (t1 t 5 et (by omega)), tI_of (t1 u 5 eu (by omega))]
        exact hd t u ht hu hne
theorem WF_load {r : zR} (h : WF r) : WF (p_load r) := by
  by_cases hj1 : r 5 = -1
  · rw [p_load, if_pos hj1]; exact h
  obtain ⟨j1, j2, j3, j4, j5, j6, j7⟩ := h.jb hj1
  have e7 : (r 7 - 1).toInt = (r 7).toInt - 1 := I32_sub (by rw [i_1]; omega) (by rw [i_1]; omega)
  by_cases h2 : 0 < r 7 - 1
  · rw [p_load, if_neg hj1, if_pos h2]
    rw [Int32.lt_iff_toInt_lt, i_0, e7] at h2
    refine WF_lo h (by simp (disch := omega) only [pk_un]) ?_ ?_ (fun u w => by simp (disch := omega) only [tf_upd_lo]) (Or.inr ⟨by simp (disch := omega) only [pk_un], by simp (disch := omega) only [pk_un], fun _ => by rw [pk_us, e7]; omega⟩)
    · simp (disch := omega) only [pk_un]; exact h.2.2.2.2.1
    · intro u hu; simp (disch := omega) only [pk_un]; exact h.2.2.2.1 u hu
  by_cases h3 : tf r (jt r) 4 = 2 ∧ 0 < r 9
  · rw [p_load, if_neg hj1, if_neg h2, if_pos h3]
    obtain ⟨h3, h4⟩ := h3
    have h6 := h.1.1
    rw [Int32.lt_iff_toInt_lt, i_0] at h4
    have h9 := h.2.2.2.2.1.2.1
    refine WF_sh h (by simp (disch := omega) only [pk_un]) ?_ ?_ ?_ ?_ ?_ ?_
    · simp (disch := omega) only [pk_un]; exact h.2.2.2.2.1
    · intro u hu; simp (disch := omega) only [pk_un]; exact h.2.2.2.1 u hu
    · intro u hu
      by_cases e : u = jt r
      · subst e; simp (disch := omega) only [tf_upd_w, tf_upd_lo]
      · simp (disch := omega) only [tf_upd_t, tf_upd_lo]
    · intro u hu
      refine h.ev hu (Or.inl ?_) (Or.inl ?_)
      · by_cases e : u = jt r
        · subst e; simp (disch := omega) only [tf_upd_w, tf_upd_lo]
        · simp (disch := omega) only [tf_upd_t, tf_upd_lo]
      · by_cases e : u = jt r
        · subst e; simp (disch := omega) only [tf_upd_w, tf_upd_lo]
        · simp (disch := omega) only [tf_upd_t, tf_upd_lo]
    · intro u hu
      by_cases e : u = jt r
      · right; right
        subst e
        refine ⟨by simp (disch := omega) only [tf_upd_eq, tf_upd_lo], by simp (disch := omega) only [tf_upd_w, tf_upd_lo], ?_⟩
        unfold tI; rw [h3]; rfl
      · left; simp (disch := omega) only [tf_upd_t, tf_upd_lo, and_self]
    · right
      refine ⟨by simp (disch := omega) only [pk_un], hj1, by simp (disch := omega) only [pk_un], by rw [pk_us]; omega, ?_⟩
      simp (disch := omega) only [tf_upd_eq, tf_upd_lo]
      decide
  · rw [p_load, if_neg hj1, if_neg h2, if_neg h3]
    exact WF_fin h hj1 _
theorem cnt_load (r : zR) : cnt (p_load r) = cnt r := by unfold cnt; rw [p_load_lo r (by omega)]
theorem WF_tick {r : zR} (h : WF r) : WF (p_tick r) := by
  unfold p_tick
  exact WF_cnt (WF_works _ _ _ _ (WF_load h) (by omega)) 1 (by omega) _
theorem works_4 (sv : Bool) : ∀ (n t : Nat) (r : zR), ∃ w : Nat, w ≤ n ∧ p_works sv n t r 4 = r 4 + nI w
  | 0, _, r => ⟨0, by omega, by rw [p_works, nI_0, Int32.add_zero]⟩
  | n + 1, t, r => by
    obtain ⟨w, hw, e⟩ := works_4 sv n (t + 1) (p_work sv r t)
    rw [p_works, e]
    unfold p_work
    by_cases h : tf r t 4 = 2
    · rw [if_pos h, pk_us]
      refine ⟨w + 1, by omega, ?_⟩
      rw [Int32.add_assoc, Int32.add_comm 1, nI_1]
    · rw [if_neg h]
      exact ⟨w, by omega, rfl⟩
theorem tick_works {r : zR} (h : WF r) : ∃ w : Nat, w ≤ 6 ∧ p_tick r 4 = r 4 + nI w := by
  obtain ⟨w, hw, e⟩ := works_4 (p_saves (p_load r)) (cnt (p_load r)) 0 (p_load r)
  have h6 := h.1.1
  refine ⟨w, by rw [cnt_load] at hw; omega, ?_⟩
  show upd _ 1 _ 4 = _
  rw [pk_un (by omega), e, p_load_lo r (by omega)]
theorem WF_run : ∀ (n : Nat) (r : zR), WF r → WF (p_run n r)
  | 0, _, h => h
  | n + 1, r, h => WF_run n _ (WF_tick h)
theorem run_works : ∀ (n : Nat) (r : zR), WF r → ∃ w : Nat, w ≤ 6 * n ∧ p_run n r 4 = r 4 + nI w
  | 0, r, _ => ⟨0, by omega, by rw [p_run, nI_0, Int32.add_zero]⟩
  | n + 1, r, h => by
    obtain ⟨w, hw, e⟩ := run_works n (p_tick r) (WF_tick h)
    obtain ⟨w', hw', e'⟩ := tick_works h
    exact ⟨w' + w, by omega, by rw [p_run, e, e', Int32.add_assoc, nI_add]⟩
theorem run_val {n : Nat} {r : zR} (h : WF r) : ∃ w : Nat, w ≤ 6 * n ∧ p_run n r 4 - r 4 = nI w := by
  obtain ⟨w, hw, e⟩ := run_works n r h
  exact ⟨w, hw, by rw [e, Int32.add_comm, Int32.add_sub_cancel]⟩
theorem takes_iff {r : zR} (h : WF r) {t : Nat} (ht : t < cnt r) (s : Int32) : p_takes r t s = true ↔ (tI r t 5 ≠ -1 ∧ tI r t 5 ≤ s.toInt ∧ s.toInt < tI r t 5 + tI r t 0) := by
  obtain ⟨w1, -, -, w4, w5⟩ := h.2.1 t ht
  have e : (tf r t 5 + tf r t 0).toInt = tI r t 5 + tI r t 0 := I32_add (by unfold tI at *; omega) (by unfold tI at *; omega)
  simp only [p_takes, Bool.and_eq_true, decide_eq_true_eq]
  rw [Int32.le_iff_toInt_le, Int32.lt_iff_toInt_lt, e]
  have e1 : tf r t 5 = -1 ↔ tI r t 5 = -1 := ⟨fun q => by unfold tI; rw [q]; rfl, fun q => Int32.toInt_inj.mp (by rw [i_m1]; exact q)⟩
  rw [e1]
  exact Iff.rfl
theorem takes_uniq {r : zR} (h : WF r) {t u : Nat} (ht : t < cnt r) (hu : u < cnt r) {s : Int32} (h1 : p_takes r t s = true) (h2 : p_takes r u s = true) : t = u := by
  by_cases e : t = u
  · exact e
  · rw [takes_iff h ht] at h1
    rw [takes_iff h hu] at h2
    have := h.2.2.2.2.2 t u ht hu e
    omega
theorem tkf_none (r : zR) (s : Int32) : ∀ (n t : Nat), t + n < 2 ^ 31 → p_tkf r s n t = -1 → ∀ u, t ≤ u → u < t + n → p_takes r u s = false
  | 0, t, _, _, u, h1, h2 => by omega
  | n + 1, t, h0, h, u, h1, h2 => by
    by_cases q : p_takes r t s = true
    · rw [p_tkf, if_pos q] at h
      exact absurd h (nI_m1 (by omega))
    · rw [p_tkf, if_neg q] at h
      by_cases e : u = t
      · subst e; simpa using q
      · exact tkf_none r s n (t + 1) (by omega) h u (by omega) (by omega)
theorem taker_of {r : zR} (h : WF r) {u : Nat} (hu : u < cnt r) {s : Int32} (h1 : p_takes r u s = true) : p_taker r s = nI u := by
  have h6 := h.1.1
  rcases p_taker_cases r s with q | ⟨v, q1, q2, q3⟩
  · have := tkf_none r s (cnt r) 0 (by omega) q u (by omega) (by omega)
    rw [this] at h1; cases h1
  · rw [q2, takes_uniq h q1 hu q3 h1]
theorem comer_iff {r : zR} (h : WF r) (s : Int32) : ¬ p_comer r s = -1 ↔ (¬ r 5 = -1 ∧ ¬ tf r (jt r) 4 = 1 ∧ (r 6).toInt ≤ s.toInt ∧ s.toInt < (r 6).toInt + tI r (jt r) 0) := by
  by_cases hj1 : r 5 = -1
  · simp [p_comer, p_isMove, hj1]
  · obtain ⟨j1, j2, j3, j4, j5, j6, j7⟩ := h.jb hj1
    have w1 := (h.2.1 _ j1).1
    have e : (r 6 + tf r (jt r) 0).toInt = (r 6).toInt + tI r (jt r) 0 := I32_add (by unfold tI at *; omega) (by unfold tI at *; omega)
    rw [← e, ← Int32.le_iff_toInt_le, ← Int32.lt_iff_toInt_lt]
    unfold p_comer p_isMove
    by_cases a : tf r (jt r) 4 = 1 <;> by_cases b : r 6 ≤ s <;> by_cases c : s < r 6 + tf r (jt r) 0 <;> simp [hj1, a, b, c]
theorem comer_taker {r : zR} (h : WF r) {s : Int32} (h1 : ¬ p_comer r s = -1) {u : Nat} (hu : u < cnt r) (h2 : p_takes r u s = true) : u = jt r := by
  rw [comer_iff h] at h1
  obtain ⟨j1, j2, j3, j4, j5, j6, j7⟩ := h.jb h1.1
  rw [takes_iff h hu] at h2
  by_cases e : u = jt r
  · exact e
  · have := j7 u hu e
    omega
theorem p_bad1_iff {r : zR} (h : WF r) (s : Int32) : ((¬ p_hurt r s = -1 ∧ r 5 = p_hurt r s) ∨ (p_hurt r s = -1 ∧ ¬ p_comer r s = -1)) ↔ (¬ r 5 = -1 ∧ (p_hurt r s = r 5 ∨ p_comer r s = r 5)) := by
  constructor
  · rintro (⟨a, b⟩ | ⟨a, b⟩)
    · exact ⟨by rw [b]; exact a, Or.inl b.symm⟩
    · rcases p_comer_cases r s with q | ⟨q, q2, -⟩
      · exact absurd q b
      · exact ⟨q2, Or.inr q⟩
  · rintro ⟨a, b | b⟩
    · exact Or.inl ⟨by rw [b]; exact a, b.symm⟩
    · have hc : ¬ p_comer r s = -1 := by rw [b]; exact a
      by_cases hh : p_hurt r s = -1
      · exact Or.inr ⟨hh, hc⟩
      · refine Or.inl ⟨hh, ?_⟩
        unfold p_hurt
        by_cases ht : p_taker r s = -1
        · rw [if_neg (not_not_intro ht)]
          unfold p_hurt at hh
          rw [if_neg (not_not_intro ht)] at hh
          by_cases h3 : ¬ p_comer r s = -1 ∧ tf r (p_comer r s).toNatClampNeg 4 = 3
          · rw [if_pos h3, b]
          · rw [if_neg h3] at hh; exact absurd rfl hh
        · rw [if_pos ht]
          rcases p_taker_cases r s with q | ⟨u, q1, q2, q3⟩
          · exact absurd q ht
          · rw [q2, comer_taker h hc q1 q3]; exact (h.jb a).2.1
theorem WF_bad {r : zR} (h : WF r) (s : Nat) (hs : s < 12) : WF (p_bad r s) := by
  have h1 : WF (p_bad1 r s) := by
    unfold p_bad1
    split
    · exact WF_drop h
    · exact h
  have h2 := WF_mend h1 s hs 1 (Or.inr rfl)
  unfold p_bad
  by_cases e : p_hurt r (nI s) = -1
  · rw [if_pos e]; exact h2
  · rw [if_neg e]
    obtain ⟨u, hu, hu6, eu⟩ := (p_hurt_cases h (nI s)).resolve_left e
    rw [eu, nI_clamp (by omega)]
    have hc : cnt (upd (p_bad1 r s) (11 + s) 1) = cnt r := by
      unfold cnt
      rw [pk_un (by omega)]
      unfold p_bad1
      split
      · simp (disch := omega) only [p_drop, pk_un]
      · rfl
    refine WF_off h2 u ?_ (by rw [hc]; exact hu)
    rw [pk_un (by omega)]
    unfold p_bad1
    split
    · simp (disch := omega) only [p_drop, pk_un, pk_us]
      exact fun q => nI_m1 (n := u) (by omega) q.symm
    · rename_i q
      intro q2
      exact q (Or.inl ⟨e, by rw [q2, eu]⟩)
theorem cnt_add {r : zR} (h : WF r) (w v : Int32) : cnt (p_add r w v) = cnt r + 1 := by
  have h6 := h.1.1
  show (p_add r w v 0).toNatClampNeg = _
  rw [show p_add r w v 0 = r 0 + 1 from pk_us, h.1.2, nI_1, nI_clamp (by omega)]
theorem WF_add {r : zR} (h : WF r) (hc : cnt r < 6) {w v : Int32} (hw : 1 ≤ w.toInt ∧ w.toInt ≤ 6) (hv : 0 ≤ v.toInt ∧ v.toInt ≤ 996) : WF (p_add r w v) := by
  have hcc := cnt_add h w v
  have t1 : ∀ u x, u < cnt r → x < 7 → tf (p_add r w v) u x = tf r u x := fun u x hu hx => by
    have e : u ≠ cnt r := by omega
    simp (disch := omega) only [p_add, tf_upd_lo, tf_upd_t]
  have n0 : tf (p_add r w v) (cnt r) 0 = w := by simp (disch := omega) only [p_add, tf_upd_lo, tf_upd_w, tf_upd_eq]
  have n1 : tf (p_add r w v) (cnt r) 1 = v := by simp (disch := omega) only [p_add, tf_upd_lo, tf_upd_w, tf_upd_eq]
  have n2 : tf (p_add r w v) (cnt r) 2 = v := by simp (disch := omega) only [p_add, tf_upd_lo, tf_upd_w, tf_upd_eq]
  have n4 : tf (p_add r w v) (cnt r) 4 = 0 := by simp (disch := omega) only [p_add, tf_upd_lo, tf_upd_w, tf_upd_eq]
  have n5 : tf (p_add r w v) (cnt r) 5 = -1 := by simp (disch := omega) only [p_add, tf_upd_lo, tf_upd_w, tf_upd_eq]
  have lo : ∀ k, k < 23 → k ≠ 0 → p_add r w v k = r k := fun k a b => by
    simp (disch := omega) only [p_add, pk_un]
  obtain ⟨⟨h6, h0⟩, ht, hj, hb, hs, hd⟩ := h
  have m5 : tI (p_add r w v) (cnt r) 5 = -1 := by unfold tI; rw [n5]; rfl
  refine ⟨⟨by rw [hcc]; omega, ?_⟩, ?_, ?_, ?_, ?_, ?_⟩
  · rw [hcc, show p_add r w v 0 = r 0 + 1 from pk_us, h0, nI_1]
  · rw [hcc]
    intro u hu
    by_cases e : u = cnt r
    · subst e
      unfold WFt tI
      rw [n0, n1, n2, n4, n5]
      exact ⟨hw, hv, hv, by decide, Or.inl (by decide)⟩
    · have hu' : u < cnt r := by omega
      unfold WFt
      simp only [tI_of (t1 u 0 hu' (by omega)), tI_of (t1 u 1 hu' (by omega)), tI_of (t1 u 2 hu' (by omega)), tI_of (t1 u 4 hu' (by omega)), tI_of (t1 u 5 hu' (by omega))]
      exact ht u hu'
  · rcases hj with hj | ⟨j1, j2, j3, j4, j5, j6, j7⟩
    · left; rw [lo 5 (by omega) (by omega)]; exact hj
    · right
      have hjt : jt (p_add r w v) = jt r := by unfold jt; rw [lo 5 (by omega) (by omega)]
      unfold WFj
      rw [hjt, hcc, lo 5 (by omega) (by omega), lo 6 (by omega) (by omega), lo 7 (by omega) (by omega)]
      simp only [tI_of (t1 _ 0 j1 (by omega)), tI_of (t1 _ 4 j1 (by omega)), tI_of (t1 _ 5 j1 (by omega))]
      refine ⟨by omega, j2, j3, j4, j5, j6, fun u hu hne => ?_⟩
      by_cases e : u = cnt r
      · subst e; exact Or.inl m5
      · have hu' : u < cnt r := by omega
        rw [tI_of (t1 u 0 hu' (by omega)), tI_of (t1 u 5 hu' (by omega))]
        exact j7 u hu' hne
  · intro s hs; rw [lo _ (by omega) (by omega)]; exact hb s hs
  · rw [lo 8 (by omega) (by omega), lo 9 (by omega) (by omega), lo 10 (by omega) (by omega)]; exact hs
  · rw [hcc]
    intro t u ht' hu' hne
    by_cases et : t = cnt r
    · subst et; exact Or.inl m5
    · by_cases eu : u = cnt r
      · subst eu; exact Or.inr (Or.inl m5)
      · have a : t < cnt r := by omega
        have b : u < cnt r := by omega
        rw [tI_of (t1 t 0 a (by omega)), tI_of (t1 t 5 a (by omega)), tI_of (t1 u 0 b (by omega)), tI_of (t1 u 5 b (by omega))]
        exact hd t u a b hne
theorem fitn_of (r : zR) (t : Int32) : ∀ (n k : Nat), p_fitn r t n k = true → ∀ j, k ≤ j → j < k + n → ¬ r (11 + j) = 1 ∧ (p_taker r (nI j) = -1 ∨ p_taker r (nI j) = t)
  | 0, k, _, j, h1, h2 => by omega
  | n + 1, k, h, j, h1, h2 => by
    rw [p_fitn] at h
    split at h
    · cases h
    · rename_i q
      by_cases e : j = k
      · subst e
        simp only [Bool.or_eq_true, Bool.and_eq_true, decide_eq_true_eq, not_or, not_and, Classical.not_not] at q
        refine ⟨q.1, ?_⟩
        by_cases q2 : p_taker r (nI j) = -1
        · exact Or.inl q2
        · exact Or.inr (q.2 q2)
      · exact fitn_of r t n (k + 1) h j (by omega) (by omega)
theorem canb_of {r : zR} (h : WF r) {t3 s3 : Int32} (hb : p_canb r t3 s3 = true) : ∃ t s : Nat, t3 = nI t ∧ s3 = nI s ∧ t < cnt r ∧ s < 12 ∧ r 5 = -1 ∧ (s : Int) + tI r t 0 ≤ 12 ∧ ∀ u, u < cnt r → u ≠ t → tI r u 5 = -1 ∨ tI r u 5 + tI r u 0 ≤ s ∨ (s : Int) + tI r t 0 ≤ tI r u 5 := by
  simp only [p_canb, Bool.and_eq_true, decide_eq_true_eq] at hb
  obtain ⟨b1, b2, b3, b4, b5⟩ := hb
  obtain ⟨t, ht, rfl⟩ := p_isTask_nI h b1
  obtain ⟨s, hs, rfl⟩ := p_isStripe_nI b2
  have h6 := h.1.1
  rw [nI_clamp (by omega)] at b4 b5
  rw [nI_clamp (n := s) (by omega)] at b5
  obtain ⟨w, w1, w6, ew⟩ := WF_w h ht
  have eI : tI r t 0 = w := by unfold tI; rw [ew, nI_toInt (by omega)]
  rw [ew] at b4 b5
  rw [nI_clamp (by omega)] at b5
  rw [nI_add, Int32.le_iff_toInt_le, nI_toInt (by omega)] at b4
  have e12 : (12 : Int32).toInt = 12 := by decide
  refine ⟨t, s, rfl, rfl, ht, hs, b3, by rw [eI]; omega, ?_⟩
  intro u hu hne
  rw [eI]
  obtain ⟨uw, -, -, -, uf⟩ := h.2.1 u hu
  by_cases q : tI r u 5 = -1 ∨ tI r u 5 + tI r u 0 ≤ s ∨ (s : Int) + w ≤ tI r u 5
  · exact q
  · exfalso
    have q5 : 0 ≤ tI r u 5 := by omega
    -- a stripe that both would take
    have hk : ∃ k : Nat, s ≤ k ∧ k < s + w ∧ tI r u 5 ≤ k ∧ (k : Int) < tI r u 5 + tI r u 0 := by
      by_cases q6 : tI r u 5 ≤ s
      · exact ⟨s, by omega, by omega, q6, by omega⟩
      · exact ⟨(tI r u 5).toNat, by omega, by omega, by omega, by omega⟩
    obtain ⟨k, k1, k2, k3, k4⟩ := hk
    have hku : p_takes r u (nI k) = true := by
      rw [takes_iff h hu, nI_toInt (by omega)]
      exact ⟨by omega, k3, k4⟩
    have := (fitn_of r (nI t) w s b5 k k1 k2).2
    rw [taker_of h hu hku] at this
    rcases this with q7 | q7
    · exact nI_m1 (by omega) q7
    · exact hne ((nI_eq (by omega) (by omega)).mp q7)
