/-! ticks: how often a task works in them, and what its value is then; when the loader is idle -/
theorem load_tf {r : zR} (hW : WF r) {t w : Nat} (hw : w < 7) (h4 : w ≠ 4) (h5 : w ≠ 5) : tf (p_load r) t w = tf r t w := by
  unfold p_load
  split
  · rfl
  · rename_i hj
    split
    · exact tf_upd_lo _ _ (by omega)
    · split
      · by_cases e : t = jt r
        · rw [e]; simp (disch := omega) only [tf_upd_lo, tf_upd_w]
        · simp (disch := omega) only [tf_upd_lo, tf_upd_t]
      · have hjt : jt (upd r 7 (r 7 - 1)) = jt r := by unfold jt; rw [pk_un (by omega)]
        by_cases e : t = jt r
        · rw [e]; simp (disch := omega) only [p_finish, hjt, tf_upd_lo, tf_upd_w]
        · simp (disch := omega) only [p_finish, hjt, tf_upd_lo, tf_upd_t]
theorem tick_tf {r : zR} {t w : Nat} (hw : w < 7) (ht : t < cnt r) : tf (p_tick r) t w = tf (p_work (p_saves (p_load r)) (p_load r) t) t w := by
  show tf (upd (p_works _ _ 0 (p_load r)) 1 _) t w = _
  rw [tf_upd_lo _ _ (by omega), works_tf _ hw, if_pos (by rw [cnt_load]; omega)]
theorem works_ge (sv : Bool) : ∀ (n t : Nat) (r : zR) (u : Nat), t ≤ u → u < t + n → tf r u 4 = 2 → ∃ w : Nat, 1 ≤ w ∧ w ≤ n ∧ p_works sv n t r 4 = r 4 + nI w
  | 0, t, r, u, h1, h2, _ => absurd h2 (by omega)
  | n + 1, t, r, u, h1, h2, h => by
    have e1 : tf r t 4 = 2 → p_work sv r t 4 = r 4 + 1 := fun q => by unfold p_work; rw [if_pos q, pk_us]
    have e0 : ¬ tf r t 4 = 2 → p_work sv r t 4 = r 4 := fun q => by unfold p_work; rw [if_neg q]
    rw [p_works]
    by_cases e : u = t
    · subst e
      obtain ⟨w, hw, q⟩ := works_4 sv n (u + 1) (p_work sv r u)
      exact ⟨w + 1, by omega, by omega, by rw [q, e1 h, Int32.add_assoc, Int32.add_comm 1, nI_1]⟩
    · obtain ⟨w, w1, w2, q⟩ := works_ge sv n (t + 1) (p_work sv r t) u (by omega) (by omega) (by rw [work_oth sv r e (by omega)]; exact h)
      by_cases h2 : tf r t 4 = 2
      · exact ⟨w + 1, by omega, by omega, by rw [q, e1 h2, Int32.add_assoc, Int32.add_comm 1, nI_1]⟩
      · exact ⟨w, w1, by omega, by rw [q, e0 h2]⟩
theorem tick_t {r : zR} (hW : WF r) {t : Nat} (ht : t < cnt r) : ∃ a b : Nat, a ≤ 1 ∧ a ≤ b ∧ b ≤ 6 ∧ tf (p_tick r) t 3 = tf r t 3 + nI a ∧ tf (p_tick r) t 1 = p_it (tf r t 0) a (tf r t 1) ∧ p_tick r 4 = r 4 + nI b := by
  have h6 := hW.1.1
  have hc := cnt_load r
  have e4 : ∀ b : Nat, p_works (p_saves (p_load r)) (cnt (p_load r)) 0 (p_load r) 4 = p_load r 4 + nI b → p_tick r 4 = r 4 + nI b := fun b q => by
    show upd _ 1 _ 4 = _
    rw [pk_un (by omega), q, p_load_lo r (by omega)]
  rw [tick_tf (by omega) ht, tick_tf (by omega) ht, work_tf _ _ _ (by omega), work_tf _ _ _ (by omega)]
  by_cases q : tf (p_load r) t 4 = 2
  · obtain ⟨b, b1, b2, b3⟩ := works_ge (p_saves (p_load r)) (cnt (p_load r)) 0 (p_load r) t (by omega) (by rw [hc]; omega) q
    refine ⟨1, b, by omega, b1, by rw [hc] at b2; omega, ?_, ?_, e4 b b3⟩
    · rw [if_pos q, ← load_tf hW (t := t) (w := 3) (by omega) (by omega) (by omega)]
      rfl
    · rw [if_pos q, ← load_tf hW (t := t) (w := 0) (by omega) (by omega) (by omega), ← load_tf hW (t := t) (w := 1) (by omega) (by omega) (by omega)]
      rfl
  · obtain ⟨b, b2, b3⟩ := works_4 (p_saves (p_load r)) (cnt (p_load r)) 0 (p_load r)
    refine ⟨0, b, by omega, by omega, by rw [hc] at b2; omega, ?_, ?_, e4 b b3⟩
    · rw [if_neg q, load_tf hW (by omega) (by omega) (by omega), nI_0, Int32.add_zero]
    · rw [if_neg q, load_tf hW (by omega) (by omega) (by omega)]
      rfl
theorem tick_0 {r : zR} (hW : WF r) {t : Nat} (ht : t < cnt r) : tf (p_tick r) t 0 = tf r t 0 := by
  rw [tick_tf (by omega) ht, work_tf _ _ _ (by omega)]
  split
  · rw [if_neg (by omega), if_neg (by omega), if_neg (by omega), if_neg (by omega)]; exact load_tf hW (by omega) (by omega) (by omega)
  · exact load_tf hW (by omega) (by omega) (by omega)
theorem cnt_tick (r : zR) : cnt (p_tick r) = cnt r := cnt_run 1 r
theorem run_t : ∀ (n : Nat) (r : zR), WF r → ∀ t, t < cnt r → ∃ a b : Nat, a ≤ n ∧ a ≤ b ∧ b ≤ 6 * n ∧ tf (p_run n r) t 3 = tf r t 3 + nI a ∧ tf (p_run n r) t 1 = p_it (tf r t 0) a (tf r t 1) ∧ p_run n r 4 = r 4 + nI b
  | 0, r, _, t, _ => ⟨0, 0, by omega, by omega, by omega, by rw [p_run, nI_0, Int32.add_zero], rfl, by rw [p_run, nI_0, Int32.add_zero]⟩
  | n + 1, r, hW, t, ht => by
    obtain ⟨a, b, a1, ab, b6, e3, e1, e4⟩ := tick_t hW ht
    obtain ⟨a', b', a1', ab', b6', e3', e1', e4'⟩ := run_t n (p_tick r) (WF_tick hW) t (by rw [cnt_tick]; exact ht)
    refine ⟨a + a', b + b', by omega, by omega, by omega, ?_, ?_, ?_⟩
    · rw [p_run, e3', e3, Int32.add_assoc, nI_add]
    · rw [p_run, e1', tick_0 hW ht, e1, p_it_add]
    · rw [p_run, e4', e4, Int32.add_assoc, nI_add]
theorem idle_0 {r : zR} (hW : WF r) : p_idle r = 0 ↔ r 5 = -1 := by
  constructor
  · intro h
    by_cases q : r 5 = -1
    · exact q
    · exfalso
      obtain ⟨-, -, -, ⟨j4, j5⟩, -⟩ := hW.jb q
      have h9 := hW.2.2.2.2.1.2.1
      unfold p_idle at h
      rw [if_neg q] at h
      have h2 := congrArg Int32.toInt h
      rw [i_0] at h2
      by_cases s : tf r (jt r) 4 = 2
      · rw [if_pos s, I32_add (by omega) (by omega)] at h2; omega
      · rw [if_neg s, I32_add (by rw [i_0]; omega) (by rw [i_0]; omega), i_0] at h2; omega
  · intro h
    unfold p_idle
    rw [if_pos h]
theorem idle_load {r : zR} (hW : WF r) (hj : ¬ r 5 = -1) : 1 ≤ (p_idle r).toInt ∧ (((p_idle r).toInt = 1 ∧ p_load r 5 = -1 ∧ p_load r 2 = r 2 + 1) ∨ (2 ≤ (p_idle r).toInt ∧ p_load r 5 = r 5 ∧ p_load r 2 = r 2 ∧ (p_idle (p_load r)).toInt = (p_idle r).toInt - 1)) := by
  obtain ⟨-, -, -, ⟨j4, j5⟩, -⟩ := hW.jb hj
  have h9 := hW.2.2.2.2.1.2.1
  have e7 : (r 7 - 1).toInt = (r 7).toInt - 1 := by rw [I32_sub (by rw [i_1]; omega) (by rw [i_1]; omega), i_1]
  have hI : (p_idle r).toInt = (r 7).toInt + if tf r (jt r) 4 = 2 then (r 9).toInt else 0 := by
    unfold p_idle
    rw [if_neg hj]
    by_cases s : tf r (jt r) 4 = 2
    · rw [if_pos s, if_pos s, I32_add (by omega) (by omega)]
    · rw [if_neg s, if_neg s, I32_add (by rw [i_0]; omega) (by rw [i_0]; omega), i_0]
  have hge : (r 7).toInt ≤ (p_idle r).toInt := by rw [hI]; split <;> omega
  refine ⟨by omega, ?_⟩
  unfold p_load
  rw [if_neg hj]
  by_cases A : 0 < r 7 - 1
  · rw [if_pos A]
    rw [Int32.lt_iff_toInt_lt, e7, i_0] at A
    right
    refine ⟨by omega, pk_un (by omega), pk_un (by omega), ?_⟩
    have hjt : jt (upd r 7 (r 7 - 1)) = jt r := by unfold jt; rw [pk_un (by omega)]
    unfold p_idle
    rw [pk_un (by omega), if_neg hj, hjt, tf_upd_lo _ _ (by omega), pk_us, pk_un (by omega)]
    by_cases s : tf r (jt r) 4 = 2
    · rw [if_pos s, if_neg hj, I32_add (by rw [e7]; omega) (by rw [e7]; omega), I32_add (by omega) (by omega), e7]; omega
    · rw [if_neg s, if_neg hj, I32_add (by rw [e7, i_0]; omega) (by rw [e7, i_0]; omega), I32_add (by rw [i_0]; omega) (by rw [i_0]; omega), e7]; omega
  · rw [if_neg A]
    rw [Int32.lt_iff_toInt_lt, e7, i_0] at A
    by_cases B : tf r (jt r) 4 = 2 ∧ 0 < r 9
    · rw [if_pos B]
      obtain ⟨B1, B2⟩ := B
      rw [Int32.lt_iff_toInt_lt, i_0] at B2
      rw [if_pos B1] at hI
      right
      refine ⟨by omega, by simp (disch := omega) only [pk_un], by simp (disch := omega) only [pk_un], ?_⟩
      have hjt : jt (upd (upd (upd r 7 (r 7 - 1)) (23 + 7 * jt r + 4) 3) 7 (r 9)) = jt r := by unfold jt; simp (disch := omega) only [pk_un]
      have e4 : tf (upd (upd (upd r 7 (r 7 - 1)) (23 + 7 * jt r + 4) 3) 7 (r 9)) (jt r) 4 = 3 := by simp (disch := omega) only [tf_upd_lo, tf_upd_eq]
      rw [hI]
      unfold p_idle
      rw [hjt, e4, pk_us, if_neg (by simp (disch := omega) only [pk_un]; exact hj), if_neg (by decide), Int32.add_zero]
      omega
    · rw [if_neg B]
      left
      refine ⟨?_, by simp (disch := omega) only [p_finish, pk_un, pk_us], by simp (disch := omega) only [p_finish, pk_un, pk_us]⟩
      rw [hI]
      by_cases s : tf r (jt r) 4 = 2
      · rw [if_pos s]
        have : ¬ 0 < r 9 := fun q => B ⟨s, q⟩
        rw [Int32.lt_iff_toInt_lt, i_0] at this
        omega
      · rw [if_neg s]; omega
theorem idle_cg {r r' : zR} (e5 : r' 5 = r 5) (e7 : r' 7 = r 7) (e9 : r' 9 = r 9) (e4 : tf r' (jt r) 4 = tf r (jt r) 4) : p_idle r' = p_idle r := by
  have hjt : jt r' = jt r := by unfold jt; rw [e5]
  unfold p_idle
  rw [hjt, e4, e5, e7, e9]
theorem tick_lo (r : zR) {k : Nat} (hk : k < 23) (h1 : k ≠ 1) (h4 : k ≠ 4) : p_tick r k = p_load r k := by
  show upd (p_works _ _ 0 (p_load r)) 1 _ k = _
  rw [pk_un h1, p_works_lo _ hk h4]
theorem idle_tick (r : zR) : p_idle (p_tick r) = p_idle (p_load r) := by
  refine idle_cg (tick_lo r (by omega) (by omega) (by omega)) (tick_lo r (by omega) (by omega) (by omega)) (tick_lo r (by omega) (by omega) (by omega)) ?_
  show tf (upd (p_works _ _ 0 (p_load r)) 1 _) _ 4 = _
  rw [tf_upd_lo _ _ (by omega), works_same _ (by omega)]
theorem run_idle0 : ∀ (n : Nat) (r : zR), r 5 = -1 → p_run n r 5 = -1 ∧ p_run n r 2 = r 2
  | 0, _, h => ⟨h, rfl⟩
  | n + 1, r, h => by
    have e : p_load r = r := by unfold p_load; rw [if_pos h]
    have e5 : p_tick r 5 = -1 := by rw [tick_lo r (by omega) (by omega) (by omega), e]; exact h
    have e2 : p_tick r 2 = r 2 := by rw [tick_lo r (by omega) (by omega) (by omega), e]
    rw [p_run]
    have := run_idle0 n (p_tick r) e5
    rw [e2] at this
    exact this
theorem run_idle1 : ∀ (n : Nat) (r : zR), WF r → ¬ r 5 = -1 → ((p_idle r).toInt ≤ n → p_run n r 5 = -1 ∧ p_run n r 2 = r 2 + 1) ∧ ((n : Int) < (p_idle r).toInt → ¬ p_run n r 5 = -1 ∧ p_run n r 2 = r 2)
  | 0, r, hW, hj => ⟨fun q => absurd (idle_load hW hj).1 (by omega), fun _ => ⟨hj, rfl⟩⟩
  | n + 1, r, hW, hj => by
    rw [p_run]
    have e5 : p_tick r 5 = p_load r 5 := tick_lo r (by omega) (by omega) (by omega)
    have e2 : p_tick r 2 = p_load r 2 := tick_lo r (by omega) (by omega) (by omega)
    obtain ⟨-, ⟨q1, q2, q3⟩ | ⟨q1, q2, q3, q4⟩⟩ := idle_load hW hj
    · refine ⟨fun _ => ?_, fun q => absurd q (by omega)⟩
      have := run_idle0 n (p_tick r) (by rw [e5]; exact q2)
      rw [e2, q3] at this
      exact this
    · have ih := run_idle1 n (p_tick r) (WF_tick hW) (by rw [e5, q2]; exact hj)
      rw [idle_tick, q4, e2, q3] at ih
      exact ⟨fun q => ih.1 (by omega), fun q => ih.2 (by omega)⟩
