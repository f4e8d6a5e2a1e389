/-! WHAT HOLDS OF EVERY ROW THAT A RUN MAKES, beyond WF: works add up, loaded and handed over is the job's task alone, no bad stripe is taken or brought to, works on the saved value give the value -/
def p_st (w v : Int32) : Int32 := z_rem (31 * v + 7 * w + 1) 997
def p_it (w : Int32) : Nat → Int32 → Int32
  | 0, v => v
  | n + 1, v => p_it w n (p_st w v)
theorem p_it_s (w : Int32) : ∀ (n : Nat) (v : Int32), p_it w (n + 1) v = p_st w (p_it w n v)
  | 0, _ => rfl
  | n + 1, v => by
    show p_it w (n + 1) (p_st w v) = p_st w (p_it w n (p_st w v))
    exact p_it_s w n _
theorem p_it_add (w : Int32) : ∀ (a b : Nat) (v : Int32), p_it w (a + b) v = p_it w b (p_it w a v)
  | 0, b, v => by rw [Nat.zero_add]; rfl
  | a + 1, b, v => by
    rw [show a + 1 + b = (a + b) + 1 by omega]
    show p_it w (a + b) (p_st w v) = p_it w b (p_it w a (p_st w v))
    exact p_it_add w a b _
def p_sum (f : Nat → Int32) : Nat → Int32
  | 0 => 0
  | n + 1 => p_sum f n + f n
theorem p_sum_cg {f g : Nat → Int32} : ∀ (n : Nat), (∀ t, t < n → f t = g t) → p_sum f n = p_sum g n
  | 0, _ => rfl
  | n + 1, h => by rw [p_sum, p_sum, p_sum_cg n (fun t ht => h t (by omega)), h n (by omega)]
theorem p_sum_up {f g : Nat → Int32} {u : Nat} {d : Int32} : ∀ (n : Nat), u < n → (∀ t, t ≠ u → g t = f t) → g u = f u + d → p_sum g n = p_sum f n + d
  | 0, hu, _, _ => absurd hu (by omega)
  | n + 1, hu, h, hd => by
    rw [p_sum, p_sum]
    by_cases e : u = n
    · subst e
      rw [p_sum_cg (f := g) (g := f) u (fun t ht => h t (by omega)), hd, Int32.add_assoc]
    · rw [p_sum_up n (by omega) h hd, h n (Ne.symm e), Int32.add_assoc, Int32.add_comm d, ← Int32.add_assoc]
def Ha (r : zR) : Prop := r 4 = p_sum (fun t => tf r t 3) (cnt r)
def Hb (r : zR) : Prop := (∀ t, t < cnt r → (tf r t 4 = 1 ∨ tf r t 4 = 3) → r 5 = nI t) ∧ (∀ t, t < cnt r → tf r t 4 = 1 → tf r t 5 = r 6) ∧ (∀ t, t < cnt r → ∀ s, s < 12 → p_takes r t (nI s) = true → r (11 + s) = 0) ∧ (¬ r 5 = -1 → ∀ s : Nat, s < 12 → (r 6).toInt ≤ s → (s : Int) < (r 6).toInt + tI r (jt r) 0 → r (11 + s) = 0)
def Hd (K : Nat) (r : zR) : Prop := ∀ t, t < cnt r → ∃ n, n ≤ K ∧ tf r t 6 = nI n ∧ tf r t 1 = p_it (tf r t 0) n (tf r t 2)
def HR (K : Nat) (r : zR) : Prop := Ha r ∧ Hb r ∧ Hd K r
theorem takes_cg {r r' : zR} {t : Nat} (h0 : tf r' t 0 = tf r t 0) (h5 : tf r' t 5 = tf r t 5) (s : Int32) : p_takes r' t s = p_takes r t s := by unfold p_takes; rw [h0, h5]
theorem Hd.mono {K K' : Nat} {r : zR} (h : Hd K r) (hk : K ≤ K') : Hd K' r := fun t ht => by
  obtain ⟨n, a, b⟩ := h t ht
  exact ⟨n, by omega, b⟩
theorem HR.mono {K K' : Nat} {r : zR} (h : HR K r) (hk : K ≤ K') : HR K' r := ⟨h.1, h.2.1, h.2.2.mono hk⟩
theorem cnt_cg {r r' : zR} (e0 : r' 0 = r 0) : cnt r' = cnt r := by unfold cnt; rw [e0]
theorem jt_cg {r r' : zR} (e : r' 5 = r 5) : jt r' = jt r := by unfold jt; rw [e]
theorem Ha_cg {r r' : zR} (h : Ha r) (e0 : r' 0 = r 0) (e4 : r' 4 = r 4) (et : ∀ t, t < cnt r → tf r' t 3 = tf r t 3) : Ha r' := by
  unfold Ha at *
  rw [cnt_cg e0, e4, h]
  exact p_sum_cg _ (fun t ht => (et t ht).symm)
theorem Hd_cg {K : Nat} {r r' : zR} (h : Hd K r) (e0 : r' 0 = r 0) (et : ∀ t, t < cnt r → ∀ w, (w = 0 ∨ w = 1 ∨ w = 2 ∨ w = 6) → tf r' t w = tf r t w) : Hd K r' := by
  intro t ht
  rw [cnt_cg e0] at ht
  obtain ⟨n, a, b, c⟩ := h t ht
  exact ⟨n, a, by rw [et t ht 6 (by omega)]; exact b, by rw [et t ht 1 (by omega), et t ht 0 (by omega), et t ht 2 (by omega)]; exact c⟩
theorem Hb_cg {r r' : zR} (h : Hb r) (e0 : r' 0 = r 0) (e5 : r' 5 = r 5) (e6 : r' 6 = r 6) (eb : ∀ s, s < 12 → r (11 + s) = 0 → r' (11 + s) = 0) (et : ∀ t, t < cnt r → ∀ w, (w = 0 ∨ w = 4 ∨ w = 5) → tf r' t w = tf r t w) (hj : ¬ r 5 = -1 → jt r < cnt r) : Hb r' := by
  obtain ⟨b1, b2, c1, c2⟩ := h
  have hc := cnt_cg e0
  have hjt : jt r' = jt r := by unfold jt; rw [e5]
  refine ⟨fun t ht hs => ?_, fun t ht hs => ?_, fun t ht s hs hk => ?_, fun h5 s hs h6 h7 => ?_⟩
  · rw [hc] at ht
    rw [et t ht 4 (by omega)] at hs
    rw [e5]; exact b1 t ht hs
  · rw [hc] at ht
    rw [et t ht 4 (by omega)] at hs
    rw [et t ht 5 (by omega), e6]; exact b2 t ht hs
  · rw [hc] at ht
    rw [takes_cg (et t ht 0 (by omega)) (et t ht 5 (by omega))] at hk
    exact eb s hs (c1 t ht s hs hk)
  · rw [e5] at h5
    rw [e6] at h6 h7
    rw [hjt, tI_of (et _ (hj h5) 0 (by omega))] at h7
    exact eb s hs (c2 h5 s hs h6 h7)
theorem WF.hj {r : zR} (h : WF r) : ¬ r 5 = -1 → jt r < cnt r := fun q => (h.job q).1
/-- ticks, settings, counts, the job's ticks -/
theorem HR_lo {K : Nat} {r : zR} (hW : WF r) (h : HR K r) {k : Nat} (hk : k = 1 ∨ k = 2 ∨ k = 3 ∨ k = 7 ∨ k = 8 ∨ k = 9 ∨ k = 10) (x : Int32) : HR K (upd r k x) := by
  have et : ∀ t w, tf (upd r k x) t w = tf r t w := fun t w => tf_upd_lo r x (by omega)
  exact ⟨Ha_cg h.1 (pk_un (by omega)) (pk_un (by omega)) (fun t _ => et t 3), Hb_cg h.2.1 (pk_un (by omega)) (pk_un (by omega)) (pk_un (by omega)) (fun s hs q => by rw [pk_un (by omega)]; exact q) (fun t _ w _ => et t w) hW.hj, Hd_cg h.2.2 (pk_un (by omega)) (fun t _ w _ => et t w)⟩
/-! a tick -/
theorem work_tf (sv : Bool) (r : zR) (u : Nat) {w : Nat} (hw : w < 7) : tf (p_work sv r u) u w = if tf r u 4 = 2 then (if w = 1 then p_nv r u else if w = 2 then (if sv then p_nv r u else tf r u 2) else if w = 3 then tf r u 3 + 1 else if w = 6 then (if sv then 0 else tf r u 6 + 1) else tf r u w) else tf r u w := by
  unfold p_work
  split
  · rcases (by omega : w = 0 ∨ w = 1 ∨ w = 2 ∨ w = 3 ∨ w = 4 ∨ w = 5 ∨ w = 6) with rfl | rfl | rfl | rfl | rfl | rfl | rfl <;> simp (disch := omega) [tf_upd_lo, tf_upd_w, tf_upd_eq]
  · rfl
theorem work_oth (sv : Bool) (r : zR) {t u w : Nat} (h : u ≠ t) (hw : w < 7) : tf (p_work sv r t) u w = tf r u w := by
  unfold p_work
  split
  · simp (disch := omega) only [tf_upd_lo, tf_upd_t]
  · rfl
theorem work_cg (sv : Bool) {r r' : zR} {u : Nat} (h : ∀ w, w < 7 → tf r' u w = tf r u w) {w : Nat} (hw : w < 7) : tf (p_work sv r' u) u w = tf (p_work sv r u) u w := by
  have e : p_nv r' u = p_nv r u := by unfold p_nv; rw [h 1 (by omega), h 0 (by omega)]
  rw [work_tf sv r' u hw, work_tf sv r u hw, h 4 (by omega), h 2 (by omega), h 3 (by omega), h 6 (by omega), h w hw, e]
theorem works_tf (sv : Bool) {w : Nat} (hw : w < 7) : ∀ (n t : Nat) (r : zR) (u : Nat), tf (p_works sv n t r) u w = if t ≤ u ∧ u < t + n then tf (p_work sv r u) u w else tf r u w
  | 0, t, r, u => by rw [if_neg (by omega)]; rfl
  | n + 1, t, r, u => by
    rw [p_works, works_tf sv hw n (t + 1)]
    by_cases e : u = t
    · subst e
      rw [if_neg (by omega), if_pos (by omega)]
    · rw [work_cg sv (fun w hw => work_oth sv r e hw) hw, work_oth sv r e hw]
      by_cases q : t + 1 ≤ u ∧ u < t + 1 + n
      · rw [if_pos q, if_pos (by omega)]
      · rw [if_neg q, if_neg (by omega)]
theorem works_same (sv : Bool) {w : Nat} (hw : w = 0 ∨ w = 4 ∨ w = 5) (n t : Nat) (r : zR) (u : Nat) : tf (p_works sv n t r) u w = tf r u w := by
  rw [works_tf sv (by omega)]
  split
  · rw [work_tf sv r u (by omega)]
    split
    · rcases hw with rfl | rfl | rfl <;> simp
    · rfl
  · rfl
theorem Ha_work (sv : Bool) {r : zR} (h : Ha r) {t : Nat} (ht : t < cnt r) : Ha (p_work sv r t) := by
  by_cases q : tf r t 4 = 2
  · have e4 : p_work sv r t 4 = r 4 + 1 := by
      unfold p_work
      rw [if_pos q, pk_us]
    unfold Ha at *
    rw [cnt_work, e4, h]
    refine (p_sum_up (u := t) (d := 1) _ ht (fun u hu => work_oth sv r hu (by omega)) ?_).symm
    show tf (p_work sv r t) t 3 = tf r t 3 + 1
    rw [work_tf sv r t (by omega), if_pos q]
    simp
  · rw [p_work, if_neg q]; exact h
theorem Ha_works (sv : Bool) : ∀ (n t : Nat) (r : zR), Ha r → t + n ≤ cnt r → Ha (p_works sv n t r)
  | 0, _, _, h, _ => h
  | n + 1, t, r, h, hn => by
    rw [p_works]
    exact Ha_works sv n (t + 1) _ (Ha_work sv h (by omega)) (by rw [cnt_work]; omega)
theorem works_cnt (sv : Bool) (n t : Nat) (r : zR) : cnt (p_works sv n t r) = cnt r := cnt_cg (p_works_lo sv (by omega) (by omega) n t r)
theorem HR_works {K : Nat} {r : zR} (sv : Bool) (hW : WF r) (h : HR K r) : HR (K + 1) (p_works sv (cnt r) 0 r) := by
  refine ⟨Ha_works sv _ 0 _ h.1 (by omega), Hb_cg h.2.1 (p_works_lo sv (by omega) (by omega) _ _ r) (p_works_lo sv (by omega) (by omega) _ _ r) (p_works_lo sv (by omega) (by omega) _ _ r) (fun s hs q => by rw [p_works_lo sv (by omega) (by omega)]; exact q) (fun t _ w hw => works_same sv hw _ _ r t) hW.hj, ?_⟩
  intro t ht
  rw [works_cnt] at ht
  obtain ⟨n, a, b, c⟩ := h.2.2 t ht
  have e : ∀ w, w < 7 → tf (p_works sv (cnt r) 0 r) t w = tf (p_work sv r t) t w := fun w hw => by rw [works_tf sv hw, if_pos (by omega)]
  by_cases q : tf r t 4 = 2
  · cases sv with
    | true =>
      refine ⟨0, by omega, ?_, ?_⟩
      · rw [e 6 (by omega), work_tf true r t (by omega), if_pos q]; simp; rfl
      · rw [e 1 (by omega), e 2 (by omega), work_tf true r t (by omega), work_tf true r t (by omega), if_pos q]; simp [p_it, q]
    | false =>
      refine ⟨n + 1, by omega, ?_, ?_⟩
      · rw [e 6 (by omega), work_tf false r t (by omega), if_pos q, ← nI_1, ← b]; simp
      · rw [e 1 (by omega), e 2 (by omega), e 0 (by omega), work_tf false r t (by omega), work_tf false r t (by omega), work_tf false r t (by omega), if_pos q]
        simp only [q, if_true, if_false, Bool.false_eq_true, Nat.reduceEqDiff]
        rw [p_it_s, ← c]
        rfl
  · refine ⟨n, by omega, ?_, ?_⟩
    · rw [e 6 (by omega), work_tf sv r t (by omega), if_neg q]; exact b
    · rw [e 1 (by omega), e 2 (by omega), e 0 (by omega), work_tf sv r t (by omega), work_tf sv r t (by omega), work_tf sv r t (by omega), if_neg q, if_neg q, if_neg q]; exact c
theorem HR_fin {K : Nat} {r : zR} (hW : WF r) (h : HR K r) (hj : ¬ r 5 = -1) (x : Int32) : HR K (p_finish (upd r 7 x)) := by
  obtain ⟨j1, j2, j6⟩ := hW.job hj
  have h6 := hW.1.1
  have hjt : jt (upd r 7 x) = jt r := by unfold jt; rw [pk_un (by omega)]
  have e0 : p_finish (upd r 7 x) 0 = r 0 := by simp (disch := omega) only [p_finish, pk_un]
  have lo : ∀ k, k < 23 → k ≠ 2 → k ≠ 5 → k ≠ 7 → p_finish (upd r 7 x) k = r k := fun k a b c d => by simp (disch := omega) only [p_finish, pk_un]
  have t1 : ∀ u w, u ≠ jt r → w < 7 → tf (p_finish (upd r 7 x)) u w = tf r u w := fun u w hu hw => by simp (disch := omega) only [p_finish, hjt, tf_upd_lo, tf_upd_t]
  have t2 : ∀ w, w < 7 → w ≠ 4 → w ≠ 5 → tf (p_finish (upd r 7 x)) (jt r) w = tf r (jt r) w := fun w hw a b => by simp (disch := omega) only [p_finish, hjt, tf_upd_lo, tf_upd_w]
  have t4 : tf (p_finish (upd r 7 x)) (jt r) 4 = 2 := by simp (disch := omega) only [p_finish, hjt, tf_upd_lo, tf_upd_w, tf_upd_eq]
  have t5 : tf (p_finish (upd r 7 x)) (jt r) 5 = r 6 := by simp (disch := omega) only [p_finish, hjt, tf_upd_lo, tf_upd_eq, pk_un]
  have t0 : ∀ u w, w < 7 → w ≠ 4 → w ≠ 5 → tf (p_finish (upd r 7 x)) u w = tf r u w := fun u w hw a b => by
    by_cases e : u = jt r
    · subst e; exact t2 w hw a b
    · exact t1 u w e hw
  have hc := cnt_cg e0
  obtain ⟨b1, b2, c1, c2⟩ := h.2.1
  refine ⟨Ha_cg h.1 e0 (lo 4 (by omega) (by omega) (by omega) (by omega)) (fun t _ => t0 t 3 (by omega) (by omega) (by omega)), ⟨?_, ?_, ?_, ?_⟩, Hd_cg h.2.2 e0 (fun t _ w hw => t0 t w (by omega) (by omega) (by omega))⟩
  · intro t ht hs
    rw [hc] at ht
    by_cases e : t = jt r
    · subst e
      rw [t4] at hs
      rcases hs with q | q <;> exact absurd q (by decide)
    · rw [t1 t 4 e (by omega)] at hs
      have := b1 t ht hs
      rw [j2] at this
      exact absurd ((nI_eq (by omega) (by omega)).mp this).symm e
  · intro t ht hs
    rw [hc] at ht
    by_cases e : t = jt r
    · subst e
      rw [t4] at hs
      exact absurd hs (by decide)
    · rw [t1 t 4 e (by omega)] at hs
      have := b1 t ht (Or.inl hs)
      rw [j2] at this
      exact absurd ((nI_eq (by omega) (by omega)).mp this).symm e
  · intro t ht s hs hk
    rw [hc] at ht
    rw [lo _ (by omega) (by omega) (by omega) (by omega)]
    by_cases e : t = jt r
    · subst e
      rw [takes_iff (WF_fin hW hj x) (by rw [hc]; exact ht), nI_toInt (by omega)] at hk
      unfold tI at hk
      rw [t5, t2 0 (by omega) (by omega) (by omega)] at hk
      exact c2 hj s hs hk.2.1 hk.2.2
    · rw [takes_cg (t1 t 0 e (by omega)) (t1 t 5 e (by omega))] at hk
      exact c1 t ht s hs hk
  · intro h5
    exact absurd (by simp (disch := omega) only [p_finish, pk_un, pk_us]) h5
theorem HR_hand {K : Nat} {r : zR} (hW : WF r) (h : HR K r) (hj : ¬ r 5 = -1) (x y : Int32) : HR K (upd (upd (upd r 7 x) (23 + 7 * jt r + 4) 3) 7 y) := by
  obtain ⟨j1, j2, j6⟩ := hW.job hj
  have lo : ∀ k, k < 23 → k ≠ 7 → upd (upd (upd r 7 x) (23 + 7 * jt r + 4) 3) 7 y k = r k := fun k a b => by simp (disch := omega) only [pk_un]
  have t0 : ∀ u w, w < 7 → w ≠ 4 → tf (upd (upd (upd r 7 x) (23 + 7 * jt r + 4) 3) 7 y) u w = tf r u w := fun u w hw a => by
    by_cases e : u = jt r
    · rw [e]; simp (disch := omega) only [tf_upd_lo, tf_upd_w]
    · simp (disch := omega) only [tf_upd_lo, tf_upd_t]
  have t4 : ∀ u, u ≠ jt r → tf (upd (upd (upd r 7 x) (23 + 7 * jt r + 4) 3) 7 y) u 4 = tf r u 4 := fun u e => by simp (disch := omega) only [tf_upd_lo, tf_upd_t]
  have t43 : tf (upd (upd (upd r 7 x) (23 + 7 * jt r + 4) 3) 7 y) (jt r) 4 = 3 := by simp (disch := omega) only [tf_upd_lo, tf_upd_eq]
  have e0 := lo 0 (by omega) (by omega)
  have e5 := lo 5 (by omega) (by omega)
  have hc := cnt_cg e0
  have hjt := jt_cg e5
  obtain ⟨b1, b2, c1, c2⟩ := h.2.1
  refine ⟨Ha_cg h.1 e0 (lo 4 (by omega) (by omega)) (fun t _ => t0 t 3 (by omega) (by omega)), ⟨?_, ?_, ?_, ?_⟩, Hd_cg h.2.2 e0 (fun t _ w hw => t0 t w (by omega) (by omega))⟩
  · intro t ht hs
    rw [hc] at ht
    rw [e5]
    by_cases e : t = jt r
    · rw [e]; exact j2
    · rw [t4 t e] at hs; exact b1 t ht hs
  · intro t ht hs
    rw [hc] at ht
    by_cases e : t = jt r
    · subst e; rw [t43] at hs; exact absurd hs (by decide)
    · rw [t4 t e] at hs
      rw [t0 t 5 (by omega) (by omega), lo 6 (by omega) (by omega)]; exact b2 t ht hs
  · intro t ht s hs hk
    rw [hc] at ht
    rw [takes_cg (t0 t 0 (by omega) (by omega)) (t0 t 5 (by omega) (by omega))] at hk
    rw [lo _ (by omega) (by omega)]; exact c1 t ht s hs hk
  · intro h5 s hs h6 h7
    rw [lo 6 (by omega) (by omega)] at h6 h7
    rw [hjt, tI_of (t0 (jt r) 0 (by omega) (by omega))] at h7
    rw [lo _ (by omega) (by omega)]; exact c2 hj s hs h6 h7
theorem HR_load {K : Nat} {r : zR} (hW : WF r) (h : HR K r) : HR K (p_load r) := by
  unfold p_load
  split
  · exact h
  · rename_i hj
    split
    · exact HR_lo hW h (by omega) _
    · split
      · exact HR_hand hW h hj _ _
      · exact HR_fin hW h hj _
theorem HR_tick {K : Nat} {r : zR} (hW : WF r) (h : HR K r) : HR (K + 1) (p_tick r) := by
  have hL := WF_load hW
  have h1 := HR_works (p_saves (p_load r)) hL (HR_load hW h)
  exact HR_lo (WF_works _ _ 0 _ hL (by omega)) h1 (by omega) _
theorem HR_run {K : Nat} : ∀ (n : Nat) (r : zR), WF r → HR K r → HR (K + n) (p_run n r)
  | 0, _, _, h => h
  | n + 1, r, hW, h => by
    rw [p_run, show K + (n + 1) = (K + 1) + n by omega]
    exact HR_run n _ (WF_tick hW) (HR_tick hW h)
