/-! actions keep it -/
theorem HR_mend {K : Nat} {r : zR} (hW : WF r) (h : HR K r) (s : Nat) (hs : s < 12) : HR K (p_mend r s) := by
  have et : ∀ t w, tf (upd r (11 + s) 0) t w = tf r t w := fun t w => tf_upd_lo r 0 (by omega)
  refine ⟨Ha_cg h.1 (pk_un (by omega)) (pk_un (by omega)) (fun t _ => et t 3), Hb_cg h.2.1 (pk_un (by omega)) (pk_un (by omega)) (pk_un (by omega)) (fun j hj q => ?_) (fun t _ w _ => et t w) hW.hj, Hd_cg h.2.2 (pk_un (by omega)) (fun t _ w _ => et t w)⟩
  by_cases e : j = s
  · subst e; exact pk_us
  · show upd r (11 + s) 0 (11 + j) = 0
    rw [pk_un (by omega)]; exact q
theorem HR_add {K : Nat} {r : zR} (hW : WF r) (h : HR K r) (hc6 : cnt r < 6) (w v : Int32) : HR K (p_add r w v) := by
  have hc := cnt_add hW w v
  have lo : ∀ k, k < 23 → k ≠ 0 → p_add r w v k = r k := fun k a b => by simp (disch := omega) only [p_add, pk_un]
  have t1 : ∀ u x, u ≠ cnt r → x < 7 → tf (p_add r w v) u x = tf r u x := fun u x hu hx => by simp (disch := omega) only [p_add, tf_upd_lo, tf_upd_t]
  have n1 : tf (p_add r w v) (cnt r) 1 = v := by simp (disch := omega) only [p_add, tf_upd_lo, tf_upd_w, tf_upd_eq]
  have n2 : tf (p_add r w v) (cnt r) 2 = v := by simp (disch := omega) only [p_add, tf_upd_lo, tf_upd_w, tf_upd_eq]
  have n3 : tf (p_add r w v) (cnt r) 3 = 0 := by simp (disch := omega) only [p_add, tf_upd_lo, tf_upd_w, tf_upd_eq]
  have n4 : tf (p_add r w v) (cnt r) 4 = 0 := by simp (disch := omega) only [p_add, tf_upd_lo, tf_upd_w, tf_upd_eq]
  have n5 : tf (p_add r w v) (cnt r) 5 = -1 := by simp (disch := omega) only [p_add, tf_upd_lo, tf_upd_w, tf_upd_eq]
  have n6 : tf (p_add r w v) (cnt r) 6 = 0 := by simp (disch := omega) only [p_add, tf_upd_lo, tf_upd_w, tf_upd_eq]
  obtain ⟨b1, b2, c1, c2⟩ := h.2.1
  have hjt : jt (p_add r w v) = jt r := by unfold jt; rw [lo 5 (by omega) (by omega)]
  refine ⟨?_, ⟨?_, ?_, ?_, ?_⟩, ?_⟩
  · have ha := h.1
    unfold Ha at *
    rw [hc, lo 4 (by omega) (by omega), p_sum, n3, Int32.add_zero, ha]
    exact p_sum_cg _ (fun t ht => (t1 t 3 (by omega) (by omega)).symm)
  · intro t ht hs
    rw [hc] at ht
    rw [lo 5 (by omega) (by omega)]
    by_cases e : t = cnt r
    · subst e; rw [n4] at hs; rcases hs with q | q <;> exact absurd q (by decide)
    · rw [t1 t 4 e (by omega)] at hs; exact b1 t (by omega) hs
  · intro t ht hs
    rw [hc] at ht
    rw [lo 6 (by omega) (by omega)]
    by_cases e : t = cnt r
    · subst e; rw [n4] at hs; exact absurd hs (by decide)
    · rw [t1 t 4 e (by omega)] at hs; rw [t1 t 5 e (by omega)]; exact b2 t (by omega) hs
  · intro t ht s hs hk
    rw [hc] at ht
    rw [lo _ (by omega) (by omega)]
    by_cases e : t = cnt r
    · subst e; unfold p_takes at hk; rw [n5] at hk; simp at hk
    · rw [takes_cg (t1 t 0 e (by omega)) (t1 t 5 e (by omega))] at hk; exact c1 t (by omega) s hs hk
  · intro h5 s hs h6 h7
    rw [lo 5 (by omega) (by omega)] at h5
    rw [lo 6 (by omega) (by omega)] at h6 h7
    have := hW.hj h5
    rw [hjt, tI_of (t1 (jt r) 0 (by omega) (by omega))] at h7
    rw [lo _ (by omega) (by omega)]; exact c2 h5 s hs h6 h7
  · intro t ht
    rw [hc] at ht
    by_cases e : t = cnt r
    · subst e; exact ⟨0, by omega, by rw [n6]; rfl, by rw [n1, n2]; rfl⟩
    · obtain ⟨n, a, b, c⟩ := h.2.2 t (by omega)
      exact ⟨n, a, by rw [t1 t 6 e (by omega)]; exact b, by rw [t1 t 1 e (by omega), t1 t 0 e (by omega), t1 t 2 e (by omega)]; exact c⟩
/-- a task goes off: value and saved value are one -/
theorem HR_goes {K : Nat} {r r' : zR} (hW : WF r) (h : HR K r) {u : Nat} (e0 : r' 0 = r 0) (e4 : r' 4 = r 4) (e6 : r' 6 = r 6) (e5 : r' 5 = -1 ∨ (r' 5 = r 5 ∧ ¬ r 5 = nI u))
    (eb : ∀ s, s < 12 → r (11 + s) = 0 → (∀ t, t < cnt r → t ≠ u → p_takes r t (nI s) = false) ∧ (¬ r' 5 = -1 → ¬ ((r 6).toInt ≤ s ∧ (s : Int) < (r 6).toInt + tI r (jt r) 0)) ∨ r' (11 + s) = 0)
    (et : ∀ t, t < cnt r → t ≠ u → ∀ w, w < 7 → tf r' t w = tf r t w) (e3 : u < cnt r → tf r' u 3 = tf r u 3 ∧ tf r' u 0 = tf r u 0 ∧ tf r' u 4 = 0 ∧ tf r' u 5 = -1 ∧ tf r' u 6 = 0 ∧ tf r' u 1 = tf r' u 2) (ej : r' 5 = -1 → ¬ r 5 = -1 → jt r ≠ u → ¬ (tf r (jt r) 4 = 1 ∨ tf r (jt r) 4 = 3)) : HR K r' := by
  have hc := cnt_cg e0
  have h6 := hW.1.1
  obtain ⟨b1, b2, c1, c2⟩ := h.2.1
  refine ⟨?_, ⟨?_, ?_, ?_, ?_⟩, ?_⟩
  · refine Ha_cg h.1 e0 e4 (fun t ht => ?_)
    by_cases e : t = u
    · subst e; exact (e3 ht).1
    · exact et t ht e 3 (by omega)
  · intro t ht hs
    rw [hc] at ht
    by_cases e : t = u
    · subst e; rw [(e3 ht).2.2.1] at hs; rcases hs with q | q <;> exact absurd q (by decide)
    · rw [et t ht e 4 (by omega)] at hs
      have q := b1 t ht hs
      rcases e5 with e5 | e5
      · have q5 : ¬ r 5 = -1 := by rw [q]; exact nI_m1 (by omega)
        have hjt : jt r = t := by unfold jt; rw [q, nI_clamp (by omega)]
        exact absurd (by rw [hjt]; exact hs) (ej e5 q5 (by rw [hjt]; exact e))
      · rw [e5.1]; exact q
  · intro t ht hs
    rw [hc] at ht
    by_cases e : t = u
    · subst e; rw [(e3 ht).2.2.1] at hs; exact absurd hs (by decide)
    · rw [et t ht e 4 (by omega)] at hs
      rw [et t ht e 5 (by omega), e6]; exact b2 t ht hs
  · intro t ht s hs hk
    rw [hc] at ht
    by_cases e : t = u
    · subst e; unfold p_takes at hk; rw [(e3 ht).2.2.2.1] at hk; simp at hk
    · rw [takes_cg (et t ht e 0 (by omega)) (et t ht e 5 (by omega))] at hk
      rcases eb s hs (c1 t ht s hs hk) with q | q
      · rw [q.1 t ht e] at hk; cases hk
      · exact q
  · intro h5 s hs h6 h7
    rcases e5 with e5 | e5
    · exact absurd e5 h5
    · rw [e5.1] at h5
      have hjt : jt r' = jt r := by unfold jt; rw [e5.1]
      have hne : jt r ≠ u := fun q => e5.2 (by rw [← q]; exact (hW.job h5).2.1)
      rw [hjt, tI_of (et _ (hW.hj h5) hne 0 (by omega))] at h7
      rw [e6] at h6 h7
      rcases eb s hs (c2 h5 s hs h6 h7) with q | q
      · exact absurd ⟨h6, h7⟩ (q.2 (by rw [e5.1]; exact h5))
      · exact q
  · intro t ht
    rw [hc] at ht
    by_cases e : t = u
    · subst e
      obtain ⟨-, -, -, -, q6, q1⟩ := e3 ht
      exact ⟨0, by omega, by rw [q6]; rfl, by rw [q1]; rfl⟩
    · obtain ⟨n, a, b, c⟩ := h.2.2 t ht
      exact ⟨n, a, by rw [et t ht e 6 (by omega)]; exact b, by rw [et t ht e 1 (by omega), et t ht e 0 (by omega), et t ht e 2 (by omega)]; exact c⟩
theorem HR_stop {K : Nat} {r : zR} (hW : WF r) (h : HR K r) {t : Nat} (ht : t < cnt r) (hj : ¬ r 5 = nI t) : HR K (p_stop r t) := by
  refine HR_goes (u := t) hW h (by simp (disch := omega) only [p_stop, upd_hi]) (by simp (disch := omega) only [p_stop, upd_hi]) (by simp (disch := omega) only [p_stop, upd_hi]) (Or.inr ⟨by simp (disch := omega) only [p_stop, upd_hi], hj⟩) (fun s hs q => Or.inr (by simp (disch := omega) only [p_stop, upd_hi]; exact q)) (fun u _ hu w hw => by simp (disch := omega) only [p_stop, tf_upd_t]) (fun _ => ?_) (fun q q2 => ?_)
  · simp (disch := omega) only [p_stop, tf_upd_w, tf_upd_eq, and_self]
  · simp (disch := omega) only [p_stop, upd_hi] at q
    exact absurd q q2
theorem bad1_lo (r : zR) (s : Nat) {k : Nat} (h : k ≠ 3) (h5 : k ≠ 5) : p_bad1 r s k = r k := by
  unfold p_bad1 p_drop
  split
  · simp (disch := omega) only [pk_un]
  · rfl
theorem bad1_tf (r : zR) (s t w : Nat) : tf (p_bad1 r s) t w = tf r t w := bad1_lo r s (by omega) (by omega)
/-- what a bad stripe does to the job -/
theorem bad1_5 {r : zR} (hW : WF r) (s : Nat) : (p_bad1 r s 5 = -1 ∧ (r 5 = -1 ∨ p_hurt r (nI s) = r 5 ∨ p_comer r (nI s) = r 5)) ∨ (p_bad1 r s 5 = r 5 ∧ ¬ r 5 = -1 ∧ ¬ p_hurt r (nI s) = r 5 ∧ ¬ p_comer r (nI s) = r 5) := by
  have hi := p_bad1_iff hW (nI s)
  unfold p_bad1
  split
  · rename_i q
    left
    exact ⟨by simp (disch := omega) only [p_drop, pk_un, pk_us], Or.inr (hi.mp q).2⟩
  · rename_i q
    by_cases h5 : r 5 = -1
    · exact Or.inl ⟨h5, Or.inl h5⟩
    · right
      refine ⟨rfl, h5, fun q2 => q (hi.mpr ⟨h5, Or.inl q2⟩), fun q2 => q (hi.mpr ⟨h5, Or.inr q2⟩)⟩
/-- the task that takes the stripe is hurt -/
theorem hurt_taker {r : zR} (hW : WF r) {s : Int32} {t : Nat} (ht : t < cnt r) (h : p_takes r t s = true) : p_hurt r s = nI t := by
  have h6 := hW.1.1
  have e := taker_of hW ht h
  unfold p_hurt
  rw [e, if_pos (nI_m1 (by omega))]
/-- a job whose stripe turns bad is lost -/
theorem bad_job {K : Nat} {r : zR} (hW : WF r) (h : HR K r) {s : Nat} (hs : s < 12) (h5 : ¬ r 5 = -1) (h6 : (r 6).toInt ≤ s) (h7 : (s : Int) < (r 6).toInt + tI r (jt r) 0) : p_hurt r (nI s) = r 5 ∨ p_comer r (nI s) = r 5 := by
  obtain ⟨j1, j2, j6⟩ := hW.job h5
  have e := nI_toInt (show s < 2 ^ 31 by omega)
  by_cases h1 : tf r (jt r) 4 = 1
  · left
    rw [j2]
    refine hurt_taker hW j1 ?_
    rw [takes_iff hW j1, e]
    have e5 := h.2.1.2.1 _ j1 h1
    have w5 := (hW.jb h5).2.2.1
    unfold tI at *
    rw [e5]
    exact ⟨by omega, h6, h7⟩
  · right
    rcases p_comer_cases r (nI s) with q | q
    · exact absurd q ((comer_iff hW (nI s)).mpr ⟨h5, h1, by rw [e]; exact h6, by rw [e]; exact h7⟩)
    · exact q.1
theorem hurt_comer {r : zR} (hW : WF r) {s : Int32} (h : p_comer r s = r 5) (h5 : ¬ r 5 = -1) (hs : tf r (jt r) 4 = 1 ∨ tf r (jt r) 4 = 3) : p_hurt r s = r 5 := by
  obtain ⟨j1, j2, j6⟩ := hW.job h5
  have hne : ¬ p_comer r s = -1 := by rw [h]; exact h5
  have hi := (comer_iff hW s).mp hne
  have h3 : tf r (jt r) 4 = 3 := hs.resolve_left hi.2.1
  unfold p_hurt
  rcases p_taker_cases r s with q | ⟨u, q1, q2, q3⟩
  · rw [if_neg (by rw [q]; simp), if_pos ⟨hne, by rw [h]; exact h3⟩, h]
  · have := comer_taker hW hne q1 q3
    rw [q2, if_pos (nI_m1 (by omega)), this, j2]
theorem HR_bad {K : Nat} {r : zR} (hW : WF r) (h : HR K r) {s : Nat} (hs : s < 12) : HR K (p_bad r s) := by
  have h6 := hW.1.1
  have lo : ∀ k, k < 23 → k ≠ 3 → k ≠ 5 → k ≠ 11 + s → p_bad r s k = r k := fun k a b c d => by
    unfold p_bad
    split
    · rw [pk_un d, bad1_lo r s b c]
    · simp (disch := omega) only [p_off, upd_hi]; rw [pk_un d, bad1_lo r s b c]
  have l5 : p_bad r s 5 = p_bad1 r s 5 := by
    unfold p_bad
    split
    · rw [pk_un (by omega)]
    · simp (disch := omega) only [p_off, upd_hi]; rw [pk_un (by omega)]
  rcases p_hurt_cases hW (nI s) with hh | ⟨u, hu, hu6, hh⟩
  · have et : ∀ t w, tf (p_bad r s) t w = tf r t w := fun t w => by
      unfold p_bad
      rw [if_pos hh, tf_upd_lo _ _ (by omega), bad1_tf]
    refine HR_goes (u := cnt r) hW h (lo 0 (by omega) (by omega) (by omega) (by omega)) (lo 4 (by omega) (by omega) (by omega) (by omega)) (lo 6 (by omega) (by omega) (by omega) (by omega)) ?_ ?_ (fun t _ _ w _ => et t w) (fun q => absurd q (by omega)) ?_
    · rw [l5]
      rcases bad1_5 hW s with q | q
      · exact Or.inl q.1
      · refine Or.inr ⟨q.1, fun q5 => ?_⟩
        have := hW.job q.2.1
        rw [q5] at this
        exact absurd ((nI_eq (by omega) (by omega)).mp this.2.1) (by omega)
    · intro j hj q
      by_cases e : j = s
      · subst e
        left
        refine ⟨fun t ht _ => ?_, fun q5 q7 => ?_⟩
        · cases hk : p_takes r t (nI j)
          · rfl
          · rw [hurt_taker hW ht hk] at hh; exact absurd hh (nI_m1 (by omega))
        · rw [l5] at q5
          rcases bad1_5 hW j with p | p
          · exact q5 p.1
          · rcases bad_job hW h hj p.2.1 q7.1 q7.2 with p2 | p2
            · exact p.2.2.1 p2
            · exact p.2.2.2 p2
      · right; rw [lo _ (by omega) (by omega) (by omega) (by omega)]; exact q
    · intro q q5 _ q4
      rw [l5] at q
      rcases bad1_5 hW s with p | p
      · rcases p.2 with p2 | p2 | p2
        · exact q5 p2
        · rw [hh] at p2; exact q5 p2.symm
        · rw [hurt_comer hW p2 q5 q4] at hh; exact q5 hh
      · rw [p.1] at q; exact q5 q
  · have e1 : (p_hurt r (nI s)).toNatClampNeg = u := by rw [hh, nI_clamp (by omega)]
    have eB : p_bad r s = p_off (upd (p_bad1 r s) (11 + s) 1) u := by
      unfold p_bad
      rw [if_neg (by rw [hh]; exact nI_m1 (by omega)), e1]
    have et : ∀ t, t ≠ u → ∀ w, w < 7 → tf (p_bad r s) t w = tf r t w := fun t ht w hw => by
      rw [eB]; simp (disch := omega) only [p_off, tf_upd_t]; rw [tf_upd_lo _ _ (by omega), bad1_tf]
    have eq : ∀ w, w < 7 → tf (upd (p_bad1 r s) (11 + s) 1) u w = tf r u w := fun w _ => by rw [tf_upd_lo _ _ (by omega), bad1_tf]
    refine HR_goes (u := u) hW h (lo 0 (by omega) (by omega) (by omega) (by omega)) (lo 4 (by omega) (by omega) (by omega) (by omega)) (lo 6 (by omega) (by omega) (by omega) (by omega)) ?_ ?_ (fun t _ e w hw => et t e w hw) (fun _ => ?_) ?_
    · rw [l5]
      rcases bad1_5 hW s with q | q
      · exact Or.inl q.1
      · exact Or.inr ⟨q.1, fun q5 => q.2.2.1 (by rw [hh, q5])⟩
    · intro j hj q
      by_cases e : j = s
      · subst e
        left
        refine ⟨fun t ht hne => ?_, fun q5 q7 => ?_⟩
        · cases hk : p_takes r t (nI j)
          · rfl
          · rw [hurt_taker hW ht hk] at hh; exact absurd ((nI_eq (by omega) (by omega)).mp hh) hne
        · rw [l5] at q5
          rcases bad1_5 hW j with p | p
          · exact q5 p.1
          · rcases bad_job hW h hj p.2.1 q7.1 q7.2 with p2 | p2
            · exact p.2.2.1 p2
            · exact p.2.2.2 p2
      · right; rw [lo _ (by omega) (by omega) (by omega) (by omega)]; exact q
    · rw [eB]
      simp (disch := omega) only [p_off, tf_upd_w, tf_upd_eq, eq, and_self]
    · intro q q5 q6 q4
      rw [l5] at q
      obtain ⟨j1, j2, j6⟩ := hW.job q5
      rcases bad1_5 hW s with p | p
      · rcases p.2 with p2 | p2 | p2
        · exact q5 p2
        · rw [hh, j2] at p2; exact q6 ((nI_eq (by omega) (by omega)).mp p2).symm
        · have := hurt_comer hW p2 q5 q4
          rw [hh, j2] at this; exact q6 ((nI_eq (by omega) (by omega)).mp this).symm
      · rw [p.1] at q; exact q5 q
theorem HR_bring {K : Nat} {r : zR} (hW : WF r) (h : HR K r) {t3 s3 : Int32} (hb : p_canb r t3 s3 = true) : HR K (p_bring r t3.toNatClampNeg s3) := by
  obtain ⟨t, s, rfl, rfl, ht, hs, h5, hsw, hdis⟩ := canb_of hW hb
  have h6 := hW.1.1
  rw [nI_clamp (by omega)]
  have hgood : ∀ j, j < 12 → s ≤ j → (j : Int) < s + tI r t 0 → r (11 + j) = 0 := by
    intro j hj j1 j2
    simp only [p_canb, Bool.and_eq_true, decide_eq_true_eq] at hb
    obtain ⟨w, w1, w6, ew⟩ := WF_w hW ht
    have hf := hb.2.2.2.2
    rw [nI_clamp (n := t) (by omega), nI_clamp (n := s) (by omega), ew, nI_clamp (by omega)] at hf
    have := (fitn_of r (nI t) w s hf j j1 (by unfold tI at j2; rw [ew, nI_toInt (by omega)] at j2; omega)).1
    exact (hW.2.2.2.1 j hj).resolve_right this
  have t0 : ∀ u w, w < 7 → w ≠ 4 → w ≠ 5 → tf (p_bring r t (nI s)) u w = tf r u w := fun u w hw a b => by
    by_cases e : u = t
    · subst e; simp only [p_bring, p_br1]; split <;> (try split) <;> simp (disch := omega) only [tf_upd_w, tf_upd_lo]
    · simp only [p_bring, p_br1]; split <;> (try split) <;> simp (disch := omega) only [tf_upd_t, tf_upd_lo]
  have t1 : ∀ u x, u ≠ t → x < 7 → tf (p_bring r t (nI s)) u x = tf r u x := fun u x e hx => by
    simp only [p_bring, p_br1]; split <;> (try split) <;> simp (disch := omega) only [tf_upd_t, tf_upd_lo]
  have lo : ∀ j, j < 23 → j ≠ 5 → j ≠ 6 → j ≠ 7 → p_bring r t (nI s) j = r j := fun j a b c d => by
    simp only [p_bring, p_br1]; split <;> (try split) <;> simp (disch := omega) only [pk_un]
  have l5 : p_bring r t (nI s) 5 = nI t := by
    simp only [p_bring, p_br1]; split <;> (try split) <;> simp (disch := omega) only [pk_un, pk_us]
  have l6 : p_bring r t (nI s) 6 = nI s := by
    simp only [p_bring, p_br1]; split <;> (try split) <;> simp (disch := omega) only [pk_un, pk_us]
  have t45 : (tf (p_bring r t (nI s)) t 4 = 1 ∧ tf (p_bring r t (nI s)) t 5 = nI s) ∨ (¬ tf (p_bring r t (nI s)) t 4 = 1 ∧ tf (p_bring r t (nI s)) t 5 = tf r t 5) := by
    by_cases q : tf r t 4 = 0
    · left
      simp (disch := omega) only [p_bring, p_br1, if_pos q, tf_upd_w, tf_upd_eq, and_self]
    · right
      have q1 : ¬ tf r t 4 = 1 := fun e => by
        have := h.2.1.1 t ht (Or.inl e)
        rw [h5] at this
        exact nI_m1 (by omega) this.symm
      simp only [p_bring, p_br1, if_neg q]
      split
      · simp (disch := omega) only [tf_upd_w, tf_upd_eq, tf_upd_lo, and_true]
        decide
      · simp (disch := omega) only [tf_upd_lo, and_true]
        exact q1
  have e0 := lo 0 (by omega) (by omega) (by omega) (by omega)
  have hc := cnt_cg e0
  have hjt : jt (p_bring r t (nI s)) = t := by unfold jt; rw [l5, nI_clamp (by omega)]
  have hW' := WF_bring hW ht hs h5 hsw hdis
  obtain ⟨b1, b2, c1, c2⟩ := h.2.1
  refine ⟨Ha_cg h.1 e0 (lo 4 (by omega) (by omega) (by omega) (by omega)) (fun u _ => t0 u 3 (by omega) (by omega) (by omega)), ⟨?_, ?_, ?_, ?_⟩, Hd_cg h.2.2 e0 (fun u _ w hw => t0 u w (by omega) (by omega) (by omega))⟩
  · intro u hu q
    rw [hc] at hu
    rw [l5]
    by_cases e : u = t
    · rw [e]
    · rw [t1 u 4 e (by omega)] at q
      have := b1 u hu q
      rw [h5] at this
      exact absurd this.symm (nI_m1 (by omega))
  · intro u hu q
    rw [hc] at hu
    rw [l6]
    by_cases e : u = t
    · subst e
      rcases t45 with p | p
      · exact p.2
      · exact absurd q p.1
    · rw [t1 u 4 e (by omega)] at q
      have := b1 u hu (Or.inl q)
      rw [h5] at this
      exact absurd this.symm (nI_m1 (by omega))
  · intro u hu j hj hk
    rw [lo _ (by omega) (by omega) (by omega) (by omega)]
    by_cases e : u = t
    · subst e
      rcases t45 with p | p
      · rw [takes_iff hW' hu, nI_toInt (by omega)] at hk
        unfold tI at hk
        rw [p.2, t0 u 0 (by omega) (by omega) (by omega), nI_toInt (by omega)] at hk
        exact hgood j hj (by omega) hk.2.2
      · rw [hc] at hu
        rw [takes_cg (t0 u 0 (by omega) (by omega) (by omega)) p.2] at hk
        exact c1 u hu j hj hk
    · rw [hc] at hu
      rw [takes_cg (t1 u 0 e (by omega)) (t1 u 5 e (by omega))] at hk
      exact c1 u hu j hj hk
  · intro _ j hj j1 j2
    rw [hjt, tI_of (t0 t 0 (by omega) (by omega) (by omega))] at j2
    rw [l6, nI_toInt (by omega)] at j1 j2
    rw [lo _ (by omega) (by omega) (by omega) (by omega)]
    exact hgood j hj (by omega) j2
