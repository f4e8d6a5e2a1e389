/-! gaps, windows, and the longest row of free stripes -/
theorem ffn_free (r : zR) : ∀ (n s j : Nat), j < p_ffn r n s → p_free r (s + j) = true
  | 0, _, _, h => absurd h (Nat.not_lt_zero _)
  | n + 1, s, j, h => by
    rw [p_ffn_s] at h
    by_cases q : p_free r s = true
    · rw [if_pos q] at h
      cases j with
      | zero => exact q
      | succ j =>
        have := ffn_free r n (s + 1) j (by omega)
        rw [show s + (j + 1) = s + 1 + j by omega]; exact this
    · rw [if_neg q] at h; exact absurd h (Nat.not_lt_zero _)
theorem ffn_ge (r : zR) : ∀ (n s m : Nat), m ≤ n → (∀ j, j < m → p_free r (s + j) = true) → m ≤ p_ffn r n s
  | 0, _, m, h, _ => by omega
  | n + 1, s, m, h, hf => by
    cases m with
    | zero => omega
    | succ m =>
      rw [p_ffn_s, if_pos (show p_free r s = true from hf 0 (by omega))]
      have := ffn_ge r n (s + 1) m (by omega) (fun j hj => by
        have := hf (j + 1) (by omega)
        rw [show s + 1 + j = s + (j + 1) by omega]; exact this)
      omega
theorem ff_free {r : zR} {s j : Nat} (h : j < p_ff r s) : p_free r (s + j) = true := ffn_free r _ s j h
theorem ff_le (r : zR) (s : Nat) : p_ff r s ≤ 12 - s := p_ffn_le r _ s
theorem ff_ge {r : zR} {s m : Nat} (h : m ≤ 12 - s) (hf : ∀ j, j < m → p_free r (s + j) = true) : m ≤ p_ff r s := ffn_ge r _ s m h hf
theorem ff_s {r : zR} {s : Nat} (hs : s < 12) (h : p_free r s = true) : p_ff r s = p_ff r (s + 1) + 1 := by
  unfold p_ff
  rw [show 12 - s = (12 - (s + 1)) + 1 by omega, p_ffn_s, if_pos h]
/-- does a row of so many stripes fit anywhere -/
def Fit (r : zR) (w : Nat) : Prop := ∃ s, s < 12 ∧ w ≤ p_ff r s
theorem fit_gl {r : zR} {w : Nat} (hw : 1 ≤ w) : ∀ (s : Nat), s < 12 → w ≤ p_ff r s → ∃ s', s' < 12 ∧ w ≤ p_gl r s'
  | 0, _, h => ⟨0, by omega, by unfold p_gl; rw [if_pos rfl]; exact h⟩
  | s + 1, hs, h => by
    by_cases q : p_free r s = true
    · refine fit_gl hw s (by omega) ?_
      rw [ff_s (by omega) q]; omega
    · refine ⟨s + 1, hs, ?_⟩
      unfold p_gl
      rw [if_neg (by omega), Nat.add_sub_cancel, if_neg q]; exact h
theorem gl_le (r : zR) (s : Nat) : p_gl r s ≤ p_ff r s := by
  unfold p_gl
  split
  · exact Nat.le_refl _
  · split
    · omega
    · exact Nat.le_refl _
theorem gl_eq {r : zR} {s : Nat} (h : 1 ≤ p_gl r s) : p_gl r s = p_ff r s ∧ (1 ≤ s → p_free r (s - 1) = false) := by
  unfold p_gl at *
  split at h
  · rename_i q
    exact ⟨by rw [if_pos q], fun h1 => by omega⟩
  · rename_i q
    split at h
    · omega
    · rename_i q2
      refine ⟨by rw [if_neg q, if_neg q2], fun _ => ?_⟩
      cases q3 : p_free r (s - 1)
      · rfl
      · exact absurd q3 q2
/-- the gap that is found -/
theorem gapn_of (r : zR) (w : Nat) (hw : w < 2 ^ 31) : ∀ (n s : Nat) (b x : Int32), s + n = 12 → ((b = -1 ∧ x = 13 ∧ ∀ s', s' < s → ¬ w ≤ p_gl r s') ∨ ∃ s', s' < 12 ∧ b = nI s' ∧ w ≤ p_gl r s') → (p_gapn r (nI w) n s b x = -1 ∧ ∀ s', s' < 12 → ¬ w ≤ p_gl r s') ∨ ∃ s', s' < 12 ∧ p_gapn r (nI w) n s b x = nI s' ∧ w ≤ p_gl r s'
  | 0, s, b, x, hs, h => by
    rcases h with ⟨h1, h2, h3⟩ | ⟨s', h1, h2, h3⟩
    · exact Or.inl ⟨h1, fun s' q => h3 s' (by omega)⟩
    · exact Or.inr ⟨s', h1, h2, h3⟩
  | n + 1, s, b, x, hs, h => by
    have hg : p_gl r s ≤ 12 := by have := gl_le r s; have := ff_le r s; omega
    rw [p_gapn]
    by_cases q : nI w ≤ nI (p_gl r s) ∧ nI (p_gl r s) < x
    · rw [if_pos q]
      refine gapn_of r w hw n (s + 1) _ _ (by omega) (Or.inr ⟨s, by omega, rfl, ?_⟩)
      have := q.1
      rw [Int32.le_iff_toInt_le, nI_toInt hw, nI_toInt (by omega)] at this
      omega
    · rw [if_neg q]
      refine gapn_of r w hw n (s + 1) _ _ (by omega) ?_
      rcases h with ⟨h1, h2, h3⟩ | h
      · refine Or.inl ⟨h1, h2, fun s' hs' => ?_⟩
        by_cases e : s' = s
        · subst e
          intro q2
          refine q ⟨nI_le q2 (by omega), ?_⟩
          rw [h2]
          exact nI_lt (b := 13) (by omega) (by omega)
        · exact h3 s' (by omega)
      · exact Or.inr h
theorem gap_of (r : zR) (w : Nat) (hw : w < 2 ^ 31) : (v_gap r (nI w) = -1 ∧ ∀ s', s' < 12 → ¬ w ≤ p_gl r s') ∨ ∃ s', s' < 12 ∧ v_gap r (nI w) = nI s' ∧ w ≤ p_gl r s' :=
  gapn_of r w hw 12 0 (-1) 13 (by omega) (Or.inl ⟨rfl, rfl, fun s' h => absurd h (Nat.not_lt_zero _)⟩)
/-- the longest row -/
theorem lonn_of (r : zR) : ∀ (n s M : Nat), s + n = 12 → M ≤ 12 → (∀ s', s' < s → p_ff r s' ≤ M) → (M = 0 ∨ ∃ s', s' < 12 ∧ M = p_ff r s') → ∃ M', M' ≤ 12 ∧ p_lonn r n s (nI M) = nI M' ∧ (∀ s', s' < 12 → p_ff r s' ≤ M') ∧ (M' = 0 ∨ ∃ s', s' < 12 ∧ M' = p_ff r s')
  | 0, s, M, hs, hM, h1, h2 => ⟨M, hM, rfl, fun s' q => h1 s' (by omega), h2⟩
  | n + 1, s, M, hs, hM, h1, h2 => by
    have hg := ff_le r s
    rw [p_lonn]
    by_cases q : nI M < nI (p_ff r s)
    · rw [if_pos q]
      rw [Int32.lt_iff_toInt_lt, nI_toInt (by omega), nI_toInt (by omega)] at q
      refine lonn_of r n (s + 1) _ (by omega) (by omega) (fun s' hs' => ?_) (Or.inr ⟨s, by omega, rfl⟩)
      by_cases e : s' = s
      · subst e; exact Nat.le_refl _
      · have := h1 s' (by omega); omega
    · rw [if_neg q]
      rw [Int32.lt_iff_toInt_lt, nI_toInt (by omega), nI_toInt (by omega)] at q
      refine lonn_of r n (s + 1) _ (by omega) hM (fun s' hs' => ?_) h2
      by_cases e : s' = s
      · subst e; omega
      · exact h1 s' (by omega)
theorem lon_of (r : zR) : ∃ M, M ≤ 12 ∧ p_lonn r 12 0 0 = nI M ∧ (∀ w, 1 ≤ w → (w ≤ M ↔ Fit r w)) ∧ (M = 0 ∨ ∃ s, s < 12 ∧ M = p_ff r s) := by
  obtain ⟨M, h1, h2, h3, h4⟩ := lonn_of r 12 0 0 (by omega) (by omega) (fun s' h => absurd h (Nat.not_lt_zero _)) (Or.inl rfl)
  refine ⟨M, h1, h2, fun w hw => ⟨fun q => ?_, fun ⟨s, q1, q2⟩ => ?_⟩, h4⟩
  · rcases h4 with h4 | ⟨s, h4, h5⟩
    · omega
    · exact ⟨s, h4, by omega⟩
  · have := h3 s q1; omega
/-- it is not more than all free stripes -/
theorem lon_free (r : zR) : ∃ M F : Nat, M ≤ F ∧ F ≤ 12 ∧ p_lonn r 12 0 0 = nI M ∧ p_frn r 12 0 0 = nI F := by
  obtain ⟨M, h1, h2, -, h4⟩ := lon_of r
  refine ⟨M, nS (fN r) 12, ?_, nS_le1 (fun t => by unfold fN; split <;> omega) 12, h2, by rw [free_eq, fre_eq]⟩
  rcases h4 with rfl | ⟨s, hs, h4⟩
  · omega
  · have hl := ff_le r s
    have e : M = nS (fun j => if s ≤ j ∧ j < s + M then 1 else 0) 12 := by
      rw [nS_row, if_neg (by omega)]
      split <;> omega
    have : nS (fun j => if s ≤ j ∧ j < s + M then 1 else 0) 12 ≤ nS (fN r) 12 := by
      refine nS_le 12 (fun j hj => ?_)
      by_cases q : s ≤ j ∧ j < s + M
      · have := ff_free (r := r) (s := s) (j := j - s) (by omega)
        rw [show s + (j - s) = j by omega] at this
        rw [if_pos q]
        unfold fN
        rw [if_pos this]
        exact Nat.le_refl _
      · rw [if_neg q]; omega
    omega
/-- a window with nobody in its way -/
theorem one_iff {r : zR} (hW : WF r) {t : Nat} (ht : t < cnt r) {s w : Nat} (hw : 1 ≤ w) (hsw : s + w ≤ 12) : p_one r t (nI s) (nI w) = true ↔ ∃ j, s ≤ j ∧ j < s + w ∧ p_takes r t (nI j) = true := by
  by_cases h5 : tf r t 5 = -1
  · constructor
    · intro h; unfold p_one at h; rw [h5] at h; simp at h
    · rintro ⟨j, -, -, h⟩; unfold p_takes at h; rw [h5] at h; simp at h
  · obtain ⟨a, v, ea, ev, v1, v6, h12, hi⟩ := row_of hW ht h5
    have e : p_one r t (nI s) (nI w) = true ↔ a < s + w ∧ s < a + v := by
      unfold p_one
      rw [ea, ev, nI_add, nI_add]
      simp only [Bool.and_eq_true, decide_eq_true_eq]
      rw [Int32.lt_iff_toInt_lt, Int32.lt_iff_toInt_lt, nI_toInt (by omega), nI_toInt (by omega), nI_toInt (by omega), nI_toInt (by omega)]
      constructor
      · rintro ⟨-, b, c⟩; omega
      · intro b; exact ⟨nI_m1 (by omega), by omega, by omega⟩
    rw [e]
    constructor
    · intro h
      by_cases q : a ≤ s
      · exact ⟨s, Nat.le_refl _, by omega, (hi s (by omega)).mpr ⟨q, by omega⟩⟩
      · exact ⟨a, by omega, by omega, (hi a (by omega)).mpr ⟨Nat.le_refl _, by omega⟩⟩
    · rintro ⟨j, j1, j2, j3⟩
      have := (hi j (by omega)).mp j3
      omega
theorem wwn_of {r : zR} (hW : WF r) (f m : Int32) : ∀ (n t x : Nat), t + n ≤ cnt r → ∃ x' : Nat, x ≤ x' ∧ x' ≤ x + 6 * n ∧ p_wwn r f m n t (nI x) = nI x' ∧ (x' = x ↔ ∀ u, t ≤ u → u < t + n → p_one r u f m = false)
  | 0, t, x, _ => ⟨x, Nat.le_refl _, by omega, rfl, fun _ u h1 h2 => absurd h2 (by omega), fun _ => rfl⟩
  | n + 1, t, x, h => by
    obtain ⟨w, w1, w6, ew⟩ := WF_w hW (t := t) (by omega)
    rw [p_wwn]
    by_cases q : p_one r t f m = true
    · obtain ⟨x', a, b, c, d⟩ := wwn_of hW f m n (t + 1) (x + w) (by omega)
      rw [if_pos q, ew, nI_add]
      refine ⟨x', by omega, by omega, c, fun e => by omega, fun e => ?_⟩
      have := e t (Nat.le_refl _) (by omega)
      rw [q] at this; cases this
    · obtain ⟨x', a, b, c, d⟩ := wwn_of hW f m n (t + 1) x (by omega)
      rw [if_neg q]
      refine ⟨x', a, by omega, c, fun e u h1 h2 => ?_, fun e => d.mpr (fun u h1 h2 => e u (by omega) (by omega))⟩
      by_cases e2 : u = t
      · subst e2
        cases q2 : p_one r u f m
        · rfl
        · exact absurd q2 q
      · exact d.mp e u (by omega) (by omega)
theorem ww_of {r : zR} (hW : WF r) (f m : Int32) : ∃ x : Nat, x ≤ 36 ∧ p_ww r f m = nI x ∧ (x = 0 ↔ ∀ u, u < cnt r → p_one r u f m = false) := by
  have h6 := hW.1.1
  obtain ⟨x, a, b, c, d⟩ := wwn_of hW f m (cnt r) 0 0 (by omega)
  exact ⟨x, by omega, c, fun q u hu => d.mp q u (by omega) (by omega), fun q => d.mpr (fun u _ h2 => q u (by omega))⟩
theorem mfn_iff (r : zR) : ∀ (n k : Nat), p_mfn r n k = true ↔ ∀ j, k ≤ j → j < k + n → r (11 + j) = 0 ∧ p_comer r (nI j) = -1
  | 0, k => ⟨fun _ j h1 h2 => absurd h2 (by omega), fun _ => rfl⟩
  | n + 1, k => by
    rw [p_mfn]
    by_cases q : r (11 + k) = 0 ∧ p_comer r (nI k) = -1
    · rw [if_pos q, mfn_iff r n (k + 1)]
      constructor
      · intro h j h1 h2
        by_cases e : j = k
        · rw [e]; exact q
        · exact h j (by omega) (by omega)
      · intro h j h1 h2
        exact h j (by omega) (by omega)
    · rw [if_neg q]
      constructor
      · intro h; cases h
      · intro h; exact absurd (h k (Nat.le_refl _) (by omega)) q
/-- the easiest window -/
theorem winn_of {r : zR} (hW : WF r) (w : Nat) : ∀ (n s : Nat) (b x : Int32), s + n + w = 13 → ((b = -1 ∧ ∀ s', s' < s → p_mfn r w s' = false) ∨ ∃ s', s' + w ≤ 12 ∧ b = nI s' ∧ p_mfn r w s' = true ∧ x = p_ww r (nI s') (nI w) ∧ ∀ u, u < s → p_mfn r w u = true → x ≤ p_ww r (nI u) (nI w)) → (p_winn r w n s b x = -1 ∧ ∀ s', s' + w ≤ 12 → p_mfn r w s' = false) ∨ ∃ s', s' + w ≤ 12 ∧ p_winn r w n s b x = nI s' ∧ p_mfn r w s' = true ∧ ∀ u, u + w ≤ 12 → p_mfn r w u = true → p_ww r (nI s') (nI w) ≤ p_ww r (nI u) (nI w)
  | 0, s, b, x, hs, h => by
    rcases h with ⟨h1, h2⟩ | ⟨s', h1, h2, h3, h4, h5⟩
    · exact Or.inl ⟨h1, fun s' q => h2 s' (by omega)⟩
    · exact Or.inr ⟨s', h1, h2, h3, fun u q1 q2 => by rw [← h4]; exact h5 u (by omega) q2⟩
  | n + 1, s, b, x, hs, h => by
    rw [p_winn]
    by_cases q : p_mfn r w s = true ∧ (b = -1 ∨ p_ww r (nI s) (nI w) < x)
    · rw [if_pos q]
      refine winn_of hW w n (s + 1) _ _ (by omega) (Or.inr ⟨s, by omega, rfl, q.1, rfl, fun u q1 q2 => ?_⟩)
      by_cases e : u = s
      · rw [e]; exact Int32.le_refl _
      · rcases h with ⟨h1, h2⟩ | ⟨s', h1, h2, h3, h4, h5⟩
        · rw [h2 u (by omega)] at q2; cases q2
        · have hb : ¬ b = -1 := by rw [h2]; exact nI_m1 (by omega)
          have := q.2.resolve_left hb
          have h6 := h5 u (by omega) q2
          rw [Int32.lt_iff_toInt_lt] at this
          rw [Int32.le_iff_toInt_le] at h6 ⊢
          omega
    · rw [if_neg q]
      refine winn_of hW w n (s + 1) _ _ (by omega) ?_
      rcases h with ⟨h1, h2⟩ | ⟨s', h1, h2, h3, h4, h5⟩
      · refine Or.inl ⟨h1, fun u hu => ?_⟩
        by_cases e : u = s
        · subst e
          cases q2 : p_mfn r w u
          · rfl
          · exact absurd ⟨q2, Or.inl h1⟩ q
        · exact h2 u (by omega)
      · refine Or.inr ⟨s', h1, h2, h3, h4, fun u hu q2 => ?_⟩
        by_cases e : u = s
        · subst e
          have : ¬ p_ww r (nI u) (nI w) < x := fun q3 => q ⟨q2, Or.inr q3⟩
          rw [Int32.lt_iff_toInt_lt] at this
          rw [Int32.le_iff_toInt_le]
          omega
        · exact h5 u (by omega) q2
/-- nobody is in the way of the easiest window just if a row of free stripes is long enough -/
theorem win_fit {r : zR} (hW : WF r) {w : Nat} (w1 : 1 ≤ w) (w6 : w ≤ 6) : v_win r (nI w) 1 = 0 ↔ Fit r w := by
  have hF : ∀ s, s + w ≤ 12 → ((p_mfn r w s = true ∧ ∀ u, u < cnt r → p_one r u (nI s) (nI w) = false) ↔ w ≤ p_ff r s) := by
    intro s hs
    constructor
    · rintro ⟨h1, h2⟩
      refine ff_ge (by omega) (fun j hj => ?_)
      rw [free_iff]
      have := (mfn_iff r w s).mp h1 (s + j) (by omega) (by omega)
      refine ⟨?_, this.2, this.1⟩
      rcases p_taker_cases r (nI (s + j)) with q | ⟨u, q1, -, q3⟩
      · exact q
      · have q4 := (one_iff hW q1 w1 hs).mpr ⟨s + j, by omega, by omega, q3⟩
        rw [h2 u q1] at q4; cases q4
    · intro h
      have hf : ∀ j, s ≤ j → j < s + w → p_free r j = true := fun j h1 h2 => by
        have := ff_free (r := r) (s := s) (j := j - s) (by omega)
        rw [show s + (j - s) = j by omega] at this
        exact this
      refine ⟨(mfn_iff r w s).mpr (fun j h1 h2 => ⟨((free_iff r j).mp (hf j h1 h2)).2.2, ((free_iff r j).mp (hf j h1 h2)).2.1⟩), fun u hu => ?_⟩
      cases q : p_one r u (nI s) (nI w)
      · rfl
      · obtain ⟨j, j1, j2, j3⟩ := (one_iff hW hu w1 hs).mp q
        have := ((free_iff r j).mp (hf j j1 j2)).1
        rw [taker_of hW hu j3] at this
        have h6 := hW.1.1
        exact absurd this (nI_m1 (by omega))
  have h0 : v_win0 r (nI w) = p_winn r w (13 - w) 0 (-1) 0 := by unfold v_win0; rw [nI_clamp (by omega)]
  unfold v_win
  rw [h0]
  rcases winn_of hW w (13 - w) 0 (-1) 0 (by omega) (Or.inl ⟨rfl, fun s' h => absurd h (Nat.not_lt_zero _)⟩) with ⟨h1, h2⟩ | ⟨s, h1, h2, h3, h4⟩
  · rw [h1, if_pos (Or.inl rfl)]
    constructor
    · intro q; exact absurd q (by decide)
    · rintro ⟨s, s1, s2⟩
      have hl := ff_le r s
      have := ((hF s (by omega)).mpr s2).1
      rw [h2 s (by omega)] at this; cases this
  · rw [h2, if_neg (fun q => q.elim (nI_m1 (by omega)) (by decide))]
    obtain ⟨x, x1, x2, x3⟩ := ww_of hW (nI s) (nI w)
    constructor
    · intro q
      rw [x2] at q
      have := (nI_eq (b := 0) (by omega) (by omega)).mp q
      exact ⟨s, by omega, (hF s h1).mp ⟨h3, x3.mp this⟩⟩
    · rintro ⟨u, u1, u2⟩
      have hl := ff_le r u
      obtain ⟨g1, g2⟩ := (hF u (by omega)).mpr u2
      obtain ⟨z, z1, z2, z3⟩ := ww_of hW (nI u) (nI w)
      have hz := z3.mpr g2
      have := h4 u (by omega) g1
      rw [x2, z2, hz, Int32.le_iff_toInt_le, nI_toInt (by omega), nI_toInt (by omega)] at this
      rw [x2, show x = 0 by omega]
      rfl
theorem gap_fit (r : zR) {w : Nat} (w1 : 1 ≤ w) (w6 : w ≤ 6) : (v_gap r (nI w) = -1 ∧ ¬ Fit r w) ∨ ∃ s, s + w ≤ 12 ∧ v_gap r (nI w) = nI s ∧ Fit r w ∧ (∀ j, s ≤ j → j < s + w → p_free r j = true) ∧ (1 ≤ s → p_free r (s - 1) = false) := by
  rcases gap_of r w (by omega) with ⟨h1, h2⟩ | ⟨s, h1, h2, h3⟩
  · refine Or.inl ⟨h1, fun ⟨s, s1, s2⟩ => ?_⟩
    obtain ⟨u, u1, u2⟩ := fit_gl w1 s s1 s2
    exact h2 u u1 u2
  · obtain ⟨g1, g2⟩ := gl_eq (r := r) (s := s) (by omega)
    have hl := ff_le r s
    refine Or.inr ⟨s, by omega, h2, ⟨s, h1, by omega⟩, fun j j1 j2 => ?_, g2⟩
    have := ff_free (r := r) (s := s) (j := j - s) (by omega)
    rw [show s + (j - s) = j by omega] at this
    exact this
