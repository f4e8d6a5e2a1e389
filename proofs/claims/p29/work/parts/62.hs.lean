/-! .. of the whole of an object: now, what is remembered, what is saved; two tasks at least, and undone at most one is gone -/
def HS (K : Nat) (S : zS) : Prop := 2 ≤ cnt S.1 ∧ HR K S.1 ∧ (∀ i, i < S.2.1.1 → HR K (S.2.1.2 i)) ∧ ((∀ i, i + 1 < S.2.1.1 → cnt (S.2.1.2 (i + 1)) ≤ cnt (S.2.1.2 i) + 1) ∧ (0 < S.2.1.1 → cnt S.1 ≤ cnt (S.2.1.2 (S.2.1.1 - 1)) + 1)) ∧ S.2.1.1 ≤ 14 ∧ ∀ j, j < 2 → S.2.2.2.2 j = true → HR K (S.2.2.2.1 j) ∧ 2 ≤ cnt (S.2.2.2.1 j)
theorem HS.mono {K K' : Nat} {S : zS} (h : HS K S) (hk : K ≤ K') : HS K' S := ⟨h.1, h.2.1.mono hk, fun i hi => (h.2.2.1 i hi).mono hk, h.2.2.2.1, h.2.2.2.2.1, fun j hj hf => ⟨(h.2.2.2.2.2 j hj hf).1.mono hk, (h.2.2.2.2.2 j hj hf).2⟩⟩
theorem rr_lo {acts i : Nat} {rr : Nat → zR} {r : zR} (h : acts < 14) (hi : i ≠ acts) : rr_more acts rr r i = rr i := by unfold rr_more; rw [if_pos h, if_neg hi]
theorem rr_at {acts : Nat} {rr : Nat → zR} {r : zR} (h : acts < 14) : rr_more acts rr r acts = r := by unfold rr_more; rw [if_pos h, if_pos rfl]
theorem rr_hi {acts i : Nat} {rr : Nat → zR} {r : zR} (h : ¬ acts < 14) (hi : i ≠ 13) : rr_more acts rr r i = rr (i + 1) := by unfold rr_more; rw [if_neg h, if_neg hi]
theorem rr_13 {acts : Nat} {rr : Nat → zR} {r : zR} (h : ¬ acts < 14) : rr_more acts rr r 13 = r := by unfold rr_more; rw [if_neg h, if_pos rfl]
theorem am_lo {acts : Nat} (h : acts < 14) : acts_more acts = acts + 1 := by unfold acts_more; rw [if_pos h]
theorem am_hi {acts : Nat} (h : ¬ acts < 14) : acts_more acts = 14 := by unfold acts_more; rw [if_neg h]
theorem HS_now {K K' : Nat} {S : zS} {r' : zR} (h : HS K S) (hr : HR K' r') (hk : K ≤ K') (c1 : cnt S.1 ≤ cnt r') (c2 : cnt r' ≤ cnt S.1 + 1) : HS K' (s_now S r') := by
  obtain ⟨r, ⟨acts, rr⟩, tx, sl, fl⟩ := S
  obtain ⟨h1, h2, h3, ⟨h4, h5⟩, h6, h7⟩ := h
  dsimp only at h1 h2 h3 h4 h5 h6 h7 c1 c2
  refine ⟨by show 2 ≤ cnt r'; omega, hr, ?_, ⟨?_, ?_⟩, ?_, fun j hj hf => ⟨(h7 j hj hf).1.mono hk, (h7 j hj hf).2⟩⟩
  · intro i hi
    show HR K' (rr_more acts rr r i)
    change i < acts_more acts at hi
    by_cases q : acts < 14
    · rw [am_lo q] at hi
      by_cases e : i = acts
      · rw [e, rr_at q]; exact h2.mono hk
      · rw [rr_lo q e]; exact (h3 i (by omega)).mono hk
    · rw [am_hi q] at hi
      by_cases e : i = 13
      · rw [e, rr_13 q]; exact h2.mono hk
      · rw [rr_hi q e]; exact (h3 (i + 1) (by omega)).mono hk
  · intro i hi
    show cnt (rr_more acts rr r (i + 1)) ≤ cnt (rr_more acts rr r i) + 1
    change i + 1 < acts_more acts at hi
    by_cases q : acts < 14
    · rw [am_lo q] at hi
      rw [rr_lo q (by omega : i ≠ acts)]
      by_cases e : i + 1 = acts
      · rw [e, rr_at q]
        have := h5 (by omega)
        rw [show acts - 1 = i by omega] at this
        exact this
      · rw [rr_lo q e]; exact h4 i (by omega)
    · rw [am_hi q] at hi
      rw [rr_hi q (by omega : i ≠ 13)]
      by_cases e : i + 1 = 13
      · rw [e, rr_13 q]
        have := h5 (by omega)
        rw [show acts - 1 = 13 by omega] at this
        exact this
      · rw [rr_hi q e]; exact h4 (i + 1) (by omega)
  · intro _
    show cnt r' ≤ cnt (rr_more acts rr r (acts_more acts - 1)) + 1
    by_cases q : acts < 14
    · rw [am_lo q, show acts + 1 - 1 = acts by omega, rr_at q]; exact c2
    · rw [am_hi q, show 14 - 1 = 13 by omega, rr_13 q]; exact c2
  · show acts_more acts ≤ 14
    unfold acts_more
    split <;> omega
/-- something done, and undone -/
def s_ru (S : zS) : zS := (S.1, (acts_more S.2.1.1 - 1, rr_more S.2.1.1 S.2.1.2 S.1), S.2.2)
theorem undo_now (S : zS) (r' : zR) : s_undo (s_now S r') = s_ru S := by
  obtain ⟨r, ⟨acts, rr⟩, tx, sl, fl⟩ := S
  show (rr_more acts rr r (acts_more acts - 1), _) = _
  have e : rr_more acts rr r (acts_more acts - 1) = r := by
    by_cases q : acts < 14
    · rw [am_lo q, show acts + 1 - 1 = acts by omega, rr_at q]
    · rw [am_hi q, show 14 - 1 = 13 by omega, rr_13 q]
  rw [e]
  rfl
theorem HS_ru {K : Nat} {S : zS} (h : HS K S) : HS K (s_ru S) := by
  obtain ⟨r, ⟨acts, rr⟩, tx, sl, fl⟩ := S
  obtain ⟨h1, h2, h3, ⟨h4, h5⟩, h6, h7⟩ := h
  dsimp only at h1 h2 h3 h4 h5 h6 h7
  by_cases q : acts < 14
  · have e : ∀ i, i < acts → rr_more acts rr r i = rr i := fun i hi => rr_lo q (by omega)
    refine ⟨h1, h2, ?_, ⟨?_, ?_⟩, ?_, h7⟩
    · intro i hi
      change i < acts_more acts - 1 at hi
      rw [am_lo q] at hi
      show HR K (rr_more acts rr r i)
      rw [e i (by omega)]; exact h3 i (by omega)
    · intro i hi
      change i + 1 < acts_more acts - 1 at hi
      rw [am_lo q] at hi
      show cnt (rr_more acts rr r (i + 1)) ≤ cnt (rr_more acts rr r i) + 1
      rw [e i (by omega), e (i + 1) (by omega)]; exact h4 i (by omega)
    · intro hi
      change 0 < acts_more acts - 1 at hi
      rw [am_lo q] at hi
      show cnt r ≤ cnt (rr_more acts rr r (acts_more acts - 1 - 1)) + 1
      rw [am_lo q, show acts + 1 - 1 - 1 = acts - 1 by omega, e _ (by omega)]; exact h5 (by omega)
    · show acts_more acts - 1 ≤ 14
      rw [am_lo q]; omega
  · have e : ∀ i, i < 13 → rr_more acts rr r i = rr (i + 1) := fun i hi => rr_hi q (by omega)
    refine ⟨h1, h2, ?_, ⟨?_, ?_⟩, ?_, h7⟩
    · intro i hi
      change i < acts_more acts - 1 at hi
      rw [am_hi q] at hi
      show HR K (rr_more acts rr r i)
      rw [e i (by omega)]; exact h3 _ (by omega)
    · intro i hi
      change i + 1 < acts_more acts - 1 at hi
      rw [am_hi q] at hi
      show cnt (rr_more acts rr r (i + 1)) ≤ cnt (rr_more acts rr r i) + 1
      rw [e i (by omega), e (i + 1) (by omega)]; exact h4 _ (by omega)
    · intro hi
      show cnt r ≤ cnt (rr_more acts rr r (acts_more acts - 1 - 1)) + 1
      rw [am_hi q, show 14 - 1 - 1 = 12 by omega, e _ (by omega)]
      have := h5 (by omega)
      rw [show acts - 1 = 13 by omega] at this
      exact this
    · show acts_more acts - 1 ≤ 14
      rw [am_hi q]; omega
theorem HS_undo {K : Nat} {S : zS} (h : HS K S) (h3c : 3 ≤ cnt S.1) (h0 : 0 < S.2.1.1) : HS K (s_undo S) := by
  obtain ⟨r, ⟨acts, rr⟩, tx, sl, fl⟩ := S
  obtain ⟨h1, h2, h3, ⟨h4, h5⟩, h6, h7⟩ := h
  dsimp only at h1 h2 h3 h4 h5 h6 h7 h0 h3c
  refine ⟨?_, h3 (acts - 1) (by omega), ?_, ⟨?_, ?_⟩, ?_, h7⟩
  · show 2 ≤ cnt (rr (acts - 1))
    have := h5 h0
    omega
  · intro i hi
    change i < acts - 1 at hi
    exact h3 i (by omega)
  · intro i hi
    change i + 1 < acts - 1 at hi
    exact h4 i (by omega)
  · intro hi
    change 0 < acts - 1 at hi
    show cnt (rr (acts - 1)) ≤ cnt (rr (acts - 1 - 1)) + 1
    have := h4 (acts - 1 - 1) (by omega)
    rw [show acts - 1 - 1 + 1 = acts - 1 by omega] at this
    exact this
  · show acts - 1 ≤ 14
    omega
theorem HS_save {K : Nat} {S : zS} (h : HS K S) (x : Int32) : HS K (s_save S x) := by
  obtain ⟨h1, h2, h3, h4, h6, h7⟩ := h
  refine ⟨h1, h2, h3, h4, h6, fun j hj hf => ?_⟩
  show HR K (if j = x.toNatClampNeg then S.1 else S.2.2.2.1 j) ∧ 2 ≤ cnt (if j = x.toNatClampNeg then S.1 else S.2.2.2.1 j)
  change (if j = x.toNatClampNeg then true else S.2.2.2.2 j) = true at hf
  by_cases e : j = x.toNatClampNeg
  · rw [if_pos e]; exact ⟨h2, h1⟩
  · rw [if_neg e] at hf ⊢; exact h7 j hj hf
theorem HS_rest {K : Nat} {S : zS} (h : HS K S) {x : Int32} (hx : x.toNatClampNeg < 2) (hf : S.2.2.2.2 x.toNatClampNeg = true) : HS K (s_rest S x) := by
  obtain ⟨h1, h2, h3, h4, h6, h7⟩ := h
  have := h7 _ hx hf
  refine ⟨this.2, this.1, fun i hi => ?_, ⟨fun i hi => ?_, fun hi => ?_⟩, ?_, h7⟩
  · exact absurd hi (Nat.not_lt_zero _)
  · exact absurd hi (Nat.not_lt_zero _)
  · exact absurd hi (Nat.not_lt_zero _)
  · show 0 ≤ 14
    omega
