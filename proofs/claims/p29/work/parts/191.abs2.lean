/-! more of what the class's cells do to the row; folds over stripes and tasks -/
theorem WF_new : WF p_new := by
  have e : ∀ k, 10 < k → p_new k = 0 := fun k hk => by
    simp (disch := omega) only [p_new, p_clr, pk_un]
  have hc : cnt p_new = 0 := by decide
  refine ⟨⟨by decide, by decide⟩, fun t ht => absurd ht (by rw [hc]; omega), Or.inl (by decide), fun s _ => Or.inl (e _ (by omega)), by decide, fun t u ht => absurd ht (by rw [hc]; omega)⟩
theorem p_vic_eq {r : zR} (h : WF r) (s : Int32) : p_vic r s = p_hurt r s := by
  unfold p_vic p_hurt
  by_cases a : ¬ p_comer r s = -1 ∧ tf r (p_comer r s).toNatClampNeg 4 = 3
  · rw [if_pos a]
    by_cases b : p_taker r s = -1
    · rw [if_neg (not_not_intro b), if_pos a]
    · rw [if_pos b]
      rcases p_taker_cases r s with q | ⟨u, q1, q2, q3⟩
      · exact absurd q b
      · rcases p_comer_cases r s with c | ⟨c, c2, -⟩
        · exact absurd c a.1
        · rw [q2, c, comer_taker h a.1 q1 q3]; exact (h.jb c2).2.1
  · rw [if_neg a]
    by_cases b : p_taker r s = -1
    · rw [if_neg (not_not_intro b), if_neg a, b]
    · rw [if_pos b]
/-- the word of the class's task at k is the row's word w -/
def k_wd : Nat → Nat
  | 4 => 6 | 5 => 4 | 6 => 5 | k => k
theorem Abs.tk {I : zI} {a : Nat} {r : zR} (h : Abs I a r) (t : Nat) (k : Nat) (x : Int32) (ht : t < cnt r) (h6 : cnt r ≤ 6) (hk : k < 7) : Abs (z_up I (a + 4 + 1 * t) k x) a (upd r (23 + 7 * t + k_wd k) x) := by
  have hw : k_wd k < 7 := by
    rcases (by omega : k = 0 ∨ k = 1 ∨ k = 2 ∨ k = 3 ∨ k = 4 ∨ k = 5 ∨ k = 6) with rfl | rfl | rfl | rfl | rfl | rfl | rfl <;> decide
  refine h.task t _ ht (fun j hj => upd_hi _ _ hj) (fun u hu hne w hw' => tf_upd_t _ _ hne hw hw') ?_
  obtain ⟨g0, g1, g2, g3, g4, g5, g6⟩ := h.2.2.2 t ht
  rcases (by omega : k = 0 ∨ k = 1 ∨ k = 2 ∨ k = 3 ∨ k = 4 ∨ k = 5 ∨ k = 6) with rfl | rfl | rfl | rfl | rfl | rfl | rfl <;>
    (refine ⟨?_, ?_, ?_, ?_, ?_, ?_, ?_⟩ <;> simp (disch := omega) only [k_wd, pk_us, pk_un, tf_upd_eq, tf_upd_w] <;> assumption)
theorem Abs.add {I : zI} {a : Nat} {r : zR} (h : Abs I a r) (hW : WF r) (w v : Int32) (hc : cnt r < 6) : Abs (z_up (z_row I (a + 4 + 1 * cnt r) (k_begin (I (a + 4 + 1 * cnt r)) w v)) a 3 (r 0 + 1)) a (p_add r w v) := by
  have hcc := cnt_add hW w v
  obtain ⟨⟨⟨g3, g4, g5, g6, g9, g10⟩, g78⟩, h2, h3, h4⟩ := h
  have lo : ∀ k, k < 23 → k ≠ 0 → p_add r w v k = r k := fun k a b => by
    simp (disch := omega) only [p_add, pk_un]
  have t1 : ∀ u x, u < cnt r → x < 7 → tf (p_add r w v) u x = tf r u x := fun u x hu hx => by
    have e : u ≠ cnt r := by omega
    simp (disch := omega) only [p_add, tf_upd_lo, tf_upd_t]
  refine ⟨⟨⟨?_, ?_, ?_, ?_, ?_, ?_⟩, ?_⟩, ?_, ?_, ?_⟩
  · rw [show p_add r w v 0 = r 0 + 1 from pk_us, z_up_row, z_row_at, pk_us]
  · rw [lo _ (by omega) (by omega), z_up_row, z_row_at, pk_un (by omega), z_row_ne _ _ _ (by omega)]; exact g4
  · rw [lo _ (by omega) (by omega), z_up_row, z_row_at, pk_un (by omega), z_row_ne _ _ _ (by omega)]; exact g5
  · rw [lo _ (by omega) (by omega), z_up_row, z_row_at, pk_un (by omega), z_row_ne _ _ _ (by omega)]; exact g6
  · rw [lo _ (by omega) (by omega), z_up_row, z_row_at, pk_un (by omega), z_row_ne _ _ _ (by omega)]; exact g9
  · rw [lo _ (by omega) (by omega), z_up_row, z_row_at, pk_un (by omega), z_row_ne _ _ _ (by omega)]; exact g10
  · rw [lo _ (by omega) (by omega), lo _ (by omega) (by omega), lo _ (by omega) (by omega), z_up_row, z_row_at, pk_un (by omega), pk_un (by omega), z_row_ne _ _ _ (by omega)]; exact g78
  · intro s hs; rw [lo _ (by omega) (by omega), z_up_row, z_row_ne _ _ _ (by omega), z_row_ne _ _ _ (by omega)]; exact h2 s hs
  · intro s hs; rw [lo _ (by omega) (by omega), z_up_row, z_row_ne _ _ _ (by omega), z_row_ne _ _ _ (by omega)]; exact h3 s hs
  · rw [hcc]
    intro u hu
    rw [z_up_row, z_row_ne _ _ _ (by omega)]
    by_cases e : u = cnt r
    · subst e
      rw [z_row_at]
      refine ⟨?_, ?_, ?_, ?_, ?_, ?_, ?_⟩ <;> simp (disch := omega) only [k_begin, k_off, p_add, pk_us, pk_un, tf_upd_lo, tf_upd_w, tf_upd_eq]
    · rw [z_row_ne _ _ _ (by omega)]
      exact (h4 u (by omega)).cg (fun x hx => t1 u x (by omega) hx)
def p_badn (r : zR) : Nat → Nat → Int32 → Int32
  | 0, _, x => x
  | n + 1, s, x => p_badn r n (s + 1) (x + r (11 + s))
def p_frn (r : zR) : Nat → Nat → Int32 → Int32
  | 0, _, x => x
  | n + 1, s, x => p_frn r n (s + 1) (if p_free r s then x + 1 else x)
def p_lonn (r : zR) : Nat → Nat → Int32 → Int32
  | 0, _, x => x
  | n + 1, s, x => p_lonn r n (s + 1) (if x < nI (p_ff r s) then nI (p_ff r s) else x)
/-- how long a gap that begins at a stripe is; 0 behind a free stripe -/
def p_gl (r : zR) (s : Nat) : Nat := if s = 0 then p_ff r s else if p_free r (s - 1) then 0 else p_ff r s
def p_gapn (r : zR) (w : Int32) : Nat → Nat → Int32 → Int32 → Int32
  | 0, _, b, _ => b
  | n + 1, s, b, x => if w ≤ nI (p_gl r s) ∧ nI (p_gl r s) < x then p_gapn r w n (s + 1) (nI s) (nI (p_gl r s)) else p_gapn r w n (s + 1) b x
def p_mfn (r : zR) : Nat → Nat → Bool
  | 0, _ => true
  | n + 1, k => if r (11 + k) = 0 ∧ p_comer r (nI k) = -1 then p_mfn r n (k + 1) else false
def p_one (r : zR) (t : Nat) (f n : Int32) : Bool := decide (¬ tf r t 5 = -1) && (decide (tf r t 5 < f + n) && decide (f < tf r t 5 + tf r t 0))
theorem AbsT.one {ρ : zR} {r : zR} {t : Nat} (h : AbsT ρ r t) (f n : Int32) : k_one ρ f n = p_one r t f n := by
  obtain ⟨h0, h1, h2, h3, h4, h5, h6⟩ := h
  simp only [k_one, p_one, h0, h6]
def p_wwn (r : zR) (f m : Int32) : Nat → Nat → Int32 → Int32
  | 0, _, x => x
  | n + 1, t, x => p_wwn r f m n (t + 1) (if p_one r t f m then x + tf r t 0 else x)
def p_ww (r : zR) (f m : Int32) : Int32 := p_wwn r f m (cnt r) 0 0
def p_winn (r : zR) (w : Nat) : Nat → Nat → Int32 → Int32 → Int32
  | 0, _, b, _ => b
  | n + 1, s, b, x => if p_mfn r w s = true ∧ (b = -1 ∨ p_ww r (nI s) (nI w) < x) then p_winn r w n (s + 1) (nI s) (p_ww r (nI s) (nI w)) else p_winn r w n (s + 1) b x
theorem p_ffn_s (r : zR) (n s : Nat) : p_ffn r (n + 1) s = if p_free r s then p_ffn r n (s + 1) + 1 else 0 := rfl
theorem p_ffn_le (r : zR) : ∀ (n s : Nat), p_ffn r n s ≤ n
  | 0, _ => Nat.le_refl _
  | n + 1, s => by
    have := p_ffn_le r n (s + 1)
    rw [p_ffn_s]
    split <;> omega
theorem p_isStripe_out {s : Nat} (h : 12 ≤ s) (h2 : s < 2 ^ 31) : p_isStripe (nI s) = false := by
  simp only [p_isStripe, z_in, Bool.and_eq_false_iff, decide_eq_false_iff_not]
  exact Or.inr (nI_ge (a := 11) (by omega) (by omega))
