/-! taken stripes are as many as the widths of the tasks that take some -/
def nS (f : Nat → Nat) : Nat → Nat
  | 0 => 0
  | n + 1 => nS f n + f n
theorem nS_cg {f g : Nat → Nat} : ∀ (n : Nat), (∀ t, t < n → f t = g t) → nS f n = nS g n
  | 0, _ => rfl
  | n + 1, h => by rw [nS, nS, nS_cg n (fun t ht => h t (by omega)), h n (by omega)]
theorem nS_zero : ∀ (n : Nat), nS (fun _ => 0) n = 0
  | 0 => rfl
  | n + 1 => by rw [nS, nS_zero n]
theorem nS_add (f g : Nat → Nat) : ∀ (n : Nat), nS (fun t => f t + g t) n = nS f n + nS g n
  | 0 => rfl
  | n + 1 => by rw [nS, nS, nS, nS_add f g n]; omega
theorem nS_swap (g : Nat → Nat → Nat) (m : Nat) : ∀ (n : Nat), nS (fun s => nS (fun t => g t s) m) n = nS (fun t => nS (fun s => g t s) n) m
  | 0 => by
    show 0 = nS (fun _ => 0) m
    rw [nS_zero]
  | n + 1 => by
    rw [nS, nS_swap g m n, ← nS_add]
    rfl
theorem nS_le {f g : Nat → Nat} : ∀ (n : Nat), (∀ t, t < n → f t ≤ g t) → nS f n ≤ nS g n
  | 0, _ => Nat.le_refl _
  | n + 1, h => by
    rw [nS, nS]
    exact Nat.add_le_add (nS_le n (fun t ht => h t (by omega))) (h n (by omega))
theorem nS_one {f : Nat → Nat} : ∀ (n u : Nat), u < n → (∀ t, t < n → t ≠ u → f t = 0) → nS f n = f u
  | 0, u, h, _ => absurd h (by omega)
  | n + 1, u, h, hz => by
    rw [nS]
    by_cases e : u = n
    · subst e
      rw [nS_cg (g := fun _ => 0) u (fun t ht => hz t (by omega) (by omega)), nS_zero, Nat.zero_add]
    · rw [nS_one n u (by omega) (fun t ht hne => hz t (by omega) hne), hz n (by omega) (fun q => e q.symm), Nat.add_zero]
theorem nS_row (a w : Nat) : ∀ (n : Nat), nS (fun s => if a ≤ s ∧ s < a + w then 1 else 0) n = if n ≤ a then 0 else if n ≤ a + w then n - a else w
  | 0 => by rw [nS, if_pos (Nat.zero_le _)]
  | n + 1 => by
    rw [nS, nS_row a w n]
    by_cases q : a ≤ n ∧ n < a + w
    · rw [if_pos q]
      by_cases q1 : n ≤ a
      · rw [if_pos q1, if_neg (by omega), if_pos (by omega)]; omega
      · rw [if_neg q1, if_pos (by omega), if_neg (by omega), if_pos (by omega)]; omega
    · rw [if_neg q]
      by_cases q1 : n ≤ a
      · rw [if_pos q1]
        by_cases q2 : n + 1 ≤ a
        · rw [if_pos q2]
        · rw [if_neg q2]; split <;> omega
      · rw [if_neg q1]
        by_cases q2 : n ≤ a + w
        · rw [if_pos q2, if_neg (by omega), if_neg (by omega)]; omega
        · rw [if_neg q2, if_neg (by omega), if_neg (by omega), Nat.add_zero]
/-- a task's first stripe, as a number of stripes -/
def wN (r : zR) (t : Nat) : Nat := if tf r t 5 = -1 then 0 else (tf r t 0).toNatClampNeg
def tN (r : zR) (s : Nat) : Nat := if p_taker r (nI s) = -1 then 0 else 1
theorem row_of {r : zR} (hW : WF r) {t : Nat} (ht : t < cnt r) (h5 : ¬ tf r t 5 = -1) : ∃ a w : Nat, tf r t 5 = nI a ∧ tf r t 0 = nI w ∧ 1 ≤ w ∧ w ≤ 6 ∧ a + w ≤ 12 ∧ ∀ s, s < 12 → (p_takes r t (nI s) = true ↔ a ≤ s ∧ s < a + w) := by
  obtain ⟨w, w1, w6, ew⟩ := WF_w hW ht
  obtain ⟨-, -, -, -, hf⟩ := hW.2.1 t ht
  have h5' : ¬ tI r t 5 = -1 := fun q => h5 (Int32.toInt_inj.mp (by rw [i_m1]; exact q))
  rcases hf with hf | hf
  · exact absurd hf.2 h5'
  · have e0 : tI r t 0 = w := by unfold tI; rw [ew, nI_toInt (by omega)]
    rw [e0] at hf
    obtain ⟨a, ha, ea⟩ := I32_nI (x := tf r t 5) (n := 12) (by unfold tI at hf; omega) (by unfold tI at hf; omega)
    have e5 : tI r t 5 = a := by unfold tI; rw [ea, nI_toInt (by omega)]
    refine ⟨a, w, ea, ew, w1, w6, by omega, fun s hs => ?_⟩
    rw [takes_iff hW ht, e5, e0, nI_toInt (by omega)]
    omega
theorem count_t {r : zR} (hW : WF r) {t : Nat} (ht : t < cnt r) : nS (fun s => if p_takes r t (nI s) = true then 1 else 0) 12 = wN r t := by
  by_cases h5 : tf r t 5 = -1
  · rw [nS_cg (g := fun _ => 0) 12 (fun s _ => if_neg (by unfold p_takes; rw [h5]; simp)), nS_zero]
    unfold wN
    rw [if_pos h5]
  · obtain ⟨a, w, ea, ew, w1, w6, h12, hi⟩ := row_of hW ht h5
    rw [nS_cg (g := fun s => if a ≤ s ∧ s < a + w then 1 else 0) 12 (fun s hs => by
      by_cases q : p_takes r t (nI s) = true
      · rw [if_pos q, if_pos ((hi s hs).mp q)]
      · rw [if_neg q, if_neg (fun q2 => q ((hi s hs).mpr q2))]), nS_row, if_neg (by omega)]
    unfold wN
    rw [if_neg h5, ew, nI_clamp (by omega)]
    split <;> omega
theorem count_s {r : zR} (hW : WF r) (s : Nat) : nS (fun t => if p_takes r t (nI s) = true then 1 else 0) (cnt r) = tN r s := by
  have h6 := hW.1.1
  unfold tN
  rcases p_taker_cases r (nI s) with q | ⟨u, q1, q2, q3⟩
  · rw [if_pos q, nS_cg (g := fun _ => 0) _ (fun t ht => if_neg (fun q2 => by rw [taker_of hW ht q2] at q; exact nI_m1 (by omega) q)), nS_zero]
  · rw [if_neg (by rw [q2]; exact nI_m1 (by omega)), nS_one _ u q1 (fun t ht hne => if_neg (fun q4 => hne (takes_uniq hW ht q1 q4 q3))), if_pos q3]
theorem count_eq {r : zR} (hW : WF r) : nS (tN r) 12 = nS (wN r) (cnt r) := by
  rw [nS_cg (g := fun s => nS (fun t => if p_takes r t (nI s) = true then 1 else 0) (cnt r)) 12 (fun s _ => (count_s hW s).symm), nS_swap (fun t s => if p_takes r t (nI s) = true then 1 else 0)]
  exact nS_cg _ (fun t ht => count_t hW ht)
/-- the sums as the law makes them -/
def p_wide (r : zR) : Nat → Int32
  | 0 => 0
  | t + 1 => p_wide r t + (if tf r t 5 = -1 then 0 else tf r t 0)
def p_takn (r : zR) : Nat → Int32
  | 0 => 0
  | s + 1 => p_takn r s + (if p_taker r (nI s) = -1 then 0 else 1)
def p_rung (r : zR) : Nat → Int32
  | 0 => 0
  | t + 1 => p_rung r t + (if tf r t 4 = 2 then 1 else 0)
def p_fre (r : zR) : Nat → Int32
  | 0 => 0
  | s + 1 => p_fre r s + (if p_free r s = true then 1 else 0)
theorem wide_eq {r : zR} (hW : WF r) : ∀ (n : Nat), n ≤ cnt r → p_wide r n = nI (nS (wN r) n)
  | 0, _ => rfl
  | n + 1, h => by
    rw [p_wide, wide_eq hW n (by omega), nS, ← nI_add]
    congr 1
    unfold wN
    split
    · rfl
    · obtain ⟨w, w1, w6, ew⟩ := WF_w hW (t := n) (by omega)
      rw [ew, nI_clamp (by omega)]
theorem takn_eq (r : zR) : ∀ (n : Nat), p_takn r n = nI (nS (tN r) n)
  | 0 => rfl
  | n + 1 => by
    rw [p_takn, takn_eq r n, nS, ← nI_add]
    congr 1
    unfold tN
    split <;> rfl
theorem taken_wide {r : zR} (hW : WF r) : p_takn r 12 = p_wide r (cnt r) := by rw [takn_eq, wide_eq hW _ (Nat.le_refl _), count_eq hW]
theorem runn_eq (r : zR) : ∀ (n t : Nat), p_runn r n t (p_rung r t) = p_rung r (t + n)
  | 0, t => rfl
  | n + 1, t => by
    rw [p_runn, show t + (n + 1) = (t + 1) + n by omega, ← runn_eq r n (t + 1)]
    rfl
theorem running_eq (r : zR) : p_running r = p_rung r (cnt r) := by
  have := runn_eq r (cnt r) 0
  rw [Nat.zero_add] at this
  exact this
theorem frn_eq (r : zR) : ∀ (n s : Nat), p_frn r n s (p_fre r s) = p_fre r (s + n)
  | 0, s => rfl
  | n + 1, s => by
    rw [p_frn, show s + (n + 1) = (s + 1) + n by omega, ← frn_eq r n (s + 1)]
    congr 1
    rw [p_fre]
    split
    · rfl
    · rw [Int32.add_zero]
theorem free_eq (r : zR) : p_frn r 12 0 0 = p_fre r 12 := frn_eq r 12 0
def fN (r : zR) (s : Nat) : Nat := if p_free r s = true then 1 else 0
theorem fre_eq (r : zR) : ∀ (n : Nat), p_fre r n = nI (nS (fN r) n)
  | 0 => rfl
  | n + 1 => by
    rw [p_fre, fre_eq r n, nS, ← nI_add]
    congr 1
    unfold fN
    split <;> rfl
theorem nS_le1 {f : Nat → Nat} (h : ∀ t, f t ≤ 1) : ∀ (n : Nat), nS f n ≤ n
  | 0 => Nat.le_refl _
  | n + 1 => by
    rw [nS]
    have := nS_le1 h n
    have := h n
    omega
theorem free_iff (r : zR) (s : Nat) : p_free r s = true ↔ (p_taker r (nI s) = -1 ∧ p_comer r (nI s) = -1 ∧ r (11 + s) = 0) := by
  simp only [p_free, Bool.and_eq_true, decide_eq_true_eq]
  constructor
  · exact fun ⟨a, b, c⟩ => ⟨b, c, a⟩
  · exact fun ⟨b, c, a⟩ => ⟨a, b, c⟩
