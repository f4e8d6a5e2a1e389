/-! PURE ROWS: sums without overflow; what keeps WF -/
theorem I32_add {x y : Int32} (h0 : -2147483648 ≤ x.toInt + y.toInt) (h1 : x.toInt + y.toInt < 2147483648) : (x + y).toInt = x.toInt + y.toInt := by
  rw [Int32.toInt_add]
  exact Int.bmod_eq_of_le (by omega) (by omega)
theorem I32_sub {x y : Int32} (h0 : -2147483648 ≤ x.toInt - y.toInt) (h1 : x.toInt - y.toInt < 2147483648) : (x - y).toInt = x.toInt - y.toInt := by
  rw [Int32.toInt_sub]
  exact Int.bmod_eq_of_le (by omega) (by omega)
theorem i_m1 : (-1 : Int32).toInt = -1 := by decide
theorem i_0 : (0 : Int32).toInt = 0 := by decide
theorem i_1 : (1 : Int32).toInt = 1 := by decide
theorem i_2 : (2 : Int32).toInt = 2 := by decide
theorem i_3 : (3 : Int32).toInt = 3 := by decide
theorem I32_eq {x : Int32} {n : Nat} (h : x.toInt = n) (hn : n < 2 ^ 31) : x = nI n := Int32.toInt_inj.mp (by rw [nI_toInt hn, h])
theorem upd_comm {r : zR} {a b : Nat} {x y : Int32} (h : a ≠ b) : upd (upd r a x) b y = upd (upd r b y) a x := by
  funext j
  unfold upd
  by_cases h1 : j = a <;> by_cases h2 : j = b <;> simp_all
theorem upd_upd {r : zR} {a : Nat} {x y : Int32} : upd (upd r a x) a y = upd r a y := by
  funext j
  unfold upd
  by_cases h1 : j = a <;> simp_all
/-- a row in which widths are as before, and each task is as before, or off, or handed over -/
theorem WF_sh {r r' : zR} (h : WF r) (e0 : r' 0 = r 0)
    (eset : (1 ≤ (r' 8).toInt ∧ (r' 8).toInt ≤ 9) ∧ (0 ≤ (r' 9).toInt ∧ (r' 9).toInt ≤ 20) ∧ (1 ≤ (r' 10).toInt ∧ (r' 10).toInt ≤ 99))
    (eb : ∀ s, s < 12 → r' (11 + s) = 0 ∨ r' (11 + s) = 1)
    (ew : ∀ u, u < cnt r → tf r' u 0 = tf r u 0)
    (ev : ∀ u, u < cnt r → (0 ≤ tI r' u 1 ∧ tI r' u 1 ≤ 996) ∧ (0 ≤ tI r' u 2 ∧ tI r' u 2 ≤ 996))
    (es : ∀ u, u < cnt r → (tf r' u 4 = tf r u 4 ∧ tf r' u 5 = tf r u 5) ∨ (tf r' u 4 = 0 ∧ tf r' u 5 = -1) ∨ (tf r' u 4 = 3 ∧ tf r' u 5 = tf r u 5 ∧ tI r u 4 = 2))
    (ej : r' 5 = -1 ∨ (r' 5 = r 5 ∧ ¬ r 5 = -1 ∧ r' 6 = r 6 ∧ (1 ≤ (r' 7).toInt ∧ (r' 7).toInt ≤ 74) ∧ ¬ tf r' (jt r) 4 = 0)) : WF r' := by
  obtain ⟨⟨h6, h0⟩, ht, hj, hb, hs, hd⟩ := h
  have hc : cnt r' = cnt r := by unfold cnt; rw [e0]
  have ew' : ∀ u, u < cnt r → tI r' u 0 = tI r u 0 := fun u hu => by unfold tI; rw [ew u hu]
  have e5 : ∀ u, u < cnt r → tI r' u 5 = tI r u 5 ∨ tI r' u 5 = -1 := fun u hu => by
    unfold tI
    rcases es u hu with ⟨-, q⟩ | ⟨-, q⟩ | ⟨-, q, -⟩
    · left; rw [q]
    · right; rw [q]; rfl
    · left; rw [q]
  refine ⟨⟨by rw [hc]; exact h6, by rw [hc, e0]; exact h0⟩, ?_, ?_, eb, eset, ?_⟩
  · intro u hu
    rw [hc] at hu
    obtain ⟨w1, -, -, w4, w5⟩ := ht u hu
    obtain ⟨v1, v2⟩ := ev u hu
    refine ⟨by rw [ew' u hu]; exact w1, v1, v2, ?_, ?_⟩
    · rcases es u hu with ⟨q, -⟩ | ⟨q, -⟩ | ⟨q, -⟩
      · unfold tI at *; rw [q]; exact w4
      · unfold tI; rw [q, i_0]; omega
      · unfold tI; rw [q, i_3]; omega
    · rw [ew' u hu]
      rcases es u hu with ⟨q, q2⟩ | ⟨q, q2⟩ | ⟨q, q2, q3⟩
      · unfold tI at *; rw [q, q2]; exact w5
      · left; unfold tI; rw [q, q2]; exact ⟨rfl, rfl⟩
      · right
        have e4 : tI r' u 4 = 3 := by unfold tI; rw [q]; rfl
        have e5 : tI r' u 5 = tI r u 5 := by unfold tI; rw [q2]
        rw [e4, e5]; omega
  · rcases ej with q | ⟨q5, qn, q6, q7, q4⟩
    · exact Or.inl q
    · right
      rcases hj with hj | ⟨j1, j2, j3, j4, j5, j6, j7⟩
      · exact absurd hj qn
      have hjt : jt r' = jt r := by unfold jt; rw [q5]
      refine ⟨by rw [hjt, hc]; exact j1, by rw [hjt, q5]; exact j2, by rw [hjt, q6, ew' _ j1]; exact j3, q7, ?_, ?_, ?_⟩
      · rw [hjt]
        rcases es _ j1 with ⟨q, -⟩ | ⟨q, -⟩ | ⟨q, -⟩
        · unfold tI at *; rw [q]; exact j5
        · exact absurd q q4
        · unfold tI; rw [q, i_3]; omega
      · trivial
      · rw [hjt, hc, q6, ew' _ j1]
        intro u hu hne
        rw [ew' u hu]
        rcases e5 u hu with q | q
        · rw [q]; exact j7 u hu hne
        · exact Or.inl q
  · rw [hc]
    intro t u ht hu hne
    rw [ew' t ht, ew' u hu]
    have := hd t u ht hu hne
    rcases e5 t ht with q | q <;> rcases e5 u hu with q' | q' <;> omega
theorem tI_of {r r' : zR} {u w : Nat} (h : tf r' u w = tf r u w) : tI r' u w = tI r u w := by unfold tI; rw [h]
theorem WF.ev {r r' : zR} (h : WF r) {u : Nat} (hu : u < cnt r) (h1 : tf r' u 1 = tf r u 1 ∨ tf r' u 1 = tf r u 2) (h2 : tf r' u 2 = tf r u 2 ∨ tf r' u 2 = tf r u 1) : (0 ≤ tI r' u 1 ∧ tI r' u 1 ≤ 996) ∧ (0 ≤ tI r' u 2 ∧ tI r' u 2 ≤ 996) := by
  obtain ⟨-, v1, v2, -⟩ := h.2.1 u hu
  unfold tI at *
  constructor
  · rcases h1 with q | q <;> rw [q] <;> assumption
  · rcases h2 with q | q <;> rw [q] <;> assumption
theorem WF.jb {r : zR} (h : WF r) (hj : ¬ r 5 = -1) : WFj r := (h.2.2.1).resolve_left hj
theorem st_ne0 {r : zR} {t : Nat} (h : 1 ≤ tI r t 4) : ¬ tf r t 4 = 0 := by
  intro q
  unfold tI at h
  rw [q, i_0] at h
  omega
theorem WF_lo {r r' : zR} (h : WF r) (e0 : r' 0 = r 0)
    (eset : (1 ≤ (r' 8).toInt ∧ (r' 8).toInt ≤ 9) ∧ (0 ≤ (r' 9).toInt ∧ (r' 9).toInt ≤ 20) ∧ (1 ≤ (r' 10).toInt ∧ (r' 10).toInt ≤ 99))
    (eb : ∀ s, s < 12 → r' (11 + s) = 0 ∨ r' (11 + s) = 1) (et : ∀ u w, tf r' u w = tf r u w)
    (ej : r' 5 = -1 ∨ (r' 5 = r 5 ∧ r' 6 = r 6 ∧ (¬ r 5 = -1 → 1 ≤ (r' 7).toInt ∧ (r' 7).toInt ≤ 74))) : WF r' := by
  refine WF_sh h e0 eset eb (fun u _ => et u 0) (fun u hu => h.ev hu (Or.inl (et u 1)) (Or.inl (et u 2))) (fun u _ => Or.inl ⟨et u 4, et u 5⟩) ?_
  rcases ej with q | ⟨q, q2, q3⟩
  · exact Or.inl q
  · by_cases hj : r 5 = -1
    · exact Or.inl (by rw [q, hj])
    · exact Or.inr ⟨q, hj, q2, q3 hj, by rw [et]; exact st_ne0 (h.jb hj).2.2.2.2.1⟩
theorem WF_drop {r : zR} (h : WF r) : WF (p_drop r) := by
  refine WF_lo h (by simp (disch := omega) only [p_drop, pk_un]) ?_ ?_ (fun u w => by simp (disch := omega) only [p_drop, tf_upd_lo]) (Or.inl (by simp (disch := omega) only [p_drop, pk_us, pk_un]))
  · simp (disch := omega) only [p_drop, pk_un]; exact h.2.2.2.2.1
  · intro s hs; simp (disch := omega) only [p_drop, pk_un]; exact h.2.2.2.1 s hs
theorem WF_mend {r : zR} (h : WF r) (s : Nat) (hs : s < 12) (x : Int32) (hx : x = 0 ∨ x = 1) : WF (upd r (11 + s) x) := by
  refine WF_lo h (by simp (disch := omega) only [pk_un]) ?_ ?_ (fun u w => by simp (disch := omega) only [tf_upd_lo]) (Or.inr ⟨by simp (disch := omega) only [pk_un], by simp (disch := omega) only [pk_un], fun hj => by simp (disch := omega) only [pk_un]; exact (h.jb hj).2.2.2.1⟩)
  · simp (disch := omega) only [pk_un]; exact h.2.2.2.2.1
  · intro u hu
    by_cases e : u = s
    · subst e; rw [pk_us]; exact hx
    · rw [pk_un (by omega)]; exact h.2.2.2.1 u hu
theorem WF_cnt {r : zR} (h : WF r) (k : Nat) (hk : k = 1 ∨ k = 2 ∨ k = 3 ∨ k = 4) (x : Int32) : WF (upd r k x) := by
  refine WF_lo h (by simp (disch := omega) only [pk_un]) ?_ ?_ (fun u w => by simp (disch := omega) only [tf_upd_lo]) (Or.inr ⟨by simp (disch := omega) only [pk_un], by simp (disch := omega) only [pk_un], fun hj => by simp (disch := omega) only [pk_un]; exact (h.jb hj).2.2.2.1⟩)
  · simp (disch := omega) only [pk_un]; exact h.2.2.2.2.1
  · intro u hu; simp (disch := omega) only [pk_un]; exact h.2.2.2.1 u hu
theorem WF_set {r : zR} (h : WF r) (w : Nat) (x : Int32) (hx : (w = 0 ∧ 1 ≤ x.toInt ∧ x.toInt ≤ 9) ∨ (w = 1 ∧ 0 ≤ x.toInt ∧ x.toInt ≤ 20) ∨ (w = 2 ∧ 1 ≤ x.toInt ∧ x.toInt ≤ 99)) : WF (upd r (8 + w) x) := by
  have hw : w < 3 := by omega
  refine WF_lo h (by simp (disch := omega) only [pk_un]) ?_ ?_ (fun u w => by simp (disch := omega) only [tf_upd_lo]) (Or.inr ⟨by simp (disch := omega) only [pk_un], by simp (disch := omega) only [pk_un], fun hj => by simp (disch := omega) only [pk_un]; exact (h.jb hj).2.2.2.1⟩)
  · obtain ⟨h8, h9, h10⟩ := h.2.2.2.2.1
    rcases hx with ⟨rfl, q⟩ | ⟨rfl, q⟩ | ⟨rfl, q⟩
    · refine ⟨?_, ?_, ?_⟩
      · rw [show upd r (8 + 0) x 8 = x from pk_us]; exact q
      · rw [pk_un (by omega)]; exact h9
      · rw [pk_un (by omega)]; exact h10
    · refine ⟨?_, ?_, ?_⟩
      · rw [pk_un (by omega)]; exact h8
      · rw [show upd r (8 + 1) x 9 = x from pk_us]; exact q
      · rw [pk_un (by omega)]; exact h10
    · refine ⟨?_, ?_, ?_⟩
      · rw [pk_un (by omega)]; exact h8
      · rw [pk_un (by omega)]; exact h9
      · rw [show upd r (8 + 2) x 10 = x from pk_us]; exact q
  · intro u hu; simp (disch := omega) only [pk_un]; exact h.2.2.2.1 u hu
theorem WF_off {r : zR} (h : WF r) (t : Nat) (hj : ¬ r 5 = nI t) (ht : t < cnt r) : WF (p_off r t) := by
  have h6 := h.1.1
  refine WF_sh h (by simp (disch := omega) only [p_off, upd_hi]) ?_ ?_ ?_ ?_ ?_ ?_
  · simp (disch := omega) only [p_off, upd_hi]; exact h.2.2.2.2.1
  · intro u hu; simp (disch := omega) only [p_off, upd_hi]; exact h.2.2.2.1 u hu
  · intro u hu
    by_cases e : u = t
    · subst e; simp (disch := omega) only [p_off, tf_upd_w]
    · simp (disch := omega) only [p_off, tf_upd_t]
  · intro u hu
    refine h.ev hu ?_ ?_
    · by_cases e : u = t
      · subst e; right; simp (disch := omega) only [p_off, tf_upd_w, tf_upd_eq]
      · left; simp (disch := omega) only [p_off, tf_upd_t]
    · left
      by_cases e : u = t
      · subst e; simp (disch := omega) only [p_off, tf_upd_w]
      · simp (disch := omega) only [p_off, tf_upd_t]
  · intro u hu
    by_cases e : u = t
    · subst e; right; left; simp (disch := omega) only [p_off, tf_upd_w, tf_upd_eq, and_self]
    · left; simp (disch := omega) only [p_off, tf_upd_t, and_self]
  · by_cases hj1 : r 5 = -1
    · left; simp (disch := omega) only [p_off, upd_hi]; exact hj1
    · right
      obtain ⟨j1, j2, j3, j4, j5, -⟩ := h.jb hj1
      have hne : jt r ≠ t := fun q => hj (by rw [j2, q])
      refine ⟨by simp (disch := omega) only [p_off, upd_hi], hj1, by simp (disch := omega) only [p_off, upd_hi], by simp (disch := omega) only [p_off, upd_hi]; exact j4, ?_⟩
      simp (disch := omega) only [p_off, tf_upd_t]
      exact st_ne0 j5
theorem WF_stop {r : zR} (h : WF r) (t : Nat) (hj : ¬ r 5 = nI t) (ht : t < cnt r) : WF (p_stop r t) := by
  have h6 := h.1.1
  refine WF_sh h (by simp (disch := omega) only [p_stop, upd_hi]) ?_ ?_ ?_ ?_ ?_ ?_
  · simp (disch := omega) only [p_stop, upd_hi]; exact h.2.2.2.2.1
  · intro u hu; simp (disch := omega) only [p_stop, upd_hi]; exact h.2.2.2.1 u hu
  · intro u hu
    by_cases e : u = t
    · subst e; simp (disch := omega) only [p_stop, tf_upd_w]
    · simp (disch := omega) only [p_stop, tf_upd_t]
  · intro u hu
    refine h.ev hu ?_ ?_
    · left
      by_cases e : u = t
      · subst e; simp (disch := omega) only [p_stop, tf_upd_w, tf_upd_eq]
      · simp (disch := omega) only [p_stop, tf_upd_t]
    · by_cases e : u = t
      · subst e; right; simp (disch := omega) only [p_stop, tf_upd_w, tf_upd_eq]
      · left; simp (disch := omega) only [p_stop, tf_upd_t]
  · intro u hu
    by_cases e : u = t
    · subst e; right; left; simp (disch := omega) only [p_stop, tf_upd_w, tf_upd_eq, and_self]
    · left; simp (disch := omega) only [p_stop, tf_upd_t, and_self]
  · by_cases hj1 : r 5 = -1
    · left; simp (disch := omega) only [p_stop, upd_hi]; exact hj1
    · right
      obtain ⟨j1, j2, j3, j4, j5, -⟩ := h.jb hj1
      have hne : jt r ≠ t := fun q => hj (by rw [j2, q])
      refine ⟨by simp (disch := omega) only [p_stop, upd_hi], hj1, by simp (disch := omega) only [p_stop, upd_hi], by simp (disch := omega) only [p_stop, upd_hi]; exact j4, ?_⟩
      simp (disch := omega) only [p_stop, tf_upd_t]
      exact st_ne0 j5
theorem p_nv_range {r : zR} (h : WF r) {t : Nat} (ht : t < cnt r) : 0 ≤ (p_nv r t).toInt ∧ (p_nv r t).toInt ≤ 996 := by
  obtain ⟨w, w1, w6, ew⟩ := WF_w h ht
  obtain ⟨-, v1, -⟩ := h.2.1 t ht
  obtain ⟨v, hv, ev⟩ := I32_nI (x := tf r t 1) (n := 997) (by unfold tI at v1; omega) (by unfold tI at v1; omega)
  have e : p_nv r t = nI ((31 * v + 7 * w + 1) % 997) := by
    unfold p_nv z_rem
    rw [ev, ew]
    have e1 : (31 : Int32) * nI v + 7 * nI w + 1 = nI (31 * v + 7 * w + 1) := by
      show nI 31 * nI v + nI 7 * nI w + nI 1 = _
      rw [pk_mul, pk_mul, nI_add, nI_add]
    rw [e1]
    exact pk_rem (d := 997) (by omega) (by omega) (by omega)
  have := Nat.mod_lt (31 * v + 7 * w + 1) (show 0 < 997 by omega)
  rw [e, nI_toInt (by omega)]
  omega
theorem WF_work {r : zR} (h : WF r) (sv : Bool) {t : Nat} (ht : t < cnt r) : WF (p_work sv r t) := by
  have h6 := h.1.1
  by_cases h2 : tf r t 4 = 2
  case neg =>
    rw [p_work, if_neg h2]
    exact h
  rw [p_work, if_pos h2]
  refine WF_sh h (by simp (disch := omega) only [pk_un]) ?_ ?_ ?_ ?_ ?_ ?_
  · simp (disch := omega) only [pk_un]; exact h.2.2.2.2.1
  · intro u hu; simp (disch := omega) only [pk_un]; exact h.2.2.2.1 u hu
  · intro u hu
    by_cases e : u = t
    · subst e; simp (disch := omega) only [tf_upd_w, tf_upd_lo]
    · simp (disch := omega) only [tf_upd_t, tf_upd_lo]
  · intro u hu
    obtain ⟨-, v1, v2, -⟩ := h.2.1 u hu
    by_cases e : u = t
    · subst e
      simp (disch := omega) only [tI, tf_upd_w, tf_upd_eq, tf_upd_lo]
      refine ⟨p_nv_range h hu, ?_⟩
      split
      · exact p_nv_range h hu
      · exact v2
    · simp (disch := omega) only [tI, tf_upd_t, tf_upd_lo]
      exact ⟨v1, v2⟩
  · intro u hu
    left
    by_cases e : u = t
    · subst e; simp (disch := omega) only [tf_upd_w, tf_upd_lo, and_self]
    · simp (disch := omega) only [tf_upd_t, tf_upd_lo, and_self]
  · by_cases hj1 : r 5 = -1
    · left; simp (disch := omega) only [pk_un]; exact hj1
    · right
      obtain ⟨j1, j2, j3, j4, j5, -⟩ := h.jb hj1
      refine ⟨by simp (disch := omega) only [pk_un], hj1, by simp (disch := omega) only [pk_un], by simp (disch := omega) only [pk_un]; exact j4, ?_⟩
      by_cases e : jt r = t
      · rw [e]; simp (disch := omega) only [tf_upd_w, tf_upd_lo]; rw [← e]; exact st_ne0 j5
      · simp (disch := omega) only [tf_upd_t, tf_upd_lo]; exact st_ne0 j5
theorem cnt_work (sv : Bool) (r : zR) (t : Nat) : cnt (p_work sv r t) = cnt r := by
  unfold cnt
  rw [p_work_lo sv r t (by omega) (by omega)]
theorem WF_works (sv : Bool) : ∀ (n t : Nat) (r : zR), WF r → t + n ≤ cnt r → WF (p_works sv n t r)
  | 0, _, _, h, _ => h
  | n + 1, t, r, h, hn => by
    rw [p_works]
    exact WF_works sv n (t + 1) _ (WF_work h sv (by omega)) (by rw [cnt_work]; omega)
