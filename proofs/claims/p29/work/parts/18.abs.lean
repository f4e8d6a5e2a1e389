/-! THE CLASS'S STATE: where its cells lie, and which row they hold -/
def ShS (E : zE) (G : zG) (a : Nat) : Prop := (a, sSt a) ∈ G ∧ (a + 1, sR E 4 6 (a + 4) 1) ∈ G ∧ (a + 2, sI E 1 12) ∈ G ∧ (a + 3, sI E 0 3) ∈ G ∧ ∀ t, t < 6 → (a + 4 + 1 * t, sTk) ∈ G
def AbsT (ρ : zR) (r : zR) (t : Nat) : Prop := ρ 0 = tf r t 0 ∧ ρ 1 = tf r t 1 ∧ ρ 2 = tf r t 2 ∧ ρ 3 = tf r t 3 ∧ ρ 4 = tf r t 6 ∧ ρ 5 = tf r t 4 ∧ ρ 6 = tf r t 5
def AbsF (ρ : zR) (r : zR) : Prop := (ρ 3 = r 0 ∧ ρ 4 = r 1 ∧ ρ 5 = r 4 ∧ ρ 6 = r 5 ∧ ρ 9 = r 2 ∧ ρ 10 = r 3) ∧ (¬ r 5 = -1 → ρ 7 = r 6 ∧ ρ 8 = r 7)
def Abs (I : zI) (a : Nat) (r : zR) : Prop := AbsF (I a) r ∧ (∀ s, s < 12 → I (a + 2) s = r (11 + s)) ∧ (∀ j, j < 3 → I (a + 3) j = r (8 + j)) ∧ ∀ t, t < cnt r → AbsT (I (a + 4 + 1 * t)) r t
/-- nothing outside the state at a has changed -/
def Fr (I I' : zI) (a : Nat) : Prop := ∀ q, (q < a ∨ a + 10 ≤ q) → I' q = I q
theorem Fr.rf {I : zI} {a : Nat} : Fr I I a := fun _ _ => rfl
theorem Fr.tr {I I' I'' : zI} {a : Nat} (h : Fr I I' a) (h' : Fr I' I'' a) : Fr I I'' a := fun q hq => (h' q hq).trans (h q hq)
theorem Fr.row {I : zI} {a b : Nat} {ρ : zR} (h : a ≤ b ∧ b < a + 10) : Fr I (z_row I b ρ) a := fun q hq => z_row_ne _ _ _ (by omega)
theorem Fr.up {I : zI} {a b k : Nat} {x : Int32} (h : a ≤ b ∧ b < a + 10) : Fr I (z_up I b k x) a := fun q hq => z_up_ne _ _ _ _ (by omega)
theorem Abs.fr {I I' : zI} {a a' : Nat} {r : zR} (h : Abs I a r) (hf : Fr I I' a') (hd : a + 10 ≤ a' ∨ a' + 10 ≤ a) (h6 : cnt r ≤ 6) : Abs I' a r := by
  obtain ⟨h1, h2, h3, h4⟩ := h
  refine ⟨by rw [hf a (by omega)]; exact h1, by rw [hf (a + 2) (by omega)]; exact h2, by rw [hf (a + 3) (by omega)]; exact h3, fun t ht => ?_⟩
  rw [hf (a + 4 + 1 * t) (by omega)]
  exact h4 t ht
theorem AbsT.cg {ρ : zR} {r r' : zR} {t : Nat} (h : AbsT ρ r t) (e : ∀ w, w < 7 → tf r' t w = tf r t w) : AbsT ρ r' t := by
  obtain ⟨h0, h1, h2, h3, h4, h5, h6⟩ := h
  exact ⟨by rw [e 0 (by omega)]; exact h0, by rw [e 1 (by omega)]; exact h1, by rw [e 2 (by omega)]; exact h2, by rw [e 3 (by omega)]; exact h3, by rw [e 6 (by omega)]; exact h4, by rw [e 4 (by omega)]; exact h5, by rw [e 5 (by omega)]; exact h6⟩
/-- the same row, wherever it is read -/
theorem Abs.cg {I : zI} {a : Nat} {r r' : zR} (h : Abs I a r) (h6 : cnt r ≤ 6) (e : ∀ k, k < 65 → r' k = r k) : Abs I a r' := by
  obtain ⟨⟨⟨g3, g4, g5, g6, g9, g10⟩, g78⟩, h2, h3, h4⟩ := h
  have hc : cnt r' = cnt r := by unfold cnt; rw [e 0 (by omega)]
  refine ⟨⟨⟨by rw [e 0 (by omega)]; exact g3, by rw [e 1 (by omega)]; exact g4, by rw [e 4 (by omega)]; exact g5, by rw [e 5 (by omega)]; exact g6, by rw [e 2 (by omega)]; exact g9, by rw [e 3 (by omega)]; exact g10⟩, ?_⟩, ?_, ?_, ?_⟩
  · rw [e 5 (by omega), e 6 (by omega), e 7 (by omega)]; exact g78
  · intro s hs; rw [e _ (by omega)]; exact h2 s hs
  · intro j hj; rw [e _ (by omega)]; exact h3 j hj
  · intro t ht
    rw [hc] at ht
    exact (h4 t ht).cg (fun w hw => e _ (by omega))
def k_takes (ρ : zR) (s : Int32) : Bool := decide (¬ ρ 6 = -1) && (decide (ρ 6 ≤ s) && decide (s < ρ 6 + ρ 0))
def k_one (ρ : zR) (f n : Int32) : Bool := decide (¬ ρ 6 = -1) && (decide (ρ 6 < f + n) && decide (f < ρ 6 + ρ 0))
theorem AbsT.takes {ρ : zR} {r : zR} {t : Nat} (h : AbsT ρ r t) (s : Int32) : k_takes ρ s = p_takes r t s := by
  obtain ⟨h0, h1, h2, h3, h4, h5, h6⟩ := h
  simp only [k_takes, p_takes, h0, h6]
def k_off (ρ : zR) : zR := upd (upd ρ 5 0) 6 (-1)
def k_begin (ρ : zR) (w v : Int32) : zR := k_off (upd (upd (upd (upd (upd ρ 0 w) 1 v) 2 v) 3 0) 4 0)
def k_work (ρ : zR) : zR := upd (upd (upd ρ 1 (z_rem (31 * ρ 1 + 7 * ρ 0 + 1) 997)) 3 (ρ 3 + 1)) 4 (ρ 4 + 1)
def k_save (ρ : zR) : zR := upd (upd ρ 2 (ρ 1)) 4 0
def k_fall (ρ : zR) : zR := upd (upd (k_off ρ) 1 (ρ 2)) 4 0
/-- the row's numbers changed one by one: what the class's cells do -/
theorem Abs.cnt_eq {I : zI} {a : Nat} {r : zR} (h : Abs I a r) : (I a 3).toNatClampNeg = cnt r := by rw [h.1.1.1]; rfl
theorem cnt_upd {r : zR} {k : Nat} {x : Int32} (h : k ≠ 0) : cnt (upd r k x) = cnt r := by unfold cnt; rw [pk_un (Ne.symm h)]
theorem Abs.ticks {I : zI} {a : Nat} {r : zR} (h : Abs I a r) (x : Int32) : Abs (z_up I a 4 x) a (upd r 1 x) := by
  obtain ⟨⟨⟨g3, g4, g5, g6, g9, g10⟩, g78⟩, h2, h3, h4⟩ := h
  refine ⟨?_, ?_, ?_, ?_⟩
  · simp (disch := omega) only [AbsF, z_up_row, z_row_at, pk_us, pk_un]
    exact ⟨⟨g3, trivial, g5, g6, g9, g10⟩, g78⟩
  · intro s hs; simp (disch := omega) only [z_up_row, z_row_ne, pk_un]; exact h2 s hs
  · intro j hj; simp (disch := omega) only [z_up_row, z_row_ne, pk_un]; exact h3 j hj
  · intro t ht; rw [cnt_upd (by omega)] at ht; rw [z_up_row, z_row_ne _ _ _ (by omega)]; exact (h4 t ht).cg (fun w hw => tf_upd_lo _ _ (by omega))
theorem Abs.works {I : zI} {a : Nat} {r : zR} (h : Abs I a r) (x : Int32) : Abs (z_up I a 5 x) a (upd r 4 x) := by
  obtain ⟨⟨⟨g3, g4, g5, g6, g9, g10⟩, g78⟩, h2, h3, h4⟩ := h
  refine ⟨?_, ?_, ?_, ?_⟩
  · simp (disch := omega) only [AbsF, z_up_row, z_row_at, pk_us, pk_un]
    exact ⟨⟨g3, g4, trivial, g6, g9, g10⟩, g78⟩
  · intro s hs; simp (disch := omega) only [z_up_row, z_row_ne, pk_un]; exact h2 s hs
  · intro j hj; simp (disch := omega) only [z_up_row, z_row_ne, pk_un]; exact h3 j hj
  · intro t ht; rw [cnt_upd (by omega)] at ht; rw [z_up_row, z_row_ne _ _ _ (by omega)]; exact (h4 t ht).cg (fun w hw => tf_upd_lo _ _ (by omega))
theorem Abs.done {I : zI} {a : Nat} {r : zR} (h : Abs I a r) (x : Int32) : Abs (z_up I a 9 x) a (upd r 2 x) := by
  obtain ⟨⟨⟨g3, g4, g5, g6, g9, g10⟩, g78⟩, h2, h3, h4⟩ := h
  refine ⟨?_, ?_, ?_, ?_⟩
  · simp (disch := omega) only [AbsF, z_up_row, z_row_at, pk_us, pk_un]
    exact ⟨⟨g3, g4, g5, g6, trivial, g10⟩, g78⟩
  · intro s hs; simp (disch := omega) only [z_up_row, z_row_ne, pk_un]; exact h2 s hs
  · intro j hj; simp (disch := omega) only [z_up_row, z_row_ne, pk_un]; exact h3 j hj
  · intro t ht; rw [cnt_upd (by omega)] at ht; rw [z_up_row, z_row_ne _ _ _ (by omega)]; exact (h4 t ht).cg (fun w hw => tf_upd_lo _ _ (by omega))
theorem Abs.gone {I : zI} {a : Nat} {r : zR} (h : Abs I a r) (x : Int32) : Abs (z_up I a 10 x) a (upd r 3 x) := by
  obtain ⟨⟨⟨g3, g4, g5, g6, g9, g10⟩, g78⟩, h2, h3, h4⟩ := h
  refine ⟨?_, ?_, ?_, ?_⟩
  · simp (disch := omega) only [AbsF, z_up_row, z_row_at, pk_us, pk_un]
    exact ⟨⟨g3, g4, g5, g6, g9, trivial⟩, g78⟩
  · intro s hs; simp (disch := omega) only [z_up_row, z_row_ne, pk_un]; exact h2 s hs
  · intro j hj; simp (disch := omega) only [z_up_row, z_row_ne, pk_un]; exact h3 j hj
  · intro t ht; rw [cnt_upd (by omega)] at ht; rw [z_up_row, z_row_ne _ _ _ (by omega)]; exact (h4 t ht).cg (fun w hw => tf_upd_lo _ _ (by omega))
theorem Abs.left {I : zI} {a : Nat} {r : zR} (h : Abs I a r) (x : Int32) : Abs (z_up I a 8 x) a (upd r 7 x) := by
  obtain ⟨⟨⟨g3, g4, g5, g6, g9, g10⟩, g78⟩, h2, h3, h4⟩ := h
  refine ⟨?_, ?_, ?_, ?_⟩
  · simp (disch := omega) only [AbsF, z_up_row, z_row_at, pk_us, pk_un]
    exact ⟨⟨g3, g4, g5, g6, g9, g10⟩, fun q => ⟨(g78 q).1, trivial⟩⟩
  · intro s hs; simp (disch := omega) only [z_up_row, z_row_ne, pk_un]; exact h2 s hs
  · intro j hj; simp (disch := omega) only [z_up_row, z_row_ne, pk_un]; exact h3 j hj
  · intro t ht; rw [cnt_upd (by omega)] at ht; rw [z_up_row, z_row_ne _ _ _ (by omega)]; exact (h4 t ht).cg (fun w hw => tf_upd_lo _ _ (by omega))
/-- the job is gone; what it was is nobody's -/
theorem Abs.idle {I : zI} {a : Nat} {r : zR} (h : Abs I a r) (x y : Int32) : Abs (z_up (z_up (z_up I a 6 (-1)) a 7 x) a 8 y) a (upd r 5 (-1)) := by
  obtain ⟨⟨⟨g3, g4, g5, g6, g9, g10⟩, g78⟩, h2, h3, h4⟩ := h
  refine ⟨?_, ?_, ?_, ?_⟩
  · simp (disch := omega) only [AbsF, z_up_row, z_row_at, z_row_row, pk_us, pk_un]
    exact ⟨⟨g3, g4, g5, trivial, g9, g10⟩, fun q => absurd trivial q⟩
  · intro s hs; simp (disch := omega) only [z_up_row, z_row_ne, pk_un]; exact h2 s hs
  · intro j hj; simp (disch := omega) only [z_up_row, z_row_ne, pk_un]; exact h3 j hj
  · intro t ht; rw [cnt_upd (by omega)] at ht; simp (disch := omega) only [z_up_row, z_row_ne]; exact (h4 t ht).cg (fun w hw => tf_upd_lo _ _ (by omega))
theorem Abs.job {I : zI} {a : Nat} {r : zR} (h : Abs I a r) (x y z : Int32) : Abs (z_up (z_up (z_up I a 6 x) a 7 y) a 8 z) a (upd (upd (upd r 5 x) 6 y) 7 z) := by
  obtain ⟨⟨⟨g3, g4, g5, g6, g9, g10⟩, g78⟩, h2, h3, h4⟩ := h
  refine ⟨?_, ?_, ?_, ?_⟩
  · simp (disch := omega) only [AbsF, z_up_row, z_row_at, z_row_row, pk_us, pk_un]
    exact ⟨⟨g3, g4, g5, trivial, g9, g10⟩, fun q => ⟨trivial, trivial⟩⟩
  · intro s hs; simp (disch := omega) only [z_up_row, z_row_ne, pk_un]; exact h2 s hs
  · intro j hj; simp (disch := omega) only [z_up_row, z_row_ne, pk_un]; exact h3 j hj
  · intro t ht; rw [cnt_upd (by omega), cnt_upd (by omega), cnt_upd (by omega)] at ht; simp (disch := omega) only [z_up_row, z_row_ne]; exact (h4 t ht).cg (fun w hw => by simp (disch := omega) only [tf_upd_lo])
theorem Abs.bad {I : zI} {a : Nat} {r : zR} (h : Abs I a r) (s : Nat) (x : Int32) (hs : s < 12) (h6 : cnt r ≤ 6) : Abs (z_up I (a + 2) s x) a (upd r (11 + s) x) := by
  obtain ⟨⟨⟨g3, g4, g5, g6, g9, g10⟩, g78⟩, h2, h3, h4⟩ := h
  refine ⟨?_, ?_, ?_, ?_⟩
  · simp (disch := omega) only [AbsF, z_up_row, z_row_ne, pk_us, pk_un]
    exact ⟨⟨g3, g4, g5, g6, g9, g10⟩, g78⟩
  · intro u hu
    rw [z_up_row, z_row_at]
    by_cases e : u = s
    · subst e; simp only [pk_us]
    · rw [pk_un e, pk_un (by omega)]; exact h2 u hu
  · intro j hj; simp (disch := omega) only [z_up_row, z_row_ne, pk_un]; exact h3 j hj
  · intro t ht; rw [cnt_upd (by omega)] at ht; rw [z_up_row, z_row_ne _ _ _ (by omega)]; exact (h4 t ht).cg (fun w hw => tf_upd_lo _ _ (by omega))
theorem Abs.set {I : zI} {a : Nat} {r : zR} (h : Abs I a r) (s : Nat) (x : Int32) (hs : s < 3) (h6 : cnt r ≤ 6) : Abs (z_up I (a + 3) s x) a (upd r (8 + s) x) := by
  obtain ⟨⟨⟨g3, g4, g5, g6, g9, g10⟩, g78⟩, h2, h3, h4⟩ := h
  refine ⟨?_, ?_, ?_, ?_⟩
  · simp (disch := omega) only [AbsF, z_up_row, z_row_ne, pk_us, pk_un]
    exact ⟨⟨g3, g4, g5, g6, g9, g10⟩, g78⟩
  · intro j hj; simp (disch := omega) only [z_up_row, z_row_ne, pk_un]; exact h2 j hj
  · intro u hu
    rw [z_up_row, z_row_at]
    by_cases e : u = s
    · subst e; simp only [pk_us]
    · rw [pk_un e, pk_un (by omega)]; exact h3 u hu
  · intro t ht; rw [cnt_upd (by omega)] at ht; rw [z_up_row, z_row_ne _ _ _ (by omega)]; exact (h4 t ht).cg (fun w hw => tf_upd_lo _ _ (by omega))
/-- a task's cell replaced, and its seven numbers in the row -/
theorem Abs.task {I : zI} {a : Nat} {r r' : zR} (h : Abs I a r) (t : Nat) (ρ : zR) (ht : t < cnt r) (hlo : ∀ k, k < 23 → r' k = r k) (hoth : ∀ u, u < cnt r → u ≠ t → ∀ w, w < 7 → tf r' u w = tf r u w) (hT : AbsT ρ r' t) : Abs (z_row I (a + 4 + 1 * t) ρ) a r' := by
  obtain ⟨⟨⟨g3, g4, g5, g6, g9, g10⟩, g78⟩, h2, h3, h4⟩ := h
  have hc : cnt r' = cnt r := by unfold cnt; rw [hlo 0 (by omega)]
  refine ⟨?_, ?_, ?_, ?_⟩
  · rw [z_row_ne _ _ _ (by omega)]
    simp (disch := omega) only [AbsF, hlo]
    exact ⟨⟨g3, g4, g5, g6, g9, g10⟩, g78⟩
  · intro s hs; rw [z_row_ne _ _ _ (by omega), hlo _ (by omega)]; exact h2 s hs
  · intro s hs; rw [z_row_ne _ _ _ (by omega), hlo _ (by omega)]; exact h3 s hs
  · intro u hu
    rw [hc] at hu
    by_cases e : u = t
    · subst e; rw [z_row_at]; exact hT
    · rw [z_row_ne _ _ _ (by omega)]; exact (h4 u hu).cg (hoth u hu e)
