/-! THE CLASS as a whole: its cells, what they tell, frames -/
abbrev zS : Type := zR × (Nat × (Nat → zR)) × ((Nat → Nat) × Nat) × ((Nat → zR) × (Nat → Bool))
def ShK (E : zE) (G : zG) (c : Nat) : Prop := (c, sSk c) ∈ G ∧ ShT E G (c + 1) ∧ ShS E G (c + 3) ∧ ShS E G (c + 13) ∧ ShH E G (c + 23) ∧ (c + 165, sR E 5 2 (c + 167) 10) ∈ G ∧ (c + 166, sI E 1 2) ∈ G ∧ ∀ j, j < 2 → ShS E G (c + 167 + 10 * j)
def AbsK (I : zI) (c : Nat) (S : zS) : Prop := AbsX I (c + 1) S.2.2.1.1 S.2.2.1.2 ∧ Abs I (c + 3) S.1 ∧ WF S.1 ∧ AbsH I (c + 23) S.2.1.1 S.2.1.2 ∧ (∀ j, j < 2 → I (c + 166) j = z_b (S.2.2.2.2 j)) ∧ ∀ j, j < 2 → S.2.2.2.2 j = true → Abs I (c + 167 + 10 * j) (S.2.2.2.1 j) ∧ WF (S.2.2.2.1 j)
def FrK (I I' : zI) (c : Nat) : Prop := ∀ q, (q < c ∨ c + 187 ≤ q) → I' q = I q
theorem FrK.rf {I : zI} {c : Nat} : FrK I I c := fun _ _ => rfl
theorem FrK.tr {I I' I'' : zI} {c : Nat} (h : FrK I I' c) (h' : FrK I' I'' c) : FrK I I'' c := fun q hq => (h' q hq).trans (h q hq)
theorem AbsX.agree {I I' : zI} {a n : Nat} {T : Nat → Nat} (h : AbsX I a T n) (e : ∀ q, a ≤ q → q < a + 2 → I' q = I q) : AbsX I' a T n := ⟨h.1, by rw [e a (by omega) (by omega)]; exact h.2.1, fun k hk => by rw [e (a + 1) (by omega) (by omega)]; exact h.2.2 k hk⟩
theorem Abs.agree {I I' : zI} {a : Nat} {r : zR} (h : Abs I a r) (h6 : cnt r ≤ 6) (e : ∀ q, a ≤ q → q < a + 10 → I' q = I q) : Abs I' a r := by
  obtain ⟨h1, h2, h3, h4⟩ := h
  refine ⟨by rw [e a (by omega) (by omega)]; exact h1, by rw [e (a + 2) (by omega) (by omega)]; exact h2, by rw [e (a + 3) (by omega) (by omega)]; exact h3, fun t ht => ?_⟩
  rw [e (a + 4 + 1 * t) (by omega) (by omega)]
  exact h4 t ht
theorem AbsH.agree {I I' : zI} {a acts : Nat} {rr : Nat → zR} (h : AbsH I a acts rr) (e : ∀ q, a ≤ q → q < a + 142 → I' q = I q) : AbsH I' a acts rr := by
  obtain ⟨o, h1, h2, h3, h4, h5⟩ := h
  refine ⟨o, h1, by rw [e a (by omega) (by omega)]; exact h2, by rw [e a (by omega) (by omega)]; exact h3, h4, fun i hi => ?_⟩
  obtain ⟨u, v⟩ := h5 i hi
  have := Nat.mod_lt (o + i) (show 0 < 14 by omega)
  exact ⟨u.agree v.1.1 (fun q q1 q2 => e q (by omega) (by omega)), v⟩
theorem AbsK.now {I I' : zI} {c : Nat} {S : zS} {r' : zR} (h : AbsK I c S) (hA : Abs I' (c + 3) r') (hW : WF r') (hF : Fr I I' (c + 3)) : AbsK I' c (r', S.2) := by
  obtain ⟨h1, h2, h3, h4, h5, h6⟩ := h
  exact ⟨h1.agree (fun q q1 q2 => hF q (by omega)), hA, hW, h4.agree (fun q q1 q2 => hF q (by omega)), fun j hj => by rw [hF _ (by omega)]; exact h5 j hj, fun j hj hf => ⟨(h6 j hj hf).1.agree (h6 j hj hf).2.1.1 (fun q q1 q2 => hF q (by omega)), (h6 j hj hf).2⟩⟩
theorem AbsK.trial {I I' : zI} {c : Nat} {S : zS} (h : AbsK I c S) (hF : Fr I I' (c + 13)) : AbsK I' c S := by
  obtain ⟨h1, h2, h3, h4, h5, h6⟩ := h
  exact ⟨h1.agree (fun q q1 q2 => hF q (by omega)), h2.agree h3.1.1 (fun q q1 q2 => hF q (by omega)), h3, h4.agree (fun q q1 q2 => hF q (by omega)), fun j hj => by rw [hF _ (by omega)]; exact h5 j hj, fun j hj hf => ⟨(h6 j hj hf).1.agree (h6 j hj hf).2.1.1 (fun q q1 q2 => hF q (by omega)), (h6 j hj hf).2⟩⟩
theorem AbsK.hist {I I' : zI} {c : Nat} {S : zS} {acts : Nat} {rr : Nat → zR} (h : AbsK I c S) (hA : AbsH I' (c + 23) acts rr) (hF : FrH I I' (c + 23)) : AbsK I' c (S.1, (acts, rr), S.2.2) := by
  obtain ⟨h1, h2, h3, h4, h5, h6⟩ := h
  exact ⟨h1.agree (fun q q1 q2 => hF q (by omega)), h2.agree h3.1.1 (fun q q1 q2 => hF q (by omega)), h3, hA, fun j hj => by rw [hF _ (by omega)]; exact h5 j hj, fun j hj hf => ⟨(h6 j hj hf).1.agree (h6 j hj hf).2.1.1 (fun q q1 q2 => hF q (by omega)), (h6 j hj hf).2⟩⟩
theorem AbsK.text {I I' : zI} {c : Nat} {S : zS} {T : Nat → Nat} {n : Nat} (h : AbsK I c S) (hA : AbsX I' (c + 1) T n) (hF : ∀ q, q ≠ c + 1 → q ≠ c + 2 → I' q = I q) : AbsK I' c (S.1, S.2.1, (T, n), S.2.2.2) := by
  obtain ⟨h1, h2, h3, h4, h5, h6⟩ := h
  exact ⟨hA, h2.agree h3.1.1 (fun q q1 q2 => hF q (by omega) (by omega)), h3, h4.agree (fun q q1 q2 => hF q (by omega) (by omega)), fun j hj => by rw [hF _ (by omega) (by omega)]; exact h5 j hj, fun j hj hf => ⟨(h6 j hj hf).1.agree (h6 j hj hf).2.1.1 (fun q q1 q2 => hF q (by omega) (by omega)), (h6 j hj hf).2⟩⟩
theorem FrK.fr {I I' : zI} {c a : Nat} (h : Fr I I' a) (ha : c ≤ a ∧ a + 10 ≤ c + 187) : FrK I I' c := fun q hq => h q (by omega)
theorem FrK.hs {I I' : zI} {c : Nat} (h : FrH I I' (c + 23)) : FrK I I' c := fun q hq => h q (by omega)
theorem FrK.up {I : zI} {c a k : Nat} {x : Int32} (ha : c ≤ a ∧ a < c + 187) : FrK I (z_up I a k x) c := fun q hq => z_up_ne _ _ _ _ (by omega)
theorem FrK.tx {I I' : zI} {c : Nat} (h : FrT I I' (c + 1)) : FrK I I' c := fun q hq => h.1 q (by omega)
/-- the exception of a number, among those that a method lists -/
def ex (xs : List String) : Nat → Option String
  | 0 => none
  | k + 1 => xs[k]?
def z_CK (E : zE) (l : Launch) (M : zM) (av : List Value) (G : zG) (I : zI) (sz c : Nat) (xs : List String) (k : Nat) (v : Int32) (S S' : zS) : Prop := z_CF E l M 8 av G I sz (ex xs k) (fun x I' => x = v ∧ AbsK I' c S' ∧ FrK I I' c) (fun I' => AbsK I' c S ∧ FrK I I' c)
/-! what each call answers -/
def e_append (S : zS) (c : Int32) : Nat := if z_in c 0 255 then (if S.2.2.1.2 < 120 then 0 else 2) else 1
def s_append (S : zS) (c : Int32) : zS := (S.1, S.2.1, (fun k => if k = S.2.2.1.2 then c.toNatClampNeg else S.2.2.1.1 k, S.2.2.1.2 + 1), S.2.2.2)
def e_about (w : Int32) : Nat := if z_in w 0 8 then 0 else 1
def v_about (r : zR) (w : Nat) : Int32 := if w = 0 then r 0 else if w = 1 then r 1 else if w = 2 then p_running r else if w = 3 then p_frn r 12 0 0 else if w = 4 then p_lonn r 12 0 0 else if w = 5 then p_badn r 12 0 0 else if w = 6 then r 2 else if w = 7 then r 3 else r 4
def e_task (r : zR) (t w : Int32) : Nat := if p_isTask r t then (if z_in w 0 5 then 0 else 2) else 1
def v_task (r : zR) (t w : Int32) : Int32 := tf r t.toNatClampNeg w.toNatClampNeg
def e_stripe (s w : Int32) : Nat := if p_isStripe s then (if z_in w 0 2 then 0 else 2) else 1
def v_stripe (r : zR) (s w : Int32) : Int32 := if w = 0 then p_taker r s else if w = 1 then p_comer r s else r (11 + s.toNatClampNeg)
def e_job (w : Int32) : Nat := if z_in w 0 2 then 0 else 1
def v_job (r : zR) (w : Int32) : Int32 := if r 5 = -1 then -1 else r (5 + w.toNatClampNeg)
def v_setting (r : zR) (w : Int32) : Int32 := r (8 + w.toNatClampNeg)
def s_now (S : zS) (r' : zR) : zS := (r', (acts_more S.2.1.1, rr_more S.2.1.1 S.2.1.2 S.1), S.2.2)
def e_add (r : zR) (w v : Int32) : Nat := if z_in w 1 6 && z_in v 0 996 then (if cnt r < 6 then 0 else 2) else 1
def e_bring (r : zR) (t s : Int32) : Nat := if p_isTask r t && p_isStripe s then (if p_canb r t s then 0 else 2) else 1
def e_stop (r : zR) (t : Int32) : Nat := if p_isTask r t then (if p_cans r t then 0 else 2) else 1
def e_strp (s : Int32) : Nat := if p_isStripe s then 0 else 1
def e_run (n : Int32) : Nat := if z_in n 1 60 then 0 else 1
def e_set (w v : Int32) : Nat := if p_isSet w v then 0 else 1
def e_undo (S : zS) : Nat := if S.2.1.1 = 0 then 1 else 0
def s_undo (S : zS) : zS := (S.2.1.2 (S.2.1.1 - 1), (S.2.1.1 - 1, S.2.1.2), S.2.2)
def e_gap (w : Int32) : Nat := if z_in w 1 6 then 0 else 1
def v_gap (r : zR) (w : Int32) : Int32 := p_gapn r w 12 0 (-1) 13
def e_win (w x : Int32) : Nat := if z_in w 1 12 && z_in x 0 1 then 0 else 1
def v_win0 (r : zR) (w : Int32) : Int32 := p_winn r w.toNatClampNeg (13 - w.toNatClampNeg) 0 (-1) 0
def v_win (r : zR) (w x : Int32) : Int32 := if v_win0 r w = -1 ∨ x = 0 then v_win0 r w else p_ww r (v_win0 r w) w
def e_coming (r : zR) (t n w : Int32) : Nat := if p_isTask r t then (if z_in n 1 200 && z_in w 0 2 then 0 else 2) else 1
def v_coming (r : zR) (t n w : Int32) : Int32 := if w = 0 then tf (p_run n.toNatClampNeg r) t.toNatClampNeg 1 else if w = 1 then tf (p_run n.toNatClampNeg r) t.toNatClampNeg 2 else tf (p_run n.toNatClampNeg r) t.toNatClampNeg 3 - tf r t.toNatClampNeg 3
def v_lost (r : zR) (s : Int32) : Int32 := if p_hurt r s = -1 then 0 else tf r (p_hurt r s).toNatClampNeg 6
def e_slot (x : Int32) : Nat := if z_in x 0 1 then 0 else 1
def s_save (S : zS) (x : Int32) : zS := (S.1, S.2.1, S.2.2.1, (fun j => if j = x.toNatClampNeg then S.1 else S.2.2.2.1 j, fun j => if j = x.toNatClampNeg then true else S.2.2.2.2 j))
def e_rest (S : zS) (x : Int32) : Nat := if z_in x 0 1 then (if S.2.2.2.2 x.toNatClampNeg then 0 else 2) else 1
def s_rest (S : zS) (x : Int32) : zS := (S.2.2.2.1 x.toNatClampNeg, (0, S.2.1.2), S.2.2)
theorem cnt_run : ∀ (n : Nat) (r : zR), cnt (p_run n r) = cnt r
  | 0, _ => rfl
  | n + 1, r => by
    rw [p_run, cnt_run n]
    show cnt (upd _ 1 _) = _
    unfold cnt
    rw [pk_un (by omega), p_works_lo _ (by omega) (by omega), p_load_lo _ (by omega)]
