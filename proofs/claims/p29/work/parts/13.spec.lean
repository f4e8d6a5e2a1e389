/-! THE STATE AS A ROW OF NUMBERS, and what each action makes of it (in the reference's own steps) -/
abbrev zR : Type := Nat → Int32
/-- a task's number -/
def tf (r : zR) (t w : Nat) : Int32 := r (23 + 7 * t + w)
def cnt (r : zR) : Nat := (r 0).toNatClampNeg
def jt (r : zR) : Nat := (r 5).toNatClampNeg
def tI (r : zR) (t w : Nat) : Int := (tf r t w).toInt
def z_in (v lo hi : Int32) : Bool := decide (lo ≤ v) && decide (v ≤ hi)
def p_isTask (r : zR) (t : Int32) : Bool := z_in t 0 (r 0 - 1)
def p_isStripe (s : Int32) : Bool := z_in s 0 11
def p_takes (r : zR) (t : Nat) (s : Int32) : Bool := decide (¬ tf r t 5 = -1) && (decide (tf r t 5 ≤ s) && decide (s < tf r t 5 + tf r t 0))
def p_tkf (r : zR) (s : Int32) : Nat → Nat → Int32
  | 0, _ => -1
  | n + 1, t => if p_takes r t s then nI t else p_tkf r s n (t + 1)
def p_taker (r : zR) (s : Int32) : Int32 := p_tkf r s (cnt r) 0
def p_isMove (r : zR) : Bool := decide (¬ r 5 = -1) && decide (¬ tf r (jt r) 4 = 1)
def p_comer (r : zR) (s : Int32) : Int32 := if p_isMove r && (decide (r 6 ≤ s) && decide (s < r 6 + tf r (jt r) 0)) then r 5 else -1
def p_free (r : zR) (s : Nat) : Bool := decide (r (11 + s) = 0) && (decide (p_taker r (nI s) = -1) && decide (p_comer r (nI s) = -1))
def p_ffn (r : zR) : Nat → Nat → Nat
  | 0, _ => 0
  | n + 1, s => if p_free r s then p_ffn r n (s + 1) + 1 else 0
def p_ff (r : zR) (s : Nat) : Nat := p_ffn r (12 - s) s
def p_fitn (r : zR) (t : Int32) : Nat → Nat → Bool
  | 0, _ => true
  | n + 1, k => if decide (r (11 + k) = 1) || (decide (¬ p_taker r (nI k) = -1) && decide (¬ p_taker r (nI k) = t)) then false else p_fitn r t n (k + 1)
def p_canb (r : zR) (t s : Int32) : Bool := p_isTask r t && (p_isStripe s && (decide (r 5 = -1) && (decide (s + tf r t.toNatClampNeg 0 ≤ 12) && p_fitn r t (tf r t.toNatClampNeg 0).toNatClampNeg s.toNatClampNeg)))
def p_br1 (r : zR) (t : Nat) (s : Int32) : zR := upd (upd (upd r 5 (nI t)) 6 s) 7 (r 8 * tf r t 0)
def p_bring (r : zR) (t : Nat) (s : Int32) : zR :=
  if tf r t 4 = 0 then upd (upd (p_br1 r t s) (23 + 7 * t + 4) 1) (23 + 7 * t + 5) s
  else if s - tf r t 5 < tf r t 0 ∧ -(s - tf r t 5) < tf r t 0 then upd (upd (p_br1 r t s) (23 + 7 * t + 4) 3) 7 (r 8 * tf r t 0 + r 9)
  else p_br1 r t s
def p_bringv (r : zR) (t : Nat) : Int32 := if tf r t 4 = 0 then r 8 * tf r t 0 else r 8 * tf r t 0 + r 9
def p_finish (r : zR) : zR := upd (upd (upd (upd r (23 + 7 * jt r + 4) 2) (23 + 7 * jt r + 5) (r 6)) 5 (-1)) 2 (r 2 + 1)
def p_load (r : zR) : zR :=
  if r 5 = -1 then r
  else if 0 < r 7 - 1 then upd r 7 (r 7 - 1)
  else if tf r (jt r) 4 = 2 ∧ 0 < r 9 then upd (upd (upd r 7 (r 7 - 1)) (23 + 7 * jt r + 4) 3) 7 (r 9)
  else p_finish (upd r 7 (r 7 - 1))
def z_rem (a b : Int32) : Int32 := a - a / b * b
def p_saves (r : zR) : Bool := decide (z_rem (r 1 + 1) (r 10) = 0)
def p_nv (r : zR) (t : Nat) : Int32 := z_rem (31 * tf r t 1 + 7 * tf r t 0 + 1) 997
def p_work (sv : Bool) (r : zR) (t : Nat) : zR :=
  if tf r t 4 = 2 then
    upd (upd (upd (upd (upd r (23 + 7 * t + 1) (p_nv r t)) (23 + 7 * t + 3) (tf r t 3 + 1)) (23 + 7 * t + 2) (if sv then p_nv r t else tf r t 2)) (23 + 7 * t + 6) (if sv then 0 else tf r t 6 + 1)) 4 (r 4 + 1)
  else r
def p_works (sv : Bool) : Nat → Nat → zR → zR
  | 0, _, r => r
  | n + 1, t, r => p_works sv n (t + 1) (p_work sv r t)
def p_tick (r : zR) : zR :=
  let r1 := p_load r
  let r2 := p_works (p_saves r1) (cnt r1) 0 r1
  upd r2 1 (r2 1 + 1)
def p_run : Nat → zR → zR
  | 0, r => r
  | n + 1, r => p_run n (p_tick r)
def p_drop (r : zR) : zR := upd (upd r 5 (-1)) 3 (r 3 + 1)
def p_hurt (r : zR) (s : Int32) : Int32 :=
  if ¬ p_taker r s = -1 then p_taker r s else if ¬ p_comer r s = -1 ∧ tf r (p_comer r s).toNatClampNeg 4 = 3 then p_comer r s else -1
def p_bad1 (r : zR) (s : Nat) : zR := if (¬ p_hurt r (nI s) = -1 ∧ r 5 = p_hurt r (nI s)) ∨ (p_hurt r (nI s) = -1 ∧ ¬ p_comer r (nI s) = -1) then p_drop r else r
def p_off (r : zR) (t : Nat) : zR := upd (upd (upd (upd r (23 + 7 * t + 4) 0) (23 + 7 * t + 5) (-1)) (23 + 7 * t + 1) (tf r t 2)) (23 + 7 * t + 6) 0
def p_bad (r : zR) (s : Nat) : zR :=
  if p_hurt r (nI s) = -1 then upd (p_bad1 r s) (11 + s) 1 else p_off (upd (p_bad1 r s) (11 + s) 1) (p_hurt r (nI s)).toNatClampNeg
def p_mend (r : zR) (s : Nat) : zR := upd r (11 + s) 0
def p_add (r : zR) (w v : Int32) : zR :=
  upd (upd (upd (upd (upd (upd (upd (upd r (23 + 7 * cnt r + 0) w) (23 + 7 * cnt r + 1) v) (23 + 7 * cnt r + 2) v) (23 + 7 * cnt r + 3) 0) (23 + 7 * cnt r + 4) 0) (23 + 7 * cnt r + 5) (-1)) (23 + 7 * cnt r + 6) 0) 0 (r 0 + 1)
def p_cans (r : zR) (t : Int32) : Bool := p_isTask r t && (decide (tf r t.toNatClampNeg 4 = 2) && decide (¬ r 5 = t))
def p_stop (r : zR) (t : Nat) : zR := upd (upd (upd (upd r (23 + 7 * t + 4) 0) (23 + 7 * t + 5) (-1)) (23 + 7 * t + 2) (tf r t 1)) (23 + 7 * t + 6) 0
def p_runn (r : zR) : Nat → Nat → Int32 → Int32
  | 0, _, x => x
  | n + 1, t, x => p_runn r n (t + 1) (x + if tf r t 4 = 2 then 1 else 0)
def p_running (r : zR) : Int32 := p_runn r (cnt r) 0 0
def p_idle (r : zR) : Int32 := if r 5 = -1 then 0 else r 7 + if tf r (jt r) 4 = 2 then r 9 else 0
/-- what holds of every row that a run makes -/
def WFt (r : zR) (t : Nat) : Prop := (1 ≤ tI r t 0 ∧ tI r t 0 ≤ 6) ∧ (0 ≤ tI r t 1 ∧ tI r t 1 ≤ 996) ∧ (0 ≤ tI r t 2 ∧ tI r t 2 ≤ 996) ∧ (0 ≤ tI r t 4 ∧ tI r t 4 ≤ 3) ∧ ((tI r t 4 = 0 ∧ tI r t 5 = -1) ∨ (1 ≤ tI r t 4 ∧ 0 ≤ tI r t 5 ∧ tI r t 5 + tI r t 0 ≤ 12))
def WFj (r : zR) : Prop := jt r < cnt r ∧ r 5 = nI (jt r) ∧ (0 ≤ (r 6).toInt ∧ (r 6).toInt + tI r (jt r) 0 ≤ 12) ∧ (1 ≤ (r 7).toInt ∧ (r 7).toInt ≤ 74) ∧ 1 ≤ tI r (jt r) 4 ∧ True ∧ ∀ u, u < cnt r → u ≠ jt r → tI r u 5 = -1 ∨ tI r u 5 + tI r u 0 ≤ (r 6).toInt ∨ (r 6).toInt + tI r (jt r) 0 ≤ tI r u 5
def WF (r : zR) : Prop := (cnt r ≤ 6 ∧ r 0 = nI (cnt r)) ∧ (∀ t, t < cnt r → WFt r t) ∧ (r 5 = -1 ∨ WFj r) ∧ (∀ s, s < 12 → r (11 + s) = 0 ∨ r (11 + s) = 1) ∧ ((1 ≤ (r 8).toInt ∧ (r 8).toInt ≤ 9) ∧ (0 ≤ (r 9).toInt ∧ (r 9).toInt ≤ 20) ∧ (1 ≤ (r 10).toInt ∧ (r 10).toInt ≤ 99)) ∧ ∀ t u, t < cnt r → u < cnt r → t ≠ u → tI r t 5 = -1 ∨ tI r u 5 = -1 ∨ tI r t 5 + tI r t 0 ≤ tI r u 5 ∨ tI r u 5 + tI r u 0 ≤ tI r t 5
/-- a row of the memory replaced -/
def z_row (I : zI) (a : Nat) (r : zR) : zI := fun q => if q = a then r else I q
theorem z_row_at (I : zI) (a : Nat) (r : zR) : z_row I a r a = r := by simp [z_row]
theorem z_row_ne (I : zI) (a : Nat) (r : zR) {q : Nat} (h : q ≠ a) : z_row I a r q = I q := by simp [z_row, h]
theorem z_up_row (I : zI) (a k : Nat) (x : Int32) : z_up I a k x = z_row I a (upd (I a) k x) := rfl
theorem z_row_row (I : zI) (a : Nat) (r r' : zR) : z_row (z_row I a r) a r' = z_row I a r' := by
  funext q
  by_cases h : q = a <;> simp [z_row, h]
theorem z_row_self (I : zI) (a : Nat) : z_row I a (I a) = I := by
  funext q
  by_cases h : q = a <;> simp [z_row, h]
theorem nI_lit (n : Nat) : nI n = Int32.ofNat n := rfl
theorem z_ix (t w : Nat) : (23 : Int32) + 7 * nI t + nI w = nI (23 + 7 * t + w) := by
  show nI 23 + nI 7 * nI t + nI w = _
  rw [pk_mul, nI_add, nI_add]
theorem z_ix11 (s : Nat) : (11 : Int32) + nI s = nI (11 + s) := by
  show nI 11 + nI s = _
  rw [nI_add]
theorem nI_succ1 (n : Nat) : nI n + 1 = nI (n + 1) := nI_1 n
theorem i64_le {x y : Int32} : x.toInt64 ≤ y.toInt64 ↔ x ≤ y := by
  rw [Int64.le_iff_toInt_le, Int32.le_iff_toInt_le]
  simp
theorem lgc_lt {x y : Int64} : lg_cmp x y < 0 ↔ x < y := by
  unfold lg_cmp
  by_cases h : y < x
  · simp only [h, if_true]
    constructor
    · intro q; exact absurd q (by decide)
    · intro q; rw [Int64.lt_iff_toInt_lt] at h q; omega
  · by_cases h2 : x = y
    · subst h2
      simp
    · simp only [h, h2, if_false]
      constructor
      · intro _
        rw [Int64.lt_iff_toInt_lt] at h ⊢
        have : x.toInt ≠ y.toInt := fun q => h2 (Int64.toInt_inj.mp q)
        omega
      · intro _; decide
theorem lgc_gt {x y : Int64} : 0 < lg_cmp x y ↔ y < x := by
  unfold lg_cmp
  by_cases h : y < x
  · simp only [h, if_true]
    exact ⟨fun _ => trivial, fun _ => by decide⟩
  · by_cases h2 : x = y
    · subst h2
      simp
    · simp only [h, h2, if_false]
      constructor
      · intro q; exact absurd q (by decide)
      · intro q; exact absurd q (by simp)
theorem z_b_1 : z_b true = 1 := rfl
theorem z_b_0 : z_b false = 0 := rfl
theorem z_b_eq0 {c : Bool} : z_b c = 0 ↔ c = false := by cases c <;> decide
theorem z_b_ne0 {c : Bool} : ¬ z_b c = 0 ↔ c = true := by cases c <;> decide
