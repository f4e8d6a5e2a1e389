/-! Math.max, Math.min; rows whose answer may be a task or null -/
section ZMATH
variable {E : zE} {l : Launch} {y : MethodName} {cc : ByteArray} {nL : Nat} {ret : Option FieldType} {hh : List (Nat × Nat × Nat × Nat)} {d mc ms : Nat} {Q : zQ} {k n : Nat} {G : zG} {I : zI} {sz pc pc' : Nat} {lv : List (Option Value)} {st : List Value} {idx : Nat}
theorem ini_math : Cond.initialized "java/lang/Math" ∈ gw := gw_at 16 (by decide +kernel) rfl
theorem lk_max : Cond.methodLink RX1 129 Lib.Math.max.name ∈ gw := gw_at 483 (by decide +kernel) rfl
theorem st_max : Cond.static Lib.Math.max.name ∈ gw := gw_at 484 (by decide +kernel) rfl
theorem co_max : Cond.code Lib.Math.max.name Lib.Math.max.code 2 (some .int) ∈ gw := gw_at 485 (by decide +kernel) rfl
theorem v_mmax {x z : Int32} (hy : y.cls = RX1) (hd : decode cc pc = .ok (.invokestatic 129, 3)) (hd1 : 1 ≤ d) (hcat : (st.map fun v => v.category).sum ≤ 8) (hp : pc + 3 = pc') (hk : k ≤ mc) (hn : n ≤ ms)
    (h : z_V E l (y, cc, nL, ret, hh) (z_rm d mc ms) mc ms Q k n G I sz pc' lv (.int (if x < z then z else x) :: st)) : z_V E l (y, cc, nL, ret, hh) (z_rm d mc ms) mc ms Q k n G I sz pc lv (.int z :: .int x :: st) := by
  subst hp
  intro p e s m args below meth c C0 H locs ls hW hS hL
  obtain ⟨hx0, hb, hr, hml, hown, hts, hlk, hnm, het, hU, hb0, hst⟩ := id C0
  refine va_mmax (R := z_rm d mc ms) hx0 hb (hml.trans hL.1.symm) (own := RX1) (by rw [← hy]; exact hown) (hts _ lk_max) (hts _ st_max) (hts _ ini_math) (hts _ co_max) hd1 ?_ hk hn hd (h p e s m args below meth c C0 H locs ls hW hS hL)
  show _ + 13 ≤ 38 * d
  omega
theorem lk_min : Cond.methodLink RX4 274 Lib.Math.min.name ∈ gw := gw_at 745 (by decide +kernel) rfl
theorem st_min : Cond.static Lib.Math.min.name ∈ gw := gw_at 746 (by decide +kernel) rfl
theorem co_min : Cond.code Lib.Math.min.name Lib.Math.min.code 2 (some .int) ∈ gw := gw_at 747 (by decide +kernel) rfl
theorem v_mmin {x z : Int32} (hy : y.cls = RX4) (hd : decode cc pc = .ok (.invokestatic 274, 3)) (hd1 : 1 ≤ d) (hcat : (st.map fun v => v.category).sum ≤ 8) (hp : pc + 3 = pc') (hk : k ≤ mc) (hn : n ≤ ms)
    (h : z_V E l (y, cc, nL, ret, hh) (z_rm d mc ms) mc ms Q k n G I sz pc' lv (.int (if z < x then z else x) :: st)) : z_V E l (y, cc, nL, ret, hh) (z_rm d mc ms) mc ms Q k n G I sz pc lv (.int z :: .int x :: st) := by
  subst hp
  intro p e s m args below meth c C0 H locs ls hW hS hL
  obtain ⟨hx0, hb, hr, hml, hown, hts, hlk, hnm, het, hU, hb0, hst⟩ := id C0
  refine va_mmin (R := z_rm d mc ms) hx0 hb (hml.trans hL.1.symm) (own := RX4) (by rw [← hy]; exact hown) (hts _ lk_min) (hts _ st_min) (hts _ ini_math) (hts _ co_min) hd1 ?_ hk hn hd (h p e s m args below meth c C0 H locs ls hW hS hL)
  show _ + 13 ≤ 38 * d
  omega
theorem nI_isTask {r : zR} (hW : WF r) {t : Int32} : (p_isTask r t = true ∧ ∃ u, u < cnt r ∧ u < 6 ∧ t = nI u) ∨ p_isTask r t = false := by
  cases h : p_isTask r t with
  | false => exact Or.inr rfl
  | true =>
    obtain ⟨u, h1, h2⟩ := p_isTask_nI hW h
    have := hW.1.1
    exact Or.inl ⟨rfl, u, h1, by omega, h2⟩
theorem p_isTask_m1 {r : zR} : p_isTask r (-1) = false := by
  simp only [p_isTask, z_in]
  have : decide ((0 : Int32) ≤ -1) = false := by decide
  rw [this]
  rfl
/-- as the class asks for it -/
theorem p_isTask_lt {r : zR} (hW : WF r) {t : Int32} : p_isTask r t = (decide (0 ≤ t) && decide (¬ r 0 ≤ t)) := by
  rcases nI_isTask hW (t := t) with ⟨hi, u, hu, hu6, rfl⟩ | hi
  · obtain ⟨⟨h6, h0⟩, -⟩ := hW
    rw [hi, h0, decide_eq_true (nI_pos' (by omega)), decide_eq_true (nI_ge hu (by omega))]
    rfl
  · rw [hi]
    by_cases h1 : 0 ≤ t
    · by_cases h2 : r 0 ≤ t
      · simp [h2]
      · exfalso
        obtain ⟨⟨h6, h0⟩, -⟩ := id hW
        rw [h0, Int32.le_iff_toInt_le, nI_toInt (by omega)] at h2
        rw [Int32.le_iff_toInt_le] at h1
        have e0 : (0 : Int32).toInt = 0 := by decide
        obtain ⟨j, hj, rfl⟩ := I32_nI (x := t) (n := cnt r) (by omega) (by omega)
        rw [p_isTask_of hW hj] at hi
        cases hi
    · simp [h1]
end ZMATH
