/-! methods that may throw: their contracts, and the class's three throws -/
def z_f (e : Option String) (P : Int32 → zI → Prop) (PX : zI → Prop) (o : Option Value ⊕ String) (I' : zI) : Prop := match o with
  | .inl v => e = none ∧ ∃ x, v = some (.int x) ∧ P x I'
  | .inr X => e = some X ∧ PX I'
def z_fq (G : zG) (sz : Nat) (e : Option String) (P : Int32 → zI → Prop) (PX : zI → Prop) : zQ := fun o G' I' sz' => G' = G ∧ sz ≤ sz' ∧ z_f e P PX o I'
def z_CF (E : zE) (l : Launch) (M : zM) (d : Nat) (av : List Value) (G : zG) (I : zI) (sz : Nat) (e : Option String) (P : Int32 → zI → Prop) (PX : zI → Prop) : Prop := z_Cx E l M d 1 6 av G I sz (z_fq G sz e P PX)
abbrev nIAE : String := "java/lang/IllegalArgumentException"
abbrev nISE : String := "java/lang/IllegalStateException"
abbrev nIOO : String := "java/lang/IndexOutOfBoundsException"
def tw_ok (ic : Nat) (X : String) : Bool := (vx_at0 RX4 ic X ["java/lang/RuntimeException", "java/lang/Exception"]).all (fun w => vx_ot w && (lw_tbl.contains w && (goodWord w || z_isN w)))
theorem tw_iae : tw_ok 47 nIAE = true := by decide +kernel
theorem tw_ise : tw_ok 54 nISE = true := by decide +kernel
theorem tw_ioo : tw_ok 125 nIOO = true := by decide +kernel
theorem tw_in {ic : Nat} {X : String} (h : tw_ok ic X = true) : ∀ w ∈ vx_at0 RX4 ic X ["java/lang/RuntimeException", "java/lang/Exception"], w ∈ gw ∨ w ∈ z_nst := fun w hw => by
  have h1 := List.all_eq_true.mp h w hw
  simp only [Bool.and_eq_true, Bool.or_eq_true, List.contains_iff_mem] at h1
  rcases h1.2.2 with g | g
  · exact Or.inl (List.mem_filter.mpr ⟨h1.2.1, g⟩)
  · exact Or.inr (List.mem_filter.mpr ⟨h1.2.1, g⟩)
theorem tw_ot {ic : Nat} {X : String} (h : tw_ok ic X = true) : ∀ w ∈ vx_at0 RX4 ic X ["java/lang/RuntimeException", "java/lang/Exception"], vx_ot w = true := fun w hw => by
  have h1 := List.all_eq_true.mp h w hw
  simp only [Bool.and_eq_true] at h1
  exact h1.1
theorem tw_good {w : Cond} (h : w ∈ gw) : vx_ot w = true := by
  have := (List.mem_filter.mp h).2
  simp [vx_ot, this]
section FACE0
variable {E : zE} {l : Launch} {y : MethodName} {cc : ByteArray} {nL : Nat} {ret : Option FieldType} {hh : List (Nat × Nat × Nat × Nat)} {d mc ms : Nat} {Q : zQ} {k n : Nat} {G : zG} {I : zI} {sz pc : Nat} {lv : List (Option Value)} {st : List Value}
theorem v_iae (hy : y.cls = RX4) (hh0 : hh = []) (hd : decode cc pc = .ok (.new 45, 3)) (d3 : decode cc (pc + 3) = .ok (.dup, 1)) (d4 : decode cc (pc + 4) = .ok (.invokespecial 47, 3)) (d7 : decode cc (pc + 7) = .ok (.athrow, 1)) (hfr : 5 < d) (hcap : k + 1 ≤ mc ∧ n + 6 ≤ ms) (hQ : ∀ sz', sz ≤ sz' → Q (.inr nIAE) G I sz') : z_V E l (y, cc, nL, ret, hh) (z_rm d mc ms) mc ms Q k n G I sz pc lv [] := by
  refine v_throw0 (names := ["java/lang/RuntimeException", "java/lang/Exception"]) hd d3 d4 d7 (by decide +kernel) (by decide +kernel) (by rw [hy]; exact cl_X4_45) ini_IAE (by rw [hy]; exact tw_in tw_iae) ?_ hh0 hfr ?_ hcap hQ
  · rw [hy]
    intro w hw
    rcases List.mem_cons.mp hw with rfl | hw
    · exact tw_good cl_X4_45
    rcases List.mem_cons.mp hw with rfl | hw
    · exact tw_good ini_IAE
    · exact tw_ot tw_iae w hw
  · show 0 + (13 * 3 + 42) ≤ 38 * d
    omega
theorem v_ise (hy : y.cls = RX4) (hh0 : hh = []) (hd : decode cc pc = .ok (.new 52, 3)) (d3 : decode cc (pc + 3) = .ok (.dup, 1)) (d4 : decode cc (pc + 4) = .ok (.invokespecial 54, 3)) (d7 : decode cc (pc + 7) = .ok (.athrow, 1)) (hfr : 5 < d) (hcap : k + 1 ≤ mc ∧ n + 6 ≤ ms) (hQ : ∀ sz', sz ≤ sz' → Q (.inr nISE) G I sz') : z_V E l (y, cc, nL, ret, hh) (z_rm d mc ms) mc ms Q k n G I sz pc lv [] := by
  refine v_throw0 (names := ["java/lang/RuntimeException", "java/lang/Exception"]) hd d3 d4 d7 (by decide +kernel) (by decide +kernel) (by rw [hy]; exact cl_X4_52) ini_ISE (by rw [hy]; exact tw_in tw_ise) ?_ hh0 hfr ?_ hcap hQ
  · rw [hy]
    intro w hw
    rcases List.mem_cons.mp hw with rfl | hw
    · exact tw_good cl_X4_52
    rcases List.mem_cons.mp hw with rfl | hw
    · exact tw_good ini_ISE
    · exact tw_ot tw_ise w hw
  · show 0 + (13 * 3 + 42) ≤ 38 * d
    omega
theorem v_ioo (hy : y.cls = RX4) (hh0 : hh = []) (hd : decode cc pc = .ok (.new 123, 3)) (d3 : decode cc (pc + 3) = .ok (.dup, 1)) (d4 : decode cc (pc + 4) = .ok (.invokespecial 125, 3)) (d7 : decode cc (pc + 7) = .ok (.athrow, 1)) (hfr : 5 < d) (hcap : k + 1 ≤ mc ∧ n + 6 ≤ ms) (hQ : ∀ sz', sz ≤ sz' → Q (.inr nIOO) G I sz') : z_V E l (y, cc, nL, ret, hh) (z_rm d mc ms) mc ms Q k n G I sz pc lv [] := by
  refine v_throw0 (names := ["java/lang/RuntimeException", "java/lang/Exception"]) hd d3 d4 d7 (by decide +kernel) (by decide +kernel) (by rw [hy]; exact cl_X4_123) ini_IOOBE (by rw [hy]; exact tw_in tw_ioo) ?_ hh0 hfr ?_ hcap hQ
  · rw [hy]
    intro w hw
    rcases List.mem_cons.mp hw with rfl | hw
    · exact tw_good cl_X4_123
    rcases List.mem_cons.mp hw with rfl | hw
    · exact tw_good ini_IOOBE
    · exact tw_ot tw_ioo w hw
  · show 0 + (13 * 3 + 42) ≤ 38 * d
    omega
end FACE0
