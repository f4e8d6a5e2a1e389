theorem z_rd {v w : Value} {G : zG} {I : zI} {sz : Nat} (h : w = v) : z_q (fun v' G' I' sz' => v' = some v ∧ G' = G ∧ I' = I ∧ sz' = sz) (.inl (some w)) G I sz := ⟨by rw [h], rfl, rfl, rfl⟩
theorem z_rdi {x y : Int32} {G : zG} {I : zI} {sz : Nat} (h : x = y) : z_q (fun v' G' I' sz' => v' = some (.int y) ∧ G' = G ∧ I' = I ∧ sz' = sz) (.inl (some (.int x))) G I sz := ⟨by rw [h], rfl, rfl, rfl⟩
def p_isSet (w v : Int32) : Bool := (decide (w = 0) && z_in v 1 9) || ((decide (w = 1) && z_in v 0 20) || (decide (w = 2) && z_in v 1 99))
