/-! THE MEMORY beyond an array's length is nobody's: it may be told otherwise -/
theorem z_arr {cI : ClassId} {N : Nat} {f g : Nat → Value} (h : ∀ j, j < N → f j = g j) : arrV cI N f = arrV cI N g := by
  have : (fun j : Fin N => f j.val) = fun j : Fin N => g j.val := funext fun j => h j.val j.isLt
  simp [arrV, this]
theorem v_ext {E : zE} {l : Launch} {M : zM} {R : Room} {mc ms : Nat} {Q : zQ} {k n : Nat} {G : zG} {I I' : zI} {sz pc : Nat} {lv : List (Option Value)} {st : List Value} {a t N1 : Nat} (hx : (a, sI E t N1) ∈ G) (hI : ∀ q, q ≠ a → I' q = I q) (he : ∀ j, j < N1 → I' a j = I a j)
    (h : z_V E l M R mc ms Q k n G I' sz pc lv st) : z_V E l M R mc ms Q k n G I sz pc lv st := by
  intro p e s m args below meth c C0 H locs ls hW hS hL
  refine h p e s m args below meth c C0 H locs ls ?_ hS hL
  refine hW.put hx ?_ hI rfl (fun _ _ => rfl)
  have h1 := (hW.2.2.1 _ hx).1
  have h2 : H[a]? = some (vp_cell (E.2.1 t) (N1, .inl (I a))) := h1
  show H[a]? = some (vp_cell (E.2.1 t) (N1, .inl (I' a)))
  rw [h2, vp_cell_i, vp_cell_i]
  exact congrArg some (z_arr (fun j hj => by rw [he j hj]))
/-- a copied stretch -/
def cpy (f g : zR) (sp dp n : Nat) : zR := fun k => if dp ≤ k ∧ k < dp + n then f (sp + (k - dp)) else g k
theorem cpy_0 (f g : zR) (sp dp : Nat) : cpy f g sp dp 0 = g := by
  funext k
  simp only [cpy]
  exact if_neg (by omega)
theorem cpy_s (f g : zR) (sp dp n : Nat) : upd (cpy f g sp dp n) (dp + n) (f (sp + n)) = cpy f g sp dp (n + 1) := by
  funext k
  simp only [cpy, upd]
  by_cases h : k = dp + n
  · subst h
    rw [if_pos rfl, if_pos (by omega), show dp + n - dp = n by omega]
  · rw [if_neg h]
    by_cases h2 : dp ≤ k ∧ k < dp + n
    · rw [if_pos h2, if_pos (by omega)]
    · rw [if_neg h2, if_neg (by omega)]
theorem cpy_in {f g : zR} {sp dp n k : Nat} (h : dp ≤ k) (h2 : k < dp + n) : cpy f g sp dp n k = f (sp + (k - dp)) := if_pos ⟨h, h2⟩
theorem cpy_out {f g : zR} {sp dp n k : Nat} (h : k < dp ∨ dp + n ≤ k) : cpy f g sp dp n k = g k := if_neg (by omega)
/-- a new state's row -/
def p_clr (r : zR) : zR := upd (upd (upd (upd r 5 (-1)) 8 3) 9 2) 10 10
def p_new : zR := p_clr (fun _ => 0)
