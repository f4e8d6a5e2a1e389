/-! the world told anew: what constructors need; cells known by membership -/
section INIT0
variable {E : zE} {l : Launch} {y : MethodName} {cc : ByteArray} {nL : Nat} {ret : Option FieldType} {hh : List (Nat × Nat × Nat × Nat)} {R : Room} {mc ms : Nat} {Q : zQ} {k n : Nat} {G G' : zG} {I : zI} {sz pc pc' idx ci N : Nat} {lv : List (Option Value)} {st : List Value} {T : u_T} {fs : List Value}
theorem v_re {M : zM} (hre : ∀ H, z_W E G I sz H → z_W E G' I sz H) (h : z_V E l M R mc ms Q k n G' I sz pc lv st) : z_V E l M R mc ms Q k n G I sz pc lv st := fun p e s m args below meth c C0 H locs ls hW hS hL => h p e s m args below meth c C0 H locs ls (hre H hW) hS hL
/-- all cells lie below the heap's end -/
theorem v_lt {M : zM} (h : (∀ x ∈ G, x.1 < sz) → z_V E l M R mc ms Q k n G I sz pc lv st) : z_V E l M R mc ms Q k n G I sz pc lv st := fun p e s m args below meth c C0 H locs ls hW hS hL => h (fun x hx => by rw [← hW.1]; exact (hW.2.2.1 x hx).1.lt) p e s m args below meth c C0 H locs ls hW hS hL
/-- the cell at a is told anew, the others are kept -/
def G_at (G : zG) (a : Nat) (f' : (Nat → Int32) → va_E) (G' : zG) : Prop := (a, f') ∈ G' ∧ ∀ x ∈ G, x.1 ≠ a → x ∈ G'
theorem G_at.of {pre suf : zG} {a : Nat} {f f' : (Nat → Int32) → va_E} : G_at (pre ++ (a, f) :: suf) a f' (pre ++ (a, f') :: suf) := ⟨by simp, fun x hx hne => by
  rcases List.mem_append.mp hx with hx | hx
  · exact List.mem_append.mpr (Or.inl hx)
  · rcases List.mem_cons.mp hx with rfl | hx
    · exact absurd rfl hne
    · exact List.mem_append.mpr (Or.inr (List.mem_cons_of_mem _ hx))⟩
theorem v_putM {a kf : Nat} {f f' : (Nat → Int32) → va_E} {C : String} {x : Value} {ty : FieldType} (hx9 : (a, f) ∈ G) (hd : decode cc pc = .ok (.putfield idx, 3)) (hf : f (I a) = .inr (ci, fs)) (hc : vwCl[ci]? = some (C, T, N)) (hin : ∀ w ∈ u_ws C T N, w ∈ gw) (ty0 : Nat → FieldType) (hty : ∀ k, k < N → parseFieldDescriptor (T k).2.2.1 = some (ty0 k)) (hnm9 : ∀ a, a < N → ∀ b, b < N → a ≠ b → (T a).2.1 ≠ (T b).2.1) (hk : kf < N) (hl : Cond.fieldLink y.cls idx (T kf).1 (T kf).2.1 (T kf).2.2.1 ∈ gw) (hfin : (T kf).2.2.2 = true) (hin2 : y.name = "<init>") (hdecl : (T kf).1 = y.cls)
    (hdsc : parseFieldDescriptor (T kf).2.2.1 = some ty) (hn : narrow ty x = x) (hfit : fits ty x = true) (hlen : kf < fs.length) (hf' : f' (I a) = .inr (ci, fs.set kf x)) (hp : pc + 3 = pc')
    (h : ∀ G', G_at G a f' G' → z_V E l (y, cc, nL, ret, hh) R mc ms Q k n G' I sz pc' lv st) : z_V E l (y, cc, nL, ret, hh) R mc ms Q k n G I sz pc lv (x :: .ref a :: st) := by
  obtain ⟨pre, suf, rfl⟩ := List.append_of_mem hx9
  exact v_putF hd hf hc hin ty0 hty hnm9 hk hl hfin hin2 hdecl hdsc hn hfit hlen hf' hp (h _ G_at.of)
theorem v_aasM {a v t j N1 : Nat} {i : Int32} {g : Nat → Option Nat} {fv : (Nat → Int32) → va_E} {r : vw_C} {vs : List Value} (hx9 : (a, sN E t N1 g) ∈ G) (hd : decode cc pc = .ok (.aastore, 1)) (ht : (z_tys E)[t]? = some (E.2.1 t, .object r.1)) (hi : i = nI j) (hj : j < N1) (hN : N1 < 2 ^ 31) (hv : (v, fv) ∈ G) (hfv : fv (I v) = .inr (ci, vs)) (hc : vwCl[ci]? = some r) (hp : pc + 1 = pc')
    (h : ∀ G', G_at G a (sN E t N1 (va_up g j (some v))) G' → z_V E l (y, cc, nL, ret, hh) R mc ms Q k n G' I sz pc' lv st) : z_V E l (y, cc, nL, ret, hh) R mc ms Q k n G I sz pc lv (.ref v :: .int i :: .ref a :: st) := by
  obtain ⟨pre, suf, rfl⟩ := List.append_of_mem hx9
  exact v_aast hd ht hi hj hN hv hfv hc hp (h _ G_at.of)
/-- a row of references that is filled evenly -/
theorem v_sNR {M : zM} {a t N1 b w : Nat} {g : Nat → Option Nat} (hx9 : (a, sN E t N1 g) ∈ G) (hg : ∀ j, j < N1 → g j = some (b + w * j))
    (h : ∀ G', G_at G a (sR E t N1 b w) G' → z_V E l M R mc ms Q k n G' I sz pc lv st) : z_V E l M R mc ms Q k n G I sz pc lv st := by
  obtain ⟨pre, suf, rfl⟩ := List.append_of_mem hx9
  refine v_re (G' := pre ++ (a, sR E t N1 b w) :: suf) (fun H hW => ?_) (h _ G_at.of)
  refine hW.putG ?_ (fun _ _ => rfl) rfl (fun _ _ => rfl)
  have h1 := (hW.2.2.1 (a, sN E t N1 g) (by simp)).1
  have h2 : H[a]? = some (vp_cell (E.2.1 t) (N1, .inr (.inr (.inr (.inr g))))) := h1
  show H[a]? = some (vp_cell (E.2.1 t) (N1, .inr (.inr (.inr (.inr (fun k => some (b + w * k)))))))
  rw [h2, vp_cell_q, vp_cell_q]
  exact congrArg some (z_arr (fun j hj => by rw [hg j hj]))
end INIT0
