/-! THE ROWS of the judgement that touch the heap; a method's contract; calls -/
theorem z_keys {a : Nat} {f g : (Nat → Int32) → va_E} : ∀ {G : zG}, (G.map Prod.fst).Nodup → (a, f) ∈ G → (a, g) ∈ G → f = g
  | [], _, h, _ => by cases h
  | x :: r, hn, h1, h2 => by
    rw [List.map_cons, List.nodup_cons] at hn
    rcases List.mem_cons.mp h1 with e1 | e1 <;> rcases List.mem_cons.mp h2 with e2 | e2
    · have := e1.trans e2.symm
      cases this
      rfl
    · exact absurd (List.mem_map.mpr ⟨_, e2, by rw [← e1]⟩) hn.1
    · exact absurd (List.mem_map.mpr ⟨_, e1, by rw [← e2]⟩) hn.1
    · exact z_keys hn.2 e1 e2
/-- one number of the memory changed -/
def z_up (I : zI) (a k : Nat) (x : Int32) : zI := fun q => if q = a then upd (I a) k x else I q
theorem z_up_at (I : zI) (a k : Nat) (x : Int32) : z_up I a k x a = upd (I a) k x := by simp [z_up]
theorem z_up_ne (I : zI) (a k : Nat) (x : Int32) {q : Nat} (h : q ≠ a) : z_up I a k x q = I q := by simp [z_up, h]
/-- a new cell's numbers -/
def z_ne (I : zI) (a : Nat) : zI := fun q => if q = a then fun _ => 0 else I q
theorem z_ne_at (I : zI) (a : Nat) : z_ne I a a = fun _ => 0 := by simp [z_ne]
theorem z_ne_ne (I : zI) (a : Nat) {q : Nat} (h : q ≠ a) : z_ne I a q = I q := by simp [z_ne, h]
theorem z_W.put {E : zE} {G : zG} {I I' : zI} {sz : Nat} {H H1 : Heap} {a : Nat} {f : (Nat → Int32) → va_E} (hW : z_W E G I sz H) (hx : (a, f) ∈ G) (hat : va_at E.1 vwCl (a, f (I' a)) H1) (hI : ∀ q, q ≠ a → I' q = I q) (z : H1.size = H.size) (oq : ∀ q : Nat, q ≠ a → H1[q]? = H[q]?) : z_W E G I' sz H1 := by
  obtain ⟨h1, h2, h3, h4⟩ := hW
  refine ⟨z.trans h1, h2, fun x hx1 => ?_, h4⟩
  by_cases hq : x.1 = a
  · obtain ⟨x1, x2⟩ := x
    have hq : x1 = a := hq
    subst hq
    rw [z_keys h4 hx1 hx]
    exact ⟨hat, (h3 _ hx).2⟩
  · exact ⟨(by rw [hI _ hq]; exact (h3 x hx1).1.kept (oq _ hq)), (h3 x hx1).2⟩
theorem z_W.push {E : zE} {G : zG} {I : zI} {sz : Nat} {H H1 : Heap} {f : (Nat → Int32) → va_E} (hW : z_W E G I sz H) (hat : va_at E.1 vwCl (sz, f (fun _ => 0)) H1) (z : H1.size = sz + 1) (oq : ∀ q : Nat, q < sz → H1[q]? = H[q]?) : z_W E ((sz, f) :: G) (z_ne I sz) (sz + 1) H1 := by
  obtain ⟨h1, h2, h3, h4⟩ := hW
  have hlt : ∀ x ∈ G, x.1 < sz := fun x hx => by rw [← h1]; exact (h3 x hx).1.lt
  refine ⟨z, by omega, fun x hx => ?_, ?_⟩
  · rcases List.mem_cons.mp hx with rfl | hx
    · rw [z_ne_at]; exact ⟨hat, h2⟩
    · have := hlt x hx
      exact ⟨(by rw [z_ne_ne _ _ (by omega)]; exact (h3 x hx).1.kept (oq _ this)), (h3 x hx).2⟩
  · rw [List.map_cons, List.nodup_cons]
    refine ⟨fun hm => ?_, h4⟩
    obtain ⟨x, hx, he⟩ := List.mem_map.mp hm
    have := hlt x hx
    have he : x.1 = sz := he
    omega
/-- a cell that is told in another form -/
theorem z_W.putG {E : zE} {pre suf : zG} {I I' : zI} {sz : Nat} {H H1 : Heap} {a : Nat} {f f' : (Nat → Int32) → va_E} (hW : z_W E (pre ++ (a, f) :: suf) I sz H) (hat : va_at E.1 vwCl (a, f' (I' a)) H1) (hI : ∀ q, q ≠ a → I' q = I q) (z : H1.size = H.size) (oq : ∀ q : Nat, q ≠ a → H1[q]? = H[q]?) : z_W E (pre ++ (a, f') :: suf) I' sz H1 := by
  obtain ⟨h1, h2, h3, h4⟩ := hW
  have hk : (pre ++ (a, f') :: suf).map Prod.fst = (pre ++ (a, f) :: suf).map Prod.fst := by simp
  refine ⟨z.trans h1, h2, fun x hx => ?_, by rw [hk]; exact h4⟩
  have hb := (h3 (a, f) (by simp)).2
  by_cases hq : x.1 = a
  · obtain ⟨x1, x2⟩ := x
    have hq : x1 = a := hq
    subst hq
    have hx9 : (x1, f') ∈ pre ++ (x1, f') :: suf := by simp
    rw [z_keys (by rw [hk]; exact h4) hx hx9]
    exact ⟨hat, hb⟩
  · have hx1 : x ∈ pre ++ (a, f) :: suf := by
      rcases List.mem_append.mp hx with h | h
      · exact List.mem_append_left _ h
      · rcases List.mem_cons.mp h with h | h
        · exact absurd (by rw [h]) hq
        · exact List.mem_append_right _ (List.mem_cons_of_mem _ h)
    exact ⟨(by rw [hI _ hq]; exact (h3 x hx1).1.kept (oq _ hq)), (h3 x hx1).2⟩
theorem z_P1 {E : zE} {G : zG} {I : zI} {sz : Nat} {H : Heap} {a : Nat} {f : (Nat → Int32) → va_E} {w : va_E} (hW : z_W E G I sz H) (hx : (a, f) ∈ G) (hf : f (I a) = w) : va_P E.1 vwCl [(a, w)] H := fun k q hk => by
  cases k with
  | zero => cases hk; rw [← hf]; exact (hW.2.2.1 _ hx).1
  | succ k => simp at hk
section ZHEAP
variable {E : zE} {l : Launch} {y : MethodName} {cc : ByteArray} {nL : Nat} {ret : Option FieldType} {hh : List (Nat × Nat × Nat × Nat)} {R : Room} {mc ms : Nat} {Q : zQ} {k n : Nat} {G : zG} {I I' : zI} {sz pc pc' : Nat} {lv : List (Option Value)} {st : List Value}
variable {a ci kf idx N : Nat} {f : (Nat → Int32) → va_E} {C : String} {T : u_T} {fs : List Value} {v : Value}
theorem v_get (hd : decode cc pc = .ok (.getfield idx, 3)) (hx : (a, f) ∈ G) (hf : f (I a) = .inr (ci, fs)) (hc : vwCl[ci]? = some (C, T, N)) (hin : ∀ w ∈ u_ws C T N, w ∈ gw) (hk : kf < N) (hl : Cond.fieldLink y.cls idx (T kf).1 (T kf).2.1 (T kf).2.2.1 ∈ gw) (hv : fs[kf]? = some v) (hp : pc + 3 = pc')
    (h : z_V E l (y, cc, nL, ret, hh) R mc ms Q k n G I sz pc' lv (v :: st)) : z_V E l (y, cc, nL, ret, hh) R mc ms Q k n G I sz pc lv (.ref a :: st) := by
  subst hp
  intro p e s m args below meth c C0 H locs ls hW hS hL
  obtain ⟨hx0, hb, hr, hml, hown, hts, hlk, hnm, het, hU, hb0, hst⟩ := id C0
  exact va_get (D := E.1) (ci := ci) hx0 hb hts hin hown hU.1 (z_P1 hW hx hf) 0 rfl hc kf hk (hts _ hl) (fun _ h9 => h9) hv hd (h p e s m args below meth c C0 H locs ls hW hS hL)
theorem v_put {x : Value} {ty : FieldType} (hd : decode cc pc = .ok (.putfield idx, 3)) (hx : (a, f) ∈ G) (hf : f (I a) = .inr (ci, fs)) (hc : vwCl[ci]? = some (C, T, N)) (hin : ∀ w ∈ u_ws C T N, w ∈ gw) (ty0 : Nat → FieldType) (hty : ∀ k, k < N → parseFieldDescriptor (T k).2.2.1 = some (ty0 k)) (hnm9 : ∀ a, a < N → ∀ b, b < N → a ≠ b → (T a).2.1 ≠ (T b).2.1) (hk : kf < N) (hl : Cond.fieldLink y.cls idx (T kf).1 (T kf).2.1 (T kf).2.2.1 ∈ gw) (hfin : (T kf).2.2.2 = false)
    (hdsc : parseFieldDescriptor (T kf).2.2.1 = some ty) (hn : narrow ty x = x) (hfit : fits ty x = true) (hlen : kf < fs.length) (hI : ∀ q, q ≠ a → I' q = I q) (hf' : f (I' a) = .inr (ci, fs.set kf x)) (hp : pc + 3 = pc')
    (h : z_V E l (y, cc, nL, ret, hh) R mc ms Q k n G I' sz pc' lv st) : z_V E l (y, cc, nL, ret, hh) R mc ms Q k n G I sz pc lv (x :: .ref a :: st) := by
  subst hp
  intro p e s m args below meth c C0 H locs ls hW hS hL
  obtain ⟨hx0, hb, hr, hml, hown, hts, hlk, hnm, het, hU, hb0, hst0⟩ := id C0
  have hap := va_apart (own := y.cls) hts hin ty0 hty hnm9 hU.1 hc
  have hA := hW.2.2.1 _ hx
  obtain ⟨r, h1, cell, q1, q2, q3, q4⟩ := z_P1 hW hx hf 0 _ rfl
  have hr : r = (C, T, N) := Option.some.inj (h1.symm.trans hc)
  subst hr
  obtain ⟨hSl, hfc, kC, hkC, hkind⟩ := hU.1.1 ci _ hc
  obtain ⟨cf, kf9, fi, fl, hi, hsl⟩ := hSl kf hk
  have hlay := hts _ (hin _ (u_in_lay hk))
  unfold u_lay at hlay
  rw [if_neg (by rw [hfin]; decide)] at hlay
  have hst := (u_facts hfc hkC (u_lays hts hin hk) hi).1
  have h6 := u_store hfc hkC hkind hlay hi hdsc hn hfit
  refine W.putK hx0 hb (f := fl) ⟨hown, hts _ hl, ⟨_, _, _, hi⟩, hst⟩ (by rw [q2]; exact h6) q1 q3 (by rw [hsl]; exact k2_hasslot (q4 kf hk)) rfl rfl hd fun H' e1 e2 e3 => ?_
  rw [hsl] at e1 ⊢
  refine h p e s m args below meth c C0 H' _ ls (hW.put hx ?_ hI e2 e3) (hS.put e2 e3 hA.2) hL
  rw [hf']
  exact ⟨_, hc, t_OB.to (V := updV (vp_V fs) kf x) ⟨_, e1, q2, q3, t_set q4 hap hk x⟩ (fun j _ => vp_updV_set hlen x j)⟩
variable {j N1 : Nat} {i x : Int32}
theorem z_idx (hi : i = nI j) (hj : j < N1) (hN : N1 < 2 ^ 31) : vp_in i N1 ∧ i.toNatClampNeg = j := by
  subst hi
  exact ⟨vp_in_nI hj hN, nI_clamp (by omega)⟩
/-- arrays whose numbers are read from the memory -/
def sI (E : zE) (t : Nat) (len : Nat) : (Nat → Int32) → va_E := fun i => .inl (E.2.1 t, (len, .inl i))
theorem v_iald (hd : decode cc pc = .ok (.iaload, 1)) (j : Nat) (hi : i = nI j) (hx : (a, sI E 0 N1) ∈ G) (hj : j < N1) (hN : N1 < 2 ^ 31) (hp : pc + 1 = pc')
    (h : z_V E l (y, cc, nL, ret, hh) R mc ms Q k n G I sz pc' lv (.int (I a j) :: st)) : z_V E l (y, cc, nL, ret, hh) R mc ms Q k n G I sz pc lv (.int i :: .ref a :: st) := by
  subst hp
  intro p e s m args below meth c C0 H locs ls hW hS hL
  obtain ⟨hx0, hb, hr, hml, hown, hts, hlk, hnm, het, hU, hb0, hst⟩ := id C0
  have hq := z_idx hi hj hN
  refine va_iald (D := E.1) hx0 hb hU.1 (z_P1 hW hx rfl) 0 0 rfl rfl hq.1 hd ?_
  rw [hq.2]
  exact h p e s m args below meth c C0 H locs ls hW hS hL
theorem v_zald (hd : decode cc pc = .ok (.baload, 1)) (j : Nat) (hi : i = nI j) (hx : (a, sI E 1 N1) ∈ G) (hj : j < N1) (hN : N1 < 2 ^ 31) (hp : pc + 1 = pc')
    (h : z_V E l (y, cc, nL, ret, hh) R mc ms Q k n G I sz pc' lv (.int (I a j) :: st)) : z_V E l (y, cc, nL, ret, hh) R mc ms Q k n G I sz pc lv (.int i :: .ref a :: st) := by
  subst hp
  intro p e s m args below meth c C0 H locs ls hW hS hL
  obtain ⟨hx0, hb, hr, hml, hown, hts, hlk, hnm, het, hU, hb0, hst⟩ := id C0
  have hq := z_idx hi hj hN
  refine va_zald (D := E.1) hx0 hb hU.1 (z_P1 hW hx rfl) 0 1 rfl rfl hq.1 hd ?_
  rw [hq.2]
  exact h p e s m args below meth c C0 H locs ls hW hS hL
theorem v_cald (hd : decode cc pc = .ok (.caload, 1)) (j : Nat) (hi : i = nI j) (hx : (a, sI E 2 N1) ∈ G) (hj : j < N1) (hN : N1 < 2 ^ 31) (hp : pc + 1 = pc')
    (h : z_V E l (y, cc, nL, ret, hh) R mc ms Q k n G I sz pc' lv (.int (I a j) :: st)) : z_V E l (y, cc, nL, ret, hh) R mc ms Q k n G I sz pc lv (.int i :: .ref a :: st) := by
  subst hp
  intro p e s m args below meth c C0 H locs ls hW hS hL
  obtain ⟨hx0, hb, hr, hml, hown, hts, hlk, hnm, het, hU, hb0, hst⟩ := id C0
  have hq := z_idx hi hj hN
  refine va_cald (D := E.1) hx0 hb hU.1 (z_P1 hW hx rfl) 0 2 rfl rfl hq.1 hd ?_
  rw [hq.2]
  exact h p e s m args below meth c C0 H locs ls hW hS hL
/-- rows of references, fixed: to the cells from b on, in steps of w -/
def sR (E : zE) (t : Nat) (len b w : Nat) : (Nat → Int32) → va_E := fun _ => .inl (E.2.1 t, (len, .inr (.inr (.inr (.inr (fun k => some (b + w * k)))))))
theorem v_aald {t b w : Nat} {Cn : String} (ht : (z_tys E)[t]? = some (E.2.1 t, .object Cn)) (hd : decode cc pc = .ok (.aaload, 1)) (j : Nat) (hi : i = nI j) (hx : (a, sR E t N1 b w) ∈ G) (hj : j < N1) (hN : N1 < 2 ^ 31) (hp : pc + 1 = pc')
    (h : z_V E l (y, cc, nL, ret, hh) R mc ms Q k n G I sz pc' lv (.ref (b + w * j) :: st)) : z_V E l (y, cc, nL, ret, hh) R mc ms Q k n G I sz pc lv (.int i :: .ref a :: st) := by
  subst hp
  intro p e s m args below meth c C0 H locs ls hW hS hL
  obtain ⟨hx0, hb, hr, hml, hown, hts, hlk, hnm, het, hU, hb0, hst⟩ := id C0
  have hq := z_idx hi hj hN
  refine va_aldq (D := E.1) hx0 hb hU.1 (z_P1 hW hx rfl) 0 t rfl ht hq.1 hd ?_
  rw [hq.2]
  exact h p e s m args below meth c C0 H locs ls hW hS hL
theorem v_ast0 {t : Nat} {z : Int32} {g g' : Nat → Int32} {cA : ClassId} {H H1 : Heap} (e : H1[a]? = some ((arrV cA N1 (fun j => .int (g j))).setSlot j (.int z))) (hg : g' = upd g j z) : H1[a]? = some (vp_cell cA (N1, .inl g')) := by
  rw [e, vp_cell_i, arrV_store, hg]
  congr 2
  funext q
  by_cases hq : q = j
  · subst hq
    simp [updV, upd]
  · simp [updV, upd, hq]
theorem v_iast (hd : decode cc pc = .ok (.iastore, 1)) (j : Nat) (hi : i = nI j) (hx : (a, sI E 0 N1) ∈ G) (hj : j < N1) (hN : N1 < 2 ^ 31) (hp : pc + 1 = pc')
    (h : z_V E l (y, cc, nL, ret, hh) R mc ms Q k n G (z_up I a j x) sz pc' lv st) : z_V E l (y, cc, nL, ret, hh) R mc ms Q k n G I sz pc lv (.int x :: .int i :: .ref a :: st) := by
  subst hp
  intro p e s m args below meth c C0 H locs ls hW hS hL
  obtain ⟨hx0, hb, hr, hml, hown, hts, hlk, hnm, het, hU, hb0, hst⟩ := id C0
  have hq := z_idx hi hj hN
  have hP := z_P1 hW hx rfl
  refine W.iast hx0 hb (hP 0 _ rfl) ((hU.1.2 0 _ rfl).1 N1 (fun j => .int (I a j))) (fun q => by cases q) (by show ¬ (i < 0 ∨ (arrV _ _ _).slots.size ≤ _); rw [arrV_size]; exact hq.1) rfl rfl hd fun H1 e1 z oq => ?_
  rw [hq.2] at e1 ⊢
  exact h p e s m args below meth c C0 H1 _ ls (hW.put hx (v_ast0 (t := 0) (H := H) e1 (z_up_at I a j x)) (fun q h => z_up_ne I a j x h) z oq) (hS.put z oq (hW.2.2.1 _ hx).2) hL
theorem v_zast (hd : decode cc pc = .ok (.bastore, 1)) (j : Nat) (hi : i = nI j) (hx : (a, sI E 1 N1) ∈ G) (hj : j < N1) (hN : N1 < 2 ^ 31) (hv : narrow .boolean (.int x) = .int x) (hp : pc + 1 = pc')
    (h : z_V E l (y, cc, nL, ret, hh) R mc ms Q k n G (z_up I a j x) sz pc' lv st) : z_V E l (y, cc, nL, ret, hh) R mc ms Q k n G I sz pc lv (.int x :: .int i :: .ref a :: st) := by
  subst hp
  intro p e s m args below meth c C0 H locs ls hW hS hL
  obtain ⟨hx0, hb, hr, hml, hown, hts, hlk, hnm, het, hU, hb0, hst⟩ := id C0
  have hq := z_idx hi hj hN
  have hP := z_P1 hW hx rfl
  refine W.zast hx0 hb (hP 0 _ rfl) ((hU.1.2 1 _ rfl).1 N1 (fun j => .int (I a j))) (fun q => by cases q) (by show ¬ (i < 0 ∨ (arrV _ _ _).slots.size ≤ _); rw [arrV_size]; exact hq.1) rfl rfl hd fun H1 e1 z oq => ?_
  rw [hv] at e1
  rw [hq.2] at e1 ⊢
  exact h p e s m args below meth c C0 H1 _ ls (hW.put hx (v_ast0 (t := 0) (H := H) e1 (z_up_at I a j x)) (fun q h => z_up_ne I a j x h) z oq) (hS.put z oq (hW.2.2.1 _ hx).2) hL
theorem v_cast (hd : decode cc pc = .ok (.castore, 1)) (j : Nat) (hi : i = nI j) (hx : (a, sI E 2 N1) ∈ G) (hj : j < N1) (hN : N1 < 2 ^ 31) (hv : narrow .char (.int x) = .int x) (hp : pc + 1 = pc')
    (h : z_V E l (y, cc, nL, ret, hh) R mc ms Q k n G (z_up I a j x) sz pc' lv st) : z_V E l (y, cc, nL, ret, hh) R mc ms Q k n G I sz pc lv (.int x :: .int i :: .ref a :: st) := by
  subst hp
  intro p e s m args below meth c C0 H locs ls hW hS hL
  obtain ⟨hx0, hb, hr, hml, hown, hts, hlk, hnm, het, hU, hb0, hst⟩ := id C0
  have hq := z_idx hi hj hN
  have hP := z_P1 hW hx rfl
  refine W.cast hx0 hb (hP 0 _ rfl) ((hU.1.2 2 _ rfl).1 N1 (fun j => .int (I a j))) (fun q => by cases q) (by show ¬ (i < 0 ∨ (arrV _ _ _).slots.size ≤ _); rw [arrV_size]; exact hq.1) rfl rfl hd fun H1 e1 z oq => ?_
  rw [hv] at e1
  rw [hq.2] at e1 ⊢
  exact h p e s m args below meth c C0 H1 _ ls (hW.put hx (v_ast0 (t := 0) (H := H) e1 (z_up_at I a j x)) (fun q h => z_up_ne I a j x h) z oq) (hS.put z oq (hW.2.2.1 _ hx).2) hL
end ZHEAP
