/-! THE LAW: rows for constants and conditions, contracts over one object; its methods try.. and call (written by wip/p29/gen_law.py) -/
section LROWS
variable {E : zE} {l : Launch} {y : MethodName} {cc : ByteArray} {nL : Nat} {ret : Option FieldType} {hh : List (Nat × Nat × Nat × Nat)} {R : Room} {mc ms : Nat} {Q : zQ} {k n : Nat} {G : zG} {I : zI} {sz pc : Nat} {lv : List (Option Value)} {st : List Value}
theorem v_ldc {i : Nat} {x : Int32} {pc' : Nat} (hd : decode cc pc = .ok (.ldc i, 2)) (hx : Cond.constant y.cls i x ∈ gw) (hp : pc + 2 = pc') (h : z_V E l (y, cc, nL, ret, hh) R mc ms Q k n G I sz pc' lv (.int x :: st)) : z_V E l (y, cc, nL, ret, hh) R mc ms Q k n G I sz pc lv (st) := by
  subst hp
  exact fun p e s m args below meth c C H locs ls hW hS hL => lv_ldc C.1 C.2.1 C.2.2.2.2.1 (C.2.2.2.2.2.1 _ hx) hd  (h p e s m args below meth c C H locs ls hW hS hL)
/-- roads that meet again -/
theorem v_join (pc2 : Nat) (hJ : z_V E l (y, cc, nL, ret, hh) R mc ms Q k n G I sz pc2 lv st) (h : z_V E l (y, cc, nL, ret, hh) R mc ms Q k n G I sz pc2 lv st → z_V E l (y, cc, nL, ret, hh) R mc ms Q k n G I sz pc lv st) : z_V E l (y, cc, nL, ret, hh) R mc ms Q k n G I sz pc lv st := h hJ
/-- .. with a number on top -/
theorem v_joinv (pc2 : Nat) (x : Int32) (hJ : z_V E l (y, cc, nL, ret, hh) R mc ms Q k n G I sz pc2 lv (.int x :: st)) (h : z_V E l (y, cc, nL, ret, hh) R mc ms Q k n G I sz pc2 lv (.int x :: st) → z_V E l (y, cc, nL, ret, hh) R mc ms Q k n G I sz pc lv st) : z_V E l (y, cc, nL, ret, hh) R mc ms Q k n G I sz pc lv st := h hJ
theorem v_joinv1 (pc2 : Nat) (x : Int32) {z : Value} (hJ : z_V E l (y, cc, nL, ret, hh) R mc ms Q k n G I sz pc2 lv (.int x :: st)) (h : z_V E l (y, cc, nL, ret, hh) R mc ms Q k n G I sz pc2 lv (.int x :: st) → z_V E l (y, cc, nL, ret, hh) R mc ms Q k n G I sz pc lv (z :: st)) : z_V E l (y, cc, nL, ret, hh) R mc ms Q k n G I sz pc lv (z :: st) := h hJ
theorem v_top {x x' : Int32} (h : z_V E l (y, cc, nL, ret, hh) R mc ms Q k n G I sz pc lv (.int x :: st)) (e : x = x') : z_V E l (y, cc, nL, ret, hh) R mc ms Q k n G I sz pc lv (.int x' :: st) := e ▸ h
/-- a condition's value -/
theorem v_dcne {a b : Int} {xa xb x y0 : Int32} {pc' : Nat} (hd : decode cc pc = .ok (.if_icmp .ne 7, 3)) (h1 : decode cc (pc + 3) = .ok (.iconst a, 1)) (h2 : decode cc (pc + 4) = .ok (.goto 4, 3)) (h3 : decode cc (pc + 7) = .ok (.iconst b, 1)) (ha : Int32.ofInt a = xa) (hb : Int32.ofInt b = xb) (hp : pc + 8 = pc') (h : z_V E l (y, cc, nL, ret, hh) R mc ms Q k n G I sz pc' lv (.int (if x = y0 then xa else xb) :: st)) : z_V E l (y, cc, nL, ret, hh) R mc ms Q k n G I sz pc lv (.int y0 :: .int x :: st) := by
  subst hp
  refine v_icmp_ne (tgt := pc + 7) hd (by omega) rfl (fun q => ?_) (fun q => ?_)
  · rw [if_neg q] at h
    exact v_iconst h3 hb rfl h
  · rw [if_pos q] at h
    exact v_iconst h1 ha rfl (v_goto (tgt := pc + 8) h2 (by omega) h)
theorem v_dclt {a b : Int} {xa xb x y0 : Int32} {pc' : Nat} (hd : decode cc pc = .ok (.if_icmp .lt 7, 3)) (h1 : decode cc (pc + 3) = .ok (.iconst a, 1)) (h2 : decode cc (pc + 4) = .ok (.goto 4, 3)) (h3 : decode cc (pc + 7) = .ok (.iconst b, 1)) (ha : Int32.ofInt a = xa) (hb : Int32.ofInt b = xb) (hp : pc + 8 = pc') (h : z_V E l (y, cc, nL, ret, hh) R mc ms Q k n G I sz pc' lv (.int (if x < y0 then xb else xa) :: st)) : z_V E l (y, cc, nL, ret, hh) R mc ms Q k n G I sz pc lv (.int y0 :: .int x :: st) := by
  subst hp
  refine v_icmp_lt (tgt := pc + 7) hd (by omega) rfl (fun q => ?_) (fun q => ?_)
  · rw [if_pos q] at h
    exact v_iconst h3 hb rfl h
  · rw [if_neg q] at h
    exact v_iconst h1 ha rfl (v_goto (tgt := pc + 8) h2 (by omega) h)
theorem v_dcgt {a b : Int} {xa xb x y0 : Int32} {pc' : Nat} (hd : decode cc pc = .ok (.if_icmp .gt 7, 3)) (h1 : decode cc (pc + 3) = .ok (.iconst a, 1)) (h2 : decode cc (pc + 4) = .ok (.goto 4, 3)) (h3 : decode cc (pc + 7) = .ok (.iconst b, 1)) (ha : Int32.ofInt a = xa) (hb : Int32.ofInt b = xb) (hp : pc + 8 = pc') (h : z_V E l (y, cc, nL, ret, hh) R mc ms Q k n G I sz pc' lv (.int (if y0 < x then xb else xa) :: st)) : z_V E l (y, cc, nL, ret, hh) R mc ms Q k n G I sz pc lv (.int y0 :: .int x :: st) := by
  subst hp
  refine v_icmp_gt (tgt := pc + 7) hd (by omega) rfl (fun q => ?_) (fun q => ?_)
  · rw [if_pos q] at h
    exact v_iconst h3 hb rfl h
  · rw [if_neg q] at h
    exact v_iconst h1 ha rfl (v_goto (tgt := pc + 8) h2 (by omega) h)
theorem v_dceq {a b : Int} {xa xb x y0 : Int32} {pc' : Nat} (hd : decode cc pc = .ok (.if_icmp .eq 7, 3)) (h1 : decode cc (pc + 3) = .ok (.iconst a, 1)) (h2 : decode cc (pc + 4) = .ok (.goto 4, 3)) (h3 : decode cc (pc + 7) = .ok (.iconst b, 1)) (ha : Int32.ofInt a = xa) (hb : Int32.ofInt b = xb) (hp : pc + 8 = pc') (h : z_V E l (y, cc, nL, ret, hh) R mc ms Q k n G I sz pc' lv (.int (if x = y0 then xb else xa) :: st)) : z_V E l (y, cc, nL, ret, hh) R mc ms Q k n G I sz pc lv (.int y0 :: .int x :: st) := by
  subst hp
  refine v_icmp_eq (tgt := pc + 7) hd (by omega) rfl (fun q => ?_) (fun q => ?_)
  · rw [if_pos q] at h
    exact v_iconst h3 hb rfl h
  · rw [if_neg q] at h
    exact v_iconst h1 ha rfl (v_goto (tgt := pc + 8) h2 (by omega) h)
theorem v_dne {a b : Int} {xa xb x : Int32} {pc' : Nat} (hd : decode cc pc = .ok (.ifCond .ne 7, 3)) (h1 : decode cc (pc + 3) = .ok (.iconst a, 1)) (h2 : decode cc (pc + 4) = .ok (.goto 4, 3)) (h3 : decode cc (pc + 7) = .ok (.iconst b, 1)) (ha : Int32.ofInt a = xa) (hb : Int32.ofInt b = xb) (hp : pc + 8 = pc') (h : z_V E l (y, cc, nL, ret, hh) R mc ms Q k n G I sz pc' lv (.int (if x = 0 then xa else xb) :: st)) : z_V E l (y, cc, nL, ret, hh) R mc ms Q k n G I sz pc lv (.int x :: st) := by
  subst hp
  refine v_if_ne (tgt := pc + 7) hd (by omega) rfl (fun q => ?_) (fun q => ?_)
  · rw [if_neg q] at h
    exact v_iconst h3 hb rfl h
  · rw [if_pos q] at h
    exact v_iconst h1 ha rfl (v_goto (tgt := pc + 8) h2 (by omega) h)
end LROWS
/-- an answer, or the number of what is thrown -/
def exv (xs : List Int32) : Nat → Int32 → Int32
  | 0, v => v
  | k + 1, _ => xs.getD k 0
def exs : Nat → zS → zS → zS
  | 0, S', _ => S'
  | _ + 1, _, S => S
theorem exs_same : ∀ (k : Nat) (S : zS), exs k S S = S
  | 0, _ => rfl
  | _ + 1, _ => rfl
def z_wP (c : Nat) (v : Int32) (S' : zS) (G : zG) (I : zI) (sz : Nat) (v' : Option Value) (G' : zG) (I' : zI) (sz' : Nat) : Prop := v' = some (.int v) ∧ G' = G ∧ AbsK I' c S' ∧ FrK I I' c
/-- over one object: it answers v, and leaves S' -/
def z_K1 (E : zE) (l : Launch) (M : zM) (d mc ms : Nat) (av : List Value) (G : zG) (I : zI) (sz c : Nat) (v : Int32) (S' : zS) : Prop := z_Ct E l M d mc ms av G I sz (z_wP c v S' G I sz)
/-- over two: o at c, q at c + 187 -/
def z_w2 (c : Nat) (v : Int32) (S' Q' : zS) (G : zG) (sz : Nat) (v' : Option Value) (G' : zG) (I' : zI) (sz' : Nat) : Prop := v' = some (.int v) ∧ G' = G ∧ AbsK I' c S' ∧ AbsK I' (c + 187) Q'
def z_K2 (E : zE) (l : Launch) (M : zM) (d mc ms : Nat) (av : List Value) (G : zG) (I : zI) (sz c : Nat) (v : Int32) (S' Q' : zS) : Prop := z_Ct E l M d mc ms av G I sz (z_w2 c v S' Q' G sz)
theorem z_K1.to {E : zE} {l : Launch} {M : zM} {d mc ms : Nat} {av : List Value} {G : zG} {I : zI} {sz c : Nat} {v v2 : Int32} {S S2 : zS} (h : z_K1 E l M d mc ms av G I sz c v S) (hv : v = v2) (hS : S = S2) : z_K1 E l M d mc ms av G I sz c v2 S2 := by
  subst hv; subst hS; exact h
theorem z_wC.to {E : zE} {l : Launch} {M : zM} {d mc ms : Nat} {av : List Value} {G : zG} {I : zI} {sz c : Nat} {v v2 : Int32} {S S2 : zS} (h : z_Cw E l M d mc ms av G I sz (z_wP c v S G I sz)) (hv : v = v2) (hS : S = S2) : z_Cw E l M d mc ms av G I sz (z_wP c v2 S2 G I sz) := by
  subst hv; subst hS; exact h
theorem ex1 {a X : String} {k : Nat} (h : ex [a] k = some X) : k = 1 ∧ X = a := by
  match k, h with
  | 1, h => exact ⟨rfl, (Option.some.inj h).symm⟩
theorem ex2 {a b X : String} {k : Nat} (h : ex [a, b] k = some X) : (k = 1 ∧ X = a) ∨ (k = 2 ∧ X = b) := by
  match k, h with
  | 1, h => exact Or.inl ⟨rfl, (Option.some.inj h).symm⟩
  | 2, h => exact Or.inr ⟨rfl, (Option.some.inj h).symm⟩
theorem ex0_1 {a : String} {k : Nat} (h : ex [a] k = none) (hk : k ≤ 1) : k = 0 := by
  match k, h, hk with
  | 0, _, _ => rfl
  | 1, h, _ => cases h
theorem ex0_2 {a b : String} {k : Nat} (h : ex [a, b] k = none) (hk : k ≤ 2) : k = 0 := by
  match k, h, hk with
  | 0, _, _ => rfl
  | 1, h, _ => cases h
  | 2, h, _ => cases h
theorem AbsK.out {I I' : zI} {c : Nat} {S : zS} (h : AbsK I c S) (e : ∀ q, c ≤ q → q < c + 187 → I' q = I q) : AbsK I' c S := by
  obtain ⟨h1, h2, h3, h4, h5, h6⟩ := h
  exact ⟨h1.agree (fun q a b => e q (by omega) (by omega)), h2.agree h3.1.1 (fun q a b => e q (by omega) (by omega)), h3, h4.agree (fun q a b => e q (by omega) (by omega)), fun j hj => by rw [e _ (by omega) (by omega)]; exact h5 j hj, fun j hj hf => ⟨(h6 j hj hf).1.agree (h6 j hj hf).2.1.1 (fun q a b => e q (by omega) (by omega)), (h6 j hj hf).2⟩⟩
section LCALLS
variable {E : zE} {l : Launch} {y : MethodName} {cc : ByteArray} {nL : Nat} {ret : Option FieldType} {hh : List (Nat × Nat × Nat × Nat)} {d mc ms : Nat} {Q : zQ} {k n : Nat} {G : zG} {I I0 : zI} {sz pc pc' : Nat} {lv : List (Option Value)} {st : List Value}
variable {y1 : MethodName} {cc1 : ByteArray} {nL1 : Nat} {ret1 : Option FieldType} {hh1 : List (Nat × Nat × Nat × Nat)} {d1 mc1 ms1 na idx c : Nat} {As stk : List Value} {v : Int32} {S' So Sq : zS}
/-- a call that speaks of the one object -/
theorem v_k1 (hC : z_K1 E l (y1, cc1, nL1, ret1, []) d1 mc1 ms1 As G I sz c v S') (hF : FrK I0 I c) (hd : decode cc pc = .ok (.invokestatic idx, 3)) (hl : Cond.methodLink y.cls idx y1 ∈ gw) (hm : z_mw y1 cc1 nL1 ret1 na) (hi : Cond.static y1 ∈ gw) (hst : stk = As.reverse ++ st) (hna : As.length = na) (hd1 : d1 + 1 ≤ d) (hcap : k + mc1 ≤ mc ∧ n + ms1 ≤ ms) (hcat : (st.map fun v => v.category).sum ≤ 8) (hp : pc + 3 = pc')
    (h : ∀ I' sz', AbsK I' c S' → FrK I0 I' c → z_V E l (y, cc, nL, ret, hh) (z_rm d mc ms) mc ms Q (k + mc1) (n + ms1) G I' sz' pc' lv (.int v :: st)) : z_V E l (y, cc, nL, ret, hh) (z_rm d mc ms) mc ms Q k n G I sz pc lv stk :=
  v_callS hC hd hl hm hi hst hna hd1 hcap hcat hp (fun v' G' I' sz' q => by obtain ⟨rfl, rfl, hA, hF'⟩ := q; exact h I' sz' hA (hF.tr hF'))
/-- .. of o; q is as before -/
theorem v_k2o (hC : z_K1 E l (y1, cc1, nL1, ret1, []) d1 mc1 ms1 As G I sz c v S') (hB : AbsK I (c + 187) Sq) (hd : decode cc pc = .ok (.invokestatic idx, 3)) (hl : Cond.methodLink y.cls idx y1 ∈ gw) (hm : z_mw y1 cc1 nL1 ret1 na) (hi : Cond.static y1 ∈ gw) (hst : stk = As.reverse ++ st) (hna : As.length = na) (hd1 : d1 + 1 ≤ d) (hcap : k + mc1 ≤ mc ∧ n + ms1 ≤ ms) (hcat : (st.map fun v => v.category).sum ≤ 8) (hp : pc + 3 = pc')
    (h : ∀ I' sz', AbsK I' c S' → AbsK I' (c + 187) Sq → z_V E l (y, cc, nL, ret, hh) (z_rm d mc ms) mc ms Q (k + mc1) (n + ms1) G I' sz' pc' lv (.int v :: st)) : z_V E l (y, cc, nL, ret, hh) (z_rm d mc ms) mc ms Q k n G I sz pc lv stk :=
  v_callS hC hd hl hm hi hst hna hd1 hcap hcat hp (fun v' G' I' sz' q => by obtain ⟨rfl, rfl, hA, hF'⟩ := q; exact h I' sz' hA (hB.out (fun q q1 q2 => hF' q (by omega))))
theorem v_k2q (hC : z_K1 E l (y1, cc1, nL1, ret1, []) d1 mc1 ms1 As G I sz (c + 187) v S') (hA : AbsK I c So) (hd : decode cc pc = .ok (.invokestatic idx, 3)) (hl : Cond.methodLink y.cls idx y1 ∈ gw) (hm : z_mw y1 cc1 nL1 ret1 na) (hi : Cond.static y1 ∈ gw) (hst : stk = As.reverse ++ st) (hna : As.length = na) (hd1 : d1 + 1 ≤ d) (hcap : k + mc1 ≤ mc ∧ n + ms1 ≤ ms) (hcat : (st.map fun v => v.category).sum ≤ 8) (hp : pc + 3 = pc')
    (h : ∀ I' sz', AbsK I' c So → AbsK I' (c + 187) S' → z_V E l (y, cc, nL, ret, hh) (z_rm d mc ms) mc ms Q (k + mc1) (n + ms1) G I' sz' pc' lv (.int v :: st)) : z_V E l (y, cc, nL, ret, hh) (z_rm d mc ms) mc ms Q k n G I sz pc lv stk :=
  v_callS hC hd hl hm hi hst hna hd1 hcap hcat hp (fun v' G' I' sz' q => by obtain ⟨rfl, rfl, hA', hF'⟩ := q; exact h I' sz' (hA.out (fun q q1 q2 => hF' q (by omega))) hA')
/-- of both -/
theorem v_k2 (hC : z_K2 E l (y1, cc1, nL1, ret1, []) d1 mc1 ms1 As G I sz c v S' Sq) (hd : decode cc pc = .ok (.invokestatic idx, 3)) (hl : Cond.methodLink y.cls idx y1 ∈ gw) (hm : z_mw y1 cc1 nL1 ret1 na) (hi : Cond.static y1 ∈ gw) (hst : stk = As.reverse ++ st) (hna : As.length = na) (hd1 : d1 + 1 ≤ d) (hcap : k + mc1 ≤ mc ∧ n + ms1 ≤ ms) (hcat : (st.map fun v => v.category).sum ≤ 8) (hp : pc + 3 = pc')
    (h : ∀ I' sz', AbsK I' c S' → AbsK I' (c + 187) Sq → z_V E l (y, cc, nL, ret, hh) (z_rm d mc ms) mc ms Q (k + mc1) (n + ms1) G I' sz' pc' lv (.int v :: st)) : z_V E l (y, cc, nL, ret, hh) (z_rm d mc ms) mc ms Q k n G I sz pc lv stk :=
  v_callS hC hd hl hm hi hst hna hd1 hcap hcat hp (fun v' G' I' sz' q => by obtain ⟨rfl, rfl, hA', hB'⟩ := q; exact h I' sz' hA' hB')
/-- a method with handlers (doScript, doSimulate) of one of two -/
theorem v_w1 (hC : z_Cw E l (y1, cc1, nL1, ret1, hh1) d1 mc1 ms1 As G I sz (z_wP c v S' G I sz)) (hF : FrK I0 I c) (hd : decode cc pc = .ok (.invokestatic idx, 3)) (hl : Cond.methodLink y.cls idx y1 ∈ gw) (hini : Cond.initialized y1.cls ∈ gw) (hco : Cond.codeWith y1 cc1 nL1 ret1 hh1 ∈ gw) (hm : (y1.cls ≠ "java/lang/invoke/MethodHandle" ∧ y1.cls ≠ "java/lang/invoke/VarHandle" ∧ (parseMethodDescriptor y1.desc).map (fun d => d.parameters.length) = some na) ∧ nL1 ≤ 19) (hi : Cond.static y1 ∈ gw) (hst : stk = As.reverse ++ st) (hna : As.length = na) (hd1 : d1 + 1 ≤ d) (hcap : k + mc1 ≤ mc ∧ n + ms1 ≤ ms) (hcat : (st.map fun v => v.category).sum ≤ 8) (hp : pc + 3 = pc')
    (h : ∀ I' sz', AbsK I' c S' → FrK I0 I' c → z_V E l (y, cc, nL, ret, hh) (z_rm d mc ms) mc ms Q (k + mc1) (n + ms1) G I' sz' pc' lv (.int v :: st)) : z_V E l (y, cc, nL, ret, hh) (z_rm d mc ms) mc ms Q k n G I sz pc lv stk :=
  v_callSW hC hd hl hini hco hm hi hst hna hd1 hcap hcat hp (fun v' G' I' sz' q => by obtain ⟨rfl, rfl, hA, hF'⟩ := q; exact h I' sz' hA (hF.tr hF'))
theorem v_w2o (hC : z_Cw E l (y1, cc1, nL1, ret1, hh1) d1 mc1 ms1 As G I sz (z_wP c v S' G I sz)) (hB : AbsK I (c + 187) Sq) (hd : decode cc pc = .ok (.invokestatic idx, 3)) (hl : Cond.methodLink y.cls idx y1 ∈ gw) (hini : Cond.initialized y1.cls ∈ gw) (hco : Cond.codeWith y1 cc1 nL1 ret1 hh1 ∈ gw) (hm : (y1.cls ≠ "java/lang/invoke/MethodHandle" ∧ y1.cls ≠ "java/lang/invoke/VarHandle" ∧ (parseMethodDescriptor y1.desc).map (fun d => d.parameters.length) = some na) ∧ nL1 ≤ 19) (hi : Cond.static y1 ∈ gw) (hst : stk = As.reverse ++ st) (hna : As.length = na) (hd1 : d1 + 1 ≤ d) (hcap : k + mc1 ≤ mc ∧ n + ms1 ≤ ms) (hcat : (st.map fun v => v.category).sum ≤ 8) (hp : pc + 3 = pc')
    (h : ∀ I' sz', AbsK I' c S' → AbsK I' (c + 187) Sq → z_V E l (y, cc, nL, ret, hh) (z_rm d mc ms) mc ms Q (k + mc1) (n + ms1) G I' sz' pc' lv (.int v :: st)) : z_V E l (y, cc, nL, ret, hh) (z_rm d mc ms) mc ms Q k n G I sz pc lv stk :=
  v_callSW hC hd hl hini hco hm hi hst hna hd1 hcap hcat hp (fun v' G' I' sz' q => by obtain ⟨rfl, rfl, hA, hF'⟩ := q; exact h I' sz' hA (hB.out (fun q q1 q2 => hF' q (by omega))))
theorem v_w2q (hC : z_Cw E l (y1, cc1, nL1, ret1, hh1) d1 mc1 ms1 As G I sz (z_wP (c + 187) v S' G I sz)) (hA : AbsK I c So) (hd : decode cc pc = .ok (.invokestatic idx, 3)) (hl : Cond.methodLink y.cls idx y1 ∈ gw) (hini : Cond.initialized y1.cls ∈ gw) (hco : Cond.codeWith y1 cc1 nL1 ret1 hh1 ∈ gw) (hm : (y1.cls ≠ "java/lang/invoke/MethodHandle" ∧ y1.cls ≠ "java/lang/invoke/VarHandle" ∧ (parseMethodDescriptor y1.desc).map (fun d => d.parameters.length) = some na) ∧ nL1 ≤ 19) (hi : Cond.static y1 ∈ gw) (hst : stk = As.reverse ++ st) (hna : As.length = na) (hd1 : d1 + 1 ≤ d) (hcap : k + mc1 ≤ mc ∧ n + ms1 ≤ ms) (hcat : (st.map fun v => v.category).sum ≤ 8) (hp : pc + 3 = pc')
    (h : ∀ I' sz', AbsK I' c So → AbsK I' (c + 187) S' → z_V E l (y, cc, nL, ret, hh) (z_rm d mc ms) mc ms Q (k + mc1) (n + ms1) G I' sz' pc' lv (.int v :: st)) : z_V E l (y, cc, nL, ret, hh) (z_rm d mc ms) mc ms Q k n G I sz pc lv stk :=
  v_callSW hC hd hl hini hco hm hi hst hna hd1 hcap hcat hp (fun v' G' I' sz' q => by obtain ⟨rfl, rfl, hA', hF'⟩ := q; exact h I' sz' (hA.out (fun q q1 q2 => hF' q (by omega))) hA')
/-- idleIn, told of one, or of one of two -/
theorem v_i1 (hl0 : l.stackTraces = false) (hy : y.cls = RL) (hK : ShK E G c) (hA : AbsK I c S') (hF : FrK I0 I c) (hd : decode cc pc = .ok (.invokevirtual 178, 3)) (hst : stk = .ref c :: st) (hd1 : 9 ≤ d) (hcap : k + 1 ≤ mc ∧ n + 6 ≤ ms) (hcat : (st.map fun v => v.category).sum ≤ 8) (hp : pc + 3 = pc')
    (h : ∀ I' sz', AbsK I' c S' → FrK I0 I' c → z_V E l (y, cc, nL, ret, hh) (z_rm d mc ms) mc ms Q (k + 1) (n + 6) G I' sz' pc' lv (.int (p_idle S'.1) :: st)) : z_V E l (y, cc, nL, ret, hh) (z_rm d mc ms) mc ms Q k n G I sz pc lv stk := by
  refine v_callVX (na := 0) (As := []) (k_idleIn hl0 hK hA) hd (by rw [hy]; exact lk_L_178) mwX4_idleIn miX4_idleIn hK.1 rfl rfl hst rfl hd1 hcap hcat hp ?_ ?_
  · rintro v' G' I' sz' ⟨rfl, hs, he, y9, rfl, rfl, hA', hF'⟩
    exact h I' sz' hA' (hF.tr hF')
  · rintro X G' I' sz' ⟨rfl, hs, he, hA', hF'⟩
    cases he
theorem v_i2o (hl0 : l.stackTraces = false) (hy : y.cls = RL) (hK : ShK E G c) (hA : AbsK I c S') (hB : AbsK I (c + 187) Sq) (hd : decode cc pc = .ok (.invokevirtual 178, 3)) (hst : stk = .ref c :: st) (hd1 : 9 ≤ d) (hcap : k + 1 ≤ mc ∧ n + 6 ≤ ms) (hcat : (st.map fun v => v.category).sum ≤ 8) (hp : pc + 3 = pc')
    (h : ∀ I' sz', AbsK I' c S' → AbsK I' (c + 187) Sq → z_V E l (y, cc, nL, ret, hh) (z_rm d mc ms) mc ms Q (k + 1) (n + 6) G I' sz' pc' lv (.int (p_idle S'.1) :: st)) : z_V E l (y, cc, nL, ret, hh) (z_rm d mc ms) mc ms Q k n G I sz pc lv stk :=
  v_i1 (I0 := I) hl0 hy hK hA FrK.rf hd hst hd1 hcap hcat hp (fun I' sz' hA' hF' => h I' sz' hA' (hB.out (fun q q1 q2 => hF' q (by omega))))
theorem v_i2q (hl0 : l.stackTraces = false) (hy : y.cls = RL) (hK : ShK E G (c + 187)) (hB : AbsK I (c + 187) S') (hA : AbsK I c So) (hd : decode cc pc = .ok (.invokevirtual 178, 3)) (hst : stk = .ref (c + 187) :: st) (hd1 : 9 ≤ d) (hcap : k + 1 ≤ mc ∧ n + 6 ≤ ms) (hcat : (st.map fun v => v.category).sum ≤ 8) (hp : pc + 3 = pc')
    (h : ∀ I' sz', AbsK I' c So → AbsK I' (c + 187) S' → z_V E l (y, cc, nL, ret, hh) (z_rm d mc ms) mc ms Q (k + 1) (n + 6) G I' sz' pc' lv (.int (p_idle S'.1) :: st)) : z_V E l (y, cc, nL, ret, hh) (z_rm d mc ms) mc ms Q k n G I sz pc lv stk :=
  v_i1 (I0 := I) hl0 hy hK hB FrK.rf hd hst hd1 hcap hcat hp (fun I' sz' hA' hF' => h I' sz' (hA.out (fun q q1 q2 => hF' q (by omega))) hA')
end LCALLS

theorem kb_15 : (Int8.ofInt 15).toInt32 = 15 := by decide
theorem kb_17 : (Int8.ofInt 17).toInt32 = 17 := by decide
theorem kb_18 : (Int8.ofInt 18).toInt32 = 18 := by decide
theorem kb_19 : (Int8.ofInt 19).toInt32 = 19 := by decide
theorem kb_21 : (Int8.ofInt 21).toInt32 = 21 := by decide
theorem kb_50 : (Int8.ofInt 50).toInt32 = 50 := by decide
theorem kb_61 : (Int8.ofInt 61).toInt32 = 61 := by decide
theorem kb_80 : (Int8.ofInt 80).toInt32 = 80 := by decide
theorem kb_96 : (Int8.ofInt 96).toInt32 = 96 := by decide
theorem kb_99 : (Int8.ofInt 99).toInt32 = 99 := by decide
theorem ks_201 : (Int16.ofInt 201).toInt32 = 201 := by decide
theorem ks_256 : (Int16.ofInt 256).toInt32 = 256 := by decide
theorem ks_5000 : (Int16.ofInt 5000).toInt32 = 5000 := by decide
theorem ks_11287 : (Int16.ofInt 11287).toInt32 = 11287 := by decide
section LAW
variable {E : zE} {l : Launch} {G : zG} {I : zI} {sz c : Nat} {S : zS}
set_option maxRecDepth 20000 in
set_option maxHeartbeats 4000000 in
theorem w_tryAppend (hl : l.stackTraces = false) (hK : ShK E G c) (hA : AbsK I c S) (a : Int32) : z_Cw E l mL_tryAppend 9 1 6 [.ref c, .int a] G I sz (z_wP c (exv [-9999002, -9999003] (e_append S a) (nI (S.2.2.1.2 + 1))) (exs (e_append S a) (s_append S a) S) G I sz) := by
  refine z_Cw.of hl pn_L [some (.ref c), some (.int a), none] rfl (Nat.le_of_ble_eq_true rfl) ?_
  refine v_aload_n (pc' := 1) dL_tryAppend_0 rfl rfl ?_
  refine v_iload_n (pc' := 2) dL_tryAppend_1 rfl rfl ?_
  refine v_callVX (pc' := 5) (k_append hl hK hA a) dL_tryAppend_2 lk_L_20 mwX4_append miX4_append hK.1 rfl rfl rfl rfl (by decide) (by decide) (Nat.le_of_ble_eq_true rfl) rfl ?_ ?_
  · rintro v' G' I' sz' ⟨rfl, hs, he, y, rfl, rfl, hA', hF'⟩
    have hk : e_append S a = 0 := ex0_2 he (by unfold e_append; split <;> (try split) <;> omega)
    exact v_iret dL_tryAppend_5 rfl (by decide) (by decide) ⟨by rw [hk]; rfl, rfl, by rw [hk]; exact hA', hF'⟩
  · rintro X G' I' sz' ⟨rfl, hs, he, hA', hF'⟩
    rcases ex2 he with ⟨hk, rfl⟩ | ⟨hk, rfl⟩
    · refine v_catch [] ⟨0, 5, 6, 13⟩ [⟨0, 5, 10, 24⟩] rfl (fun z hz => by cases hz) rfl (by decide) cl_L_13 cst_IAE (fun q => ?_)
      refine v_astore_n2 (pc' := 7) dL_tryAppend_6 (by decide) rfl rfl ?_
      refine v_ldc (pc' := 9) dL_tryAppend_7 ck_L_15 rfl ?_
      exact v_iret dL_tryAppend_9 rfl (by decide) (by decide) ⟨by rw [hk]; rfl, rfl, by rw [hk]; exact hA', hF'⟩
    · refine v_catch [⟨0, 5, 6, 13⟩] ⟨0, 5, 10, 24⟩ [] rfl (fun z hz => by
        rcases List.mem_singleton.mp hz with rfl
        exact Or.inr ⟨by decide, nIAE, cl_L_13, by decide⟩) rfl (by decide) cl_L_24 cst_ISE (fun q => ?_)
      refine v_astore_n2 (pc' := 11) dL_tryAppend_10 (by decide) rfl rfl ?_
      refine v_ldc (pc' := 13) dL_tryAppend_11 ck_L_26 rfl ?_
      exact v_iret dL_tryAppend_13 rfl (by decide) (by decide) ⟨by rw [hk]; rfl, rfl, by rw [hk]; exact hA', hF'⟩
set_option maxRecDepth 20000 in
set_option maxHeartbeats 4000000 in
theorem w_tryAbout (hl : l.stackTraces = false) (hK : ShK E G c) (hA : AbsK I c S) (a : Int32) : z_Cw E l mL_tryAbout 9 1 6 [.ref c, .int a] G I sz (z_wP c (exv [-9999002] (e_about a) (v_about S.1 a.toNatClampNeg)) (exs (e_about a) (S) S) G I sz) := by
  refine z_Cw.of hl pn_L [some (.ref c), some (.int a), none] rfl (Nat.le_of_ble_eq_true rfl) ?_
  refine v_aload_n (pc' := 1) dL_tryAbout_0 rfl rfl ?_
  refine v_iload_n (pc' := 2) dL_tryAbout_1 rfl rfl ?_
  refine v_callVX (pc' := 5) (k_about hl hK hA a) dL_tryAbout_2 lk_L_31 mwX4_about miX4_about hK.1 rfl rfl rfl rfl (by decide) (by decide) (Nat.le_of_ble_eq_true rfl) rfl ?_ ?_
  · rintro v' G' I' sz' ⟨rfl, hs, he, y, rfl, rfl, hA', hF'⟩
    have hk : e_about a = 0 := ex0_1 he (by unfold e_about; split <;> (try split) <;> omega)
    exact v_iret dL_tryAbout_5 rfl (by decide) (by decide) ⟨by rw [hk]; rfl, rfl, by rw [hk]; exact hA', hF'⟩
  · rintro X G' I' sz' ⟨rfl, hs, he, hA', hF'⟩
    obtain ⟨hk, rfl⟩ := ex1 he
    · refine v_catch [] ⟨0, 5, 6, 13⟩ [] rfl (fun z hz => by cases hz) rfl (by decide) cl_L_13 cst_IAE (fun q => ?_)
      refine v_astore_n2 (pc' := 7) dL_tryAbout_6 (by decide) rfl rfl ?_
      refine v_ldc (pc' := 9) dL_tryAbout_7 ck_L_15 rfl ?_
      exact v_iret dL_tryAbout_9 rfl (by decide) (by decide) ⟨by rw [hk]; rfl, rfl, by rw [hk]; exact hA', hF'⟩
set_option maxRecDepth 20000 in
set_option maxHeartbeats 4000000 in
theorem w_tryTask (hl : l.stackTraces = false) (hK : ShK E G c) (hA : AbsK I c S) (a : Int32) (b : Int32) : z_Cw E l mL_tryTask 9 1 6 [.ref c, .int a, .int b] G I sz (z_wP c (exv [-9999001, -9999002] (e_task S.1 a b) (v_task S.1 a b)) (exs (e_task S.1 a b) (S) S) G I sz) := by
  refine z_Cw.of hl pn_L [some (.ref c), some (.int a), some (.int b), none] rfl (Nat.le_of_ble_eq_true rfl) ?_
  refine v_aload_n (pc' := 1) dL_tryTask_0 rfl rfl ?_
  refine v_iload_n (pc' := 2) dL_tryTask_1 rfl rfl ?_
  refine v_iload_n (pc' := 3) dL_tryTask_2 rfl rfl ?_
  refine v_callVX (pc' := 6) (k_task hl hK hA a b) dL_tryTask_3 lk_L_34 mwX4_task miX4_task hK.1 rfl rfl rfl rfl (by decide) (by decide) (Nat.le_of_ble_eq_true rfl) rfl ?_ ?_
  · rintro v' G' I' sz' ⟨rfl, hs, he, y, rfl, rfl, hA', hF'⟩
    have hk : e_task S.1 a b = 0 := ex0_2 he (by unfold e_task; split <;> (try split) <;> omega)
    exact v_iret dL_tryTask_6 rfl (by decide) (by decide) ⟨by rw [hk]; rfl, rfl, by rw [hk]; exact hA', hF'⟩
  · rintro X G' I' sz' ⟨rfl, hs, he, hA', hF'⟩
    rcases ex2 he with ⟨hk, rfl⟩ | ⟨hk, rfl⟩
    · refine v_catch [] ⟨0, 6, 7, 38⟩ [⟨0, 6, 11, 13⟩] rfl (fun z hz => by cases hz) rfl (by decide) cl_L_38 cst_IOOBE (fun q => ?_)
      refine v_astore_n3 (pc' := 8) dL_tryTask_7 (by decide) rfl rfl ?_
      refine v_ldc (pc' := 10) dL_tryTask_8 ck_L_40 rfl ?_
      exact v_iret dL_tryTask_10 rfl (by decide) (by decide) ⟨by rw [hk]; rfl, rfl, by rw [hk]; exact hA', hF'⟩
    · refine v_catch [⟨0, 6, 7, 38⟩] ⟨0, 6, 11, 13⟩ [] rfl (fun z hz => by
        rcases List.mem_singleton.mp hz with rfl
        exact Or.inr ⟨by decide, nIOO, cl_L_38, by decide⟩) rfl (by decide) cl_L_13 cst_IAE (fun q => ?_)
      refine v_astore_n3 (pc' := 12) dL_tryTask_11 (by decide) rfl rfl ?_
      refine v_ldc (pc' := 14) dL_tryTask_12 ck_L_15 rfl ?_
      exact v_iret dL_tryTask_14 rfl (by decide) (by decide) ⟨by rw [hk]; rfl, rfl, by rw [hk]; exact hA', hF'⟩
set_option maxRecDepth 20000 in
set_option maxHeartbeats 4000000 in
theorem w_tryStripe (hl : l.stackTraces = false) (hK : ShK E G c) (hA : AbsK I c S) (a : Int32) (b : Int32) : z_Cw E l mL_tryStripe 9 1 6 [.ref c, .int a, .int b] G I sz (z_wP c (exv [-9999001, -9999002] (e_stripe a b) (v_stripe S.1 a b)) (exs (e_stripe a b) (S) S) G I sz) := by
  refine z_Cw.of hl pn_L [some (.ref c), some (.int a), some (.int b), none] rfl (Nat.le_of_ble_eq_true rfl) ?_
  refine v_aload_n (pc' := 1) dL_tryStripe_0 rfl rfl ?_
  refine v_iload_n (pc' := 2) dL_tryStripe_1 rfl rfl ?_
  refine v_iload_n (pc' := 3) dL_tryStripe_2 rfl rfl ?_
  refine v_callVX (pc' := 6) (k_stripe hl hK hA a b) dL_tryStripe_3 lk_L_41 mwX4_stripe miX4_stripe hK.1 rfl rfl rfl rfl (by decide) (by decide) (Nat.le_of_ble_eq_true rfl) rfl ?_ ?_
  · rintro v' G' I' sz' ⟨rfl, hs, he, y, rfl, rfl, hA', hF'⟩
    have hk : e_stripe a b = 0 := ex0_2 he (by unfold e_stripe; split <;> (try split) <;> omega)
    exact v_iret dL_tryStripe_6 rfl (by decide) (by decide) ⟨by rw [hk]; rfl, rfl, by rw [hk]; exact hA', hF'⟩
  · rintro X G' I' sz' ⟨rfl, hs, he, hA', hF'⟩
    rcases ex2 he with ⟨hk, rfl⟩ | ⟨hk, rfl⟩
    · refine v_catch [] ⟨0, 6, 7, 38⟩ [⟨0, 6, 11, 13⟩] rfl (fun z hz => by cases hz) rfl (by decide) cl_L_38 cst_IOOBE (fun q => ?_)
      refine v_astore_n3 (pc' := 8) dL_tryStripe_7 (by decide) rfl rfl ?_
      refine v_ldc (pc' := 10) dL_tryStripe_8 ck_L_40 rfl ?_
      exact v_iret dL_tryStripe_10 rfl (by decide) (by decide) ⟨by rw [hk]; rfl, rfl, by rw [hk]; exact hA', hF'⟩
    · refine v_catch [⟨0, 6, 7, 38⟩] ⟨0, 6, 11, 13⟩ [] rfl (fun z hz => by
        rcases List.mem_singleton.mp hz with rfl
        exact Or.inr ⟨by decide, nIOO, cl_L_38, by decide⟩) rfl (by decide) cl_L_13 cst_IAE (fun q => ?_)
      refine v_astore_n3 (pc' := 12) dL_tryStripe_11 (by decide) rfl rfl ?_
      refine v_ldc (pc' := 14) dL_tryStripe_12 ck_L_15 rfl ?_
      exact v_iret dL_tryStripe_14 rfl (by decide) (by decide) ⟨by rw [hk]; rfl, rfl, by rw [hk]; exact hA', hF'⟩
set_option maxRecDepth 20000 in
set_option maxHeartbeats 4000000 in
theorem w_tryJob (hl : l.stackTraces = false) (hK : ShK E G c) (hA : AbsK I c S) (a : Int32) : z_Cw E l mL_tryJob 9 1 6 [.ref c, .int a] G I sz (z_wP c (exv [-9999002] (e_job a) (v_job S.1 a)) (exs (e_job a) (S) S) G I sz) := by
  refine z_Cw.of hl pn_L [some (.ref c), some (.int a), none] rfl (Nat.le_of_ble_eq_true rfl) ?_
  refine v_aload_n (pc' := 1) dL_tryJob_0 rfl rfl ?_
  refine v_iload_n (pc' := 2) dL_tryJob_1 rfl rfl ?_
  refine v_callVX (pc' := 5) (k_job hl hK hA a) dL_tryJob_2 lk_L_44 mwX4_job miX4_job hK.1 rfl rfl rfl rfl (by decide) (by decide) (Nat.le_of_ble_eq_true rfl) rfl ?_ ?_
  · rintro v' G' I' sz' ⟨rfl, hs, he, y, rfl, rfl, hA', hF'⟩
    have hk : e_job a = 0 := ex0_1 he (by unfold e_job; split <;> (try split) <;> omega)
    exact v_iret dL_tryJob_5 rfl (by decide) (by decide) ⟨by rw [hk]; rfl, rfl, by rw [hk]; exact hA', hF'⟩
  · rintro X G' I' sz' ⟨rfl, hs, he, hA', hF'⟩
    obtain ⟨hk, rfl⟩ := ex1 he
    · refine v_catch [] ⟨0, 5, 6, 13⟩ [] rfl (fun z hz => by cases hz) rfl (by decide) cl_L_13 cst_IAE (fun q => ?_)
      refine v_astore_n2 (pc' := 7) dL_tryJob_6 (by decide) rfl rfl ?_
      refine v_ldc (pc' := 9) dL_tryJob_7 ck_L_15 rfl ?_
      exact v_iret dL_tryJob_9 rfl (by decide) (by decide) ⟨by rw [hk]; rfl, rfl, by rw [hk]; exact hA', hF'⟩
set_option maxRecDepth 20000 in
set_option maxHeartbeats 4000000 in
theorem w_trySetting (hl : l.stackTraces = false) (hK : ShK E G c) (hA : AbsK I c S) (a : Int32) : z_Cw E l mL_trySetting 9 1 6 [.ref c, .int a] G I sz (z_wP c (exv [-9999002] (e_job a) (v_setting S.1 a)) (exs (e_job a) (S) S) G I sz) := by
  refine z_Cw.of hl pn_L [some (.ref c), some (.int a), none] rfl (Nat.le_of_ble_eq_true rfl) ?_
  refine v_aload_n (pc' := 1) dL_trySetting_0 rfl rfl ?_
  refine v_iload_n (pc' := 2) dL_trySetting_1 rfl rfl ?_
  refine v_callVX (pc' := 5) (k_setting hl hK hA a) dL_trySetting_2 lk_L_47 mwX4_setting miX4_setting hK.1 rfl rfl rfl rfl (by decide) (by decide) (Nat.le_of_ble_eq_true rfl) rfl ?_ ?_
  · rintro v' G' I' sz' ⟨rfl, hs, he, y, rfl, rfl, hA', hF'⟩
    have hk : e_job a = 0 := ex0_1 he (by unfold e_job; split <;> (try split) <;> omega)
    exact v_iret dL_trySetting_5 rfl (by decide) (by decide) ⟨by rw [hk]; rfl, rfl, by rw [hk]; exact hA', hF'⟩
  · rintro X G' I' sz' ⟨rfl, hs, he, hA', hF'⟩
    obtain ⟨hk, rfl⟩ := ex1 he
    · refine v_catch [] ⟨0, 5, 6, 13⟩ [] rfl (fun z hz => by cases hz) rfl (by decide) cl_L_13 cst_IAE (fun q => ?_)
      refine v_astore_n2 (pc' := 7) dL_trySetting_6 (by decide) rfl rfl ?_
      refine v_ldc (pc' := 9) dL_trySetting_7 ck_L_15 rfl ?_
      exact v_iret dL_trySetting_9 rfl (by decide) (by decide) ⟨by rw [hk]; rfl, rfl, by rw [hk]; exact hA', hF'⟩
set_option maxRecDepth 20000 in
set_option maxHeartbeats 4000000 in
theorem w_tryAdd (hl : l.stackTraces = false) (hK : ShK E G c) (hA : AbsK I c S) (a : Int32) (b : Int32) : z_Cw E l mL_tryAdd 9 1 6 [.ref c, .int a, .int b] G I sz (z_wP c (exv [-9999002, -9999003] (e_add S.1 a b) (nI (cnt S.1))) (exs (e_add S.1 a b) (s_now S (t_add S.1 a b)) S) G I sz) := by
  refine z_Cw.of hl pn_L [some (.ref c), some (.int a), some (.int b), none] rfl (Nat.le_of_ble_eq_true rfl) ?_
  refine v_aload_n (pc' := 1) dL_tryAdd_0 rfl rfl ?_
  refine v_iload_n (pc' := 2) dL_tryAdd_1 rfl rfl ?_
  refine v_iload_n (pc' := 3) dL_tryAdd_2 rfl rfl ?_
  refine v_callVX (pc' := 6) (k_add hl hK hA a b) dL_tryAdd_3 lk_L_50 mwX4_add miX4_add hK.1 rfl rfl rfl rfl (by decide) (by decide) (Nat.le_of_ble_eq_true rfl) rfl ?_ ?_
  · rintro v' G' I' sz' ⟨rfl, hs, he, y, rfl, rfl, hA', hF'⟩
    have hk : e_add S.1 a b = 0 := ex0_2 he (by unfold e_add; split <;> (try split) <;> omega)
    exact v_iret dL_tryAdd_6 rfl (by decide) (by decide) ⟨by rw [hk]; rfl, rfl, by rw [hk]; exact hA', hF'⟩
  · rintro X G' I' sz' ⟨rfl, hs, he, hA', hF'⟩
    rcases ex2 he with ⟨hk, rfl⟩ | ⟨hk, rfl⟩
    · refine v_catch [] ⟨0, 6, 7, 13⟩ [⟨0, 6, 11, 24⟩] rfl (fun z hz => by cases hz) rfl (by decide) cl_L_13 cst_IAE (fun q => ?_)
      refine v_astore_n3 (pc' := 8) dL_tryAdd_7 (by decide) rfl rfl ?_
      refine v_ldc (pc' := 10) dL_tryAdd_8 ck_L_15 rfl ?_
      exact v_iret dL_tryAdd_10 rfl (by decide) (by decide) ⟨by rw [hk]; rfl, rfl, by rw [hk]; exact hA', hF'⟩
    · refine v_catch [⟨0, 6, 7, 13⟩] ⟨0, 6, 11, 24⟩ [] rfl (fun z hz => by
        rcases List.mem_singleton.mp hz with rfl
        exact Or.inr ⟨by decide, nIAE, cl_L_13, by decide⟩) rfl (by decide) cl_L_24 cst_ISE (fun q => ?_)
      refine v_astore_n3 (pc' := 12) dL_tryAdd_11 (by decide) rfl rfl ?_
      refine v_ldc (pc' := 14) dL_tryAdd_12 ck_L_26 rfl ?_
      exact v_iret dL_tryAdd_14 rfl (by decide) (by decide) ⟨by rw [hk]; rfl, rfl, by rw [hk]; exact hA', hF'⟩
set_option maxRecDepth 20000 in
set_option maxHeartbeats 4000000 in
theorem w_tryBring (hl : l.stackTraces = false) (hK : ShK E G c) (hA : AbsK I c S) (a : Int32) (b : Int32) : z_Cw E l mL_tryBring 9 1 6 [.ref c, .int a, .int b] G I sz (z_wP c (exv [-9999001, -9999003] (e_bring S.1 a b) (t_jobv S.1 a b)) (exs (e_bring S.1 a b) (s_now S (t_job S.1 a b)) S) G I sz) := by
  refine z_Cw.of hl pn_L [some (.ref c), some (.int a), some (.int b), none] rfl (Nat.le_of_ble_eq_true rfl) ?_
  refine v_aload_n (pc' := 1) dL_tryBring_0 rfl rfl ?_
  refine v_iload_n (pc' := 2) dL_tryBring_1 rfl rfl ?_
  refine v_iload_n (pc' := 3) dL_tryBring_2 rfl rfl ?_
  refine v_callVX (pc' := 6) (k_bring hl hK hA a b) dL_tryBring_3 lk_L_53 mwX4_bring miX4_bring hK.1 rfl rfl rfl rfl (by decide) (by decide) (Nat.le_of_ble_eq_true rfl) rfl ?_ ?_
  · rintro v' G' I' sz' ⟨rfl, hs, he, y, rfl, rfl, hA', hF'⟩
    have hk : e_bring S.1 a b = 0 := ex0_2 he (by unfold e_bring; split <;> (try split) <;> omega)
    exact v_iret dL_tryBring_6 rfl (by decide) (by decide) ⟨by rw [hk]; rfl, rfl, by rw [hk]; exact hA', hF'⟩
  · rintro X G' I' sz' ⟨rfl, hs, he, hA', hF'⟩
    rcases ex2 he with ⟨hk, rfl⟩ | ⟨hk, rfl⟩
    · refine v_catch [] ⟨0, 6, 7, 38⟩ [⟨0, 6, 11, 24⟩] rfl (fun z hz => by cases hz) rfl (by decide) cl_L_38 cst_IOOBE (fun q => ?_)
      refine v_astore_n3 (pc' := 8) dL_tryBring_7 (by decide) rfl rfl ?_
      refine v_ldc (pc' := 10) dL_tryBring_8 ck_L_40 rfl ?_
      exact v_iret dL_tryBring_10 rfl (by decide) (by decide) ⟨by rw [hk]; rfl, rfl, by rw [hk]; exact hA', hF'⟩
    · refine v_catch [⟨0, 6, 7, 38⟩] ⟨0, 6, 11, 24⟩ [] rfl (fun z hz => by
        rcases List.mem_singleton.mp hz with rfl
        exact Or.inr ⟨by decide, nIOO, cl_L_38, by decide⟩) rfl (by decide) cl_L_24 cst_ISE (fun q => ?_)
      refine v_astore_n3 (pc' := 12) dL_tryBring_11 (by decide) rfl rfl ?_
      refine v_ldc (pc' := 14) dL_tryBring_12 ck_L_26 rfl ?_
      exact v_iret dL_tryBring_14 rfl (by decide) (by decide) ⟨by rw [hk]; rfl, rfl, by rw [hk]; exact hA', hF'⟩
set_option maxRecDepth 20000 in
set_option maxHeartbeats 4000000 in
theorem w_tryStop (hl : l.stackTraces = false) (hK : ShK E G c) (hA : AbsK I c S) (a : Int32) : z_Cw E l mL_tryStop 9 1 6 [.ref c, .int a] G I sz (z_wP c (exv [-9999001, -9999003] (e_stop S.1 a) (t_stopv S.1 a)) (exs (e_stop S.1 a) (s_now S (t_stop S.1 a)) S) G I sz) := by
  refine z_Cw.of hl pn_L [some (.ref c), some (.int a), none] rfl (Nat.le_of_ble_eq_true rfl) ?_
  refine v_aload_n (pc' := 1) dL_tryStop_0 rfl rfl ?_
  refine v_iload_n (pc' := 2) dL_tryStop_1 rfl rfl ?_
  refine v_callVX (pc' := 5) (k_stop hl hK hA a) dL_tryStop_2 lk_L_56 mwX4_stop miX4_stop hK.1 rfl rfl rfl rfl (by decide) (by decide) (Nat.le_of_ble_eq_true rfl) rfl ?_ ?_
  · rintro v' G' I' sz' ⟨rfl, hs, he, y, rfl, rfl, hA', hF'⟩
    have hk : e_stop S.1 a = 0 := ex0_2 he (by unfold e_stop; split <;> (try split) <;> omega)
    exact v_iret dL_tryStop_5 rfl (by decide) (by decide) ⟨by rw [hk]; rfl, rfl, by rw [hk]; exact hA', hF'⟩
  · rintro X G' I' sz' ⟨rfl, hs, he, hA', hF'⟩
    rcases ex2 he with ⟨hk, rfl⟩ | ⟨hk, rfl⟩
    · refine v_catch [] ⟨0, 5, 6, 38⟩ [⟨0, 5, 10, 24⟩] rfl (fun z hz => by cases hz) rfl (by decide) cl_L_38 cst_IOOBE (fun q => ?_)
      refine v_astore_n2 (pc' := 7) dL_tryStop_6 (by decide) rfl rfl ?_
      refine v_ldc (pc' := 9) dL_tryStop_7 ck_L_40 rfl ?_
      exact v_iret dL_tryStop_9 rfl (by decide) (by decide) ⟨by rw [hk]; rfl, rfl, by rw [hk]; exact hA', hF'⟩
    · refine v_catch [⟨0, 5, 6, 38⟩] ⟨0, 5, 10, 24⟩ [] rfl (fun z hz => by
        rcases List.mem_singleton.mp hz with rfl
        exact Or.inr ⟨by decide, nIOO, cl_L_38, by decide⟩) rfl (by decide) cl_L_24 cst_ISE (fun q => ?_)
      refine v_astore_n2 (pc' := 11) dL_tryStop_10 (by decide) rfl rfl ?_
      refine v_ldc (pc' := 13) dL_tryStop_11 ck_L_26 rfl ?_
      exact v_iret dL_tryStop_13 rfl (by decide) (by decide) ⟨by rw [hk]; rfl, rfl, by rw [hk]; exact hA', hF'⟩
set_option maxRecDepth 20000 in
set_option maxHeartbeats 4000000 in
theorem w_tryBad (hl : l.stackTraces = false) (hK : ShK E G c) (hA : AbsK I c S) (a : Int32) : z_Cw E l mL_tryBad 9 1 6 [.ref c, .int a] G I sz (z_wP c (exv [-9999001] (e_strp a) (t_badv S.1 a)) (exs (e_strp a) (s_now S (t_bad S.1 a)) S) G I sz) := by
  refine z_Cw.of hl pn_L [some (.ref c), some (.int a), none] rfl (Nat.le_of_ble_eq_true rfl) ?_
  refine v_aload_n (pc' := 1) dL_tryBad_0 rfl rfl ?_
  refine v_iload_n (pc' := 2) dL_tryBad_1 rfl rfl ?_
  refine v_callVX (pc' := 5) (k_turnBad hl hK hA a) dL_tryBad_2 lk_L_59 mwX4_turnBad miX4_turnBad hK.1 rfl rfl rfl rfl (by decide) (by decide) (Nat.le_of_ble_eq_true rfl) rfl ?_ ?_
  · rintro v' G' I' sz' ⟨rfl, hs, he, y, rfl, rfl, hA', hF'⟩
    have hk : e_strp a = 0 := ex0_1 he (by unfold e_strp; split <;> (try split) <;> omega)
    exact v_iret dL_tryBad_5 rfl (by decide) (by decide) ⟨by rw [hk]; rfl, rfl, by rw [hk]; exact hA', hF'⟩
  · rintro X G' I' sz' ⟨rfl, hs, he, hA', hF'⟩
    obtain ⟨hk, rfl⟩ := ex1 he
    · refine v_catch [] ⟨0, 5, 6, 38⟩ [] rfl (fun z hz => by cases hz) rfl (by decide) cl_L_38 cst_IOOBE (fun q => ?_)
      refine v_astore_n2 (pc' := 7) dL_tryBad_6 (by decide) rfl rfl ?_
      refine v_ldc (pc' := 9) dL_tryBad_7 ck_L_40 rfl ?_
      exact v_iret dL_tryBad_9 rfl (by decide) (by decide) ⟨by rw [hk]; rfl, rfl, by rw [hk]; exact hA', hF'⟩
set_option maxRecDepth 20000 in
set_option maxHeartbeats 4000000 in
theorem w_tryMend (hl : l.stackTraces = false) (hK : ShK E G c) (hA : AbsK I c S) (a : Int32) : z_Cw E l mL_tryMend 9 1 6 [.ref c, .int a] G I sz (z_wP c (exv [-9999001] (e_strp a) (t_mendv S.1 a)) (exs (e_strp a) (s_now S (t_mend S.1 a)) S) G I sz) := by
  refine z_Cw.of hl pn_L [some (.ref c), some (.int a), none] rfl (Nat.le_of_ble_eq_true rfl) ?_
  refine v_aload_n (pc' := 1) dL_tryMend_0 rfl rfl ?_
  refine v_iload_n (pc' := 2) dL_tryMend_1 rfl rfl ?_
  refine v_callVX (pc' := 5) (k_mend hl hK hA a) dL_tryMend_2 lk_L_62 mwX4_mend miX4_mend hK.1 rfl rfl rfl rfl (by decide) (by decide) (Nat.le_of_ble_eq_true rfl) rfl ?_ ?_
  · rintro v' G' I' sz' ⟨rfl, hs, he, y, rfl, rfl, hA', hF'⟩
    have hk : e_strp a = 0 := ex0_1 he (by unfold e_strp; split <;> (try split) <;> omega)
    exact v_iret dL_tryMend_5 rfl (by decide) (by decide) ⟨by rw [hk]; rfl, rfl, by rw [hk]; exact hA', hF'⟩
  · rintro X G' I' sz' ⟨rfl, hs, he, hA', hF'⟩
    obtain ⟨hk, rfl⟩ := ex1 he
    · refine v_catch [] ⟨0, 5, 6, 38⟩ [] rfl (fun z hz => by cases hz) rfl (by decide) cl_L_38 cst_IOOBE (fun q => ?_)
      refine v_astore_n2 (pc' := 7) dL_tryMend_6 (by decide) rfl rfl ?_
      refine v_ldc (pc' := 9) dL_tryMend_7 ck_L_40 rfl ?_
      exact v_iret dL_tryMend_9 rfl (by decide) (by decide) ⟨by rw [hk]; rfl, rfl, by rw [hk]; exact hA', hF'⟩
set_option maxRecDepth 20000 in
set_option maxHeartbeats 4000000 in
theorem w_tryRun (hl : l.stackTraces = false) (hK : ShK E G c) (hA : AbsK I c S) (a : Int32) : z_Cw E l mL_tryRun 9 1 6 [.ref c, .int a] G I sz (z_wP c (exv [-9999002] (e_run a) (t_runv S.1 a)) (exs (e_run a) (s_now S (t_run S.1 a)) S) G I sz) := by
  refine z_Cw.of hl pn_L [some (.ref c), some (.int a), none] rfl (Nat.le_of_ble_eq_true rfl) ?_
  refine v_aload_n (pc' := 1) dL_tryRun_0 rfl rfl ?_
  refine v_iload_n (pc' := 2) dL_tryRun_1 rfl rfl ?_
  refine v_callVX (pc' := 5) (k_run hl hK hA a) dL_tryRun_2 lk_L_65 mwX4_run miX4_run hK.1 rfl rfl rfl rfl (by decide) (by decide) (Nat.le_of_ble_eq_true rfl) rfl ?_ ?_
  · rintro v' G' I' sz' ⟨rfl, hs, he, y, rfl, rfl, hA', hF'⟩
    have hk : e_run a = 0 := ex0_1 he (by unfold e_run; split <;> (try split) <;> omega)
    exact v_iret dL_tryRun_5 rfl (by decide) (by decide) ⟨by rw [hk]; rfl, rfl, by rw [hk]; exact hA', hF'⟩
  · rintro X G' I' sz' ⟨rfl, hs, he, hA', hF'⟩
    obtain ⟨hk, rfl⟩ := ex1 he
    · refine v_catch [] ⟨0, 5, 6, 13⟩ [] rfl (fun z hz => by cases hz) rfl (by decide) cl_L_13 cst_IAE (fun q => ?_)
      refine v_astore_n2 (pc' := 7) dL_tryRun_6 (by decide) rfl rfl ?_
      refine v_ldc (pc' := 9) dL_tryRun_7 ck_L_15 rfl ?_
      exact v_iret dL_tryRun_9 rfl (by decide) (by decide) ⟨by rw [hk]; rfl, rfl, by rw [hk]; exact hA', hF'⟩
set_option maxRecDepth 20000 in
set_option maxHeartbeats 4000000 in
theorem w_tryLay (hl : l.stackTraces = false) (hK : ShK E G c) (hA : AbsK I c S) (a : Int32) (b : Int32) : z_Cw E l mL_tryLay 9 1 6 [.ref c, .int a, .int b] G I sz (z_wP c (exv [-9999002] (e_set a b) (S.1 (8 + a.toNatClampNeg))) (exs (e_set a b) (s_now S (upd S.1 (8 + a.toNatClampNeg) b)) S) G I sz) := by
  refine z_Cw.of hl pn_L [some (.ref c), some (.int a), some (.int b), none] rfl (Nat.le_of_ble_eq_true rfl) ?_
  refine v_aload_n (pc' := 1) dL_tryLay_0 rfl rfl ?_
  refine v_iload_n (pc' := 2) dL_tryLay_1 rfl rfl ?_
  refine v_iload_n (pc' := 3) dL_tryLay_2 rfl rfl ?_
  refine v_callVX (pc' := 6) (k_set hl hK hA a b) dL_tryLay_3 lk_L_68 mwX4_set miX4_set hK.1 rfl rfl rfl rfl (by decide) (by decide) (Nat.le_of_ble_eq_true rfl) rfl ?_ ?_
  · rintro v' G' I' sz' ⟨rfl, hs, he, y, rfl, rfl, hA', hF'⟩
    have hk : e_set a b = 0 := ex0_1 he (by unfold e_set; split <;> (try split) <;> omega)
    exact v_iret dL_tryLay_6 rfl (by decide) (by decide) ⟨by rw [hk]; rfl, rfl, by rw [hk]; exact hA', hF'⟩
  · rintro X G' I' sz' ⟨rfl, hs, he, hA', hF'⟩
    obtain ⟨hk, rfl⟩ := ex1 he
    · refine v_catch [] ⟨0, 6, 7, 13⟩ [] rfl (fun z hz => by cases hz) rfl (by decide) cl_L_13 cst_IAE (fun q => ?_)
      refine v_astore_n3 (pc' := 8) dL_tryLay_7 (by decide) rfl rfl ?_
      refine v_ldc (pc' := 10) dL_tryLay_8 ck_L_15 rfl ?_
      exact v_iret dL_tryLay_10 rfl (by decide) (by decide) ⟨by rw [hk]; rfl, rfl, by rw [hk]; exact hA', hF'⟩
set_option maxRecDepth 20000 in
set_option maxHeartbeats 4000000 in
theorem w_tryUndo (hl : l.stackTraces = false) (hK : ShK E G c) (hA : AbsK I c S) : z_Cw E l mL_tryUndo 9 1 6 [.ref c] G I sz (z_wP c (exv [-9999003] (e_undo S) (nI (S.2.1.1 - 1))) (exs (e_undo S) (s_undo S) S) G I sz) := by
  refine z_Cw.of hl pn_L [some (.ref c), none] rfl (Nat.le_of_ble_eq_true rfl) ?_
  refine v_aload_n (pc' := 1) dL_tryUndo_0 rfl rfl ?_
  refine v_callVX (pc' := 4) (k_undo hl hK hA) dL_tryUndo_1 lk_L_71 mwX4_undo miX4_undo hK.1 rfl rfl rfl rfl (by decide) (by decide) (Nat.le_of_ble_eq_true rfl) rfl ?_ ?_
  · rintro v' G' I' sz' ⟨rfl, hs, he, y, rfl, rfl, hA', hF'⟩
    have hk : e_undo S = 0 := ex0_1 he (by unfold e_undo; split <;> (try split) <;> omega)
    exact v_iret dL_tryUndo_4 rfl (by decide) (by decide) ⟨by rw [hk]; rfl, rfl, by rw [hk]; exact hA', hF'⟩
  · rintro X G' I' sz' ⟨rfl, hs, he, hA', hF'⟩
    obtain ⟨hk, rfl⟩ := ex1 he
    · refine v_catch [] ⟨0, 4, 5, 24⟩ [] rfl (fun z hz => by cases hz) rfl (by decide) cl_L_24 cst_ISE (fun q => ?_)
      refine v_astore_n1 (pc' := 6) dL_tryUndo_5 (by decide) rfl rfl ?_
      refine v_ldc (pc' := 8) dL_tryUndo_6 ck_L_26 rfl ?_
      exact v_iret dL_tryUndo_8 rfl (by decide) (by decide) ⟨by rw [hk]; rfl, rfl, by rw [hk]; exact hA', hF'⟩
set_option maxRecDepth 20000 in
set_option maxHeartbeats 4000000 in
theorem w_tryGap (hl : l.stackTraces = false) (hK : ShK E G c) (hA : AbsK I c S) (a : Int32) : z_Cw E l mL_tryGap 9 1 6 [.ref c, .int a] G I sz (z_wP c (exv [-9999002] (e_gap a) (v_gap S.1 a)) (exs (e_gap a) (S) S) G I sz) := by
  refine z_Cw.of hl pn_L [some (.ref c), some (.int a), none] rfl (Nat.le_of_ble_eq_true rfl) ?_
  refine v_aload_n (pc' := 1) dL_tryGap_0 rfl rfl ?_
  refine v_iload_n (pc' := 2) dL_tryGap_1 rfl rfl ?_
  refine v_callVX (pc' := 5) (k_bestGap hl hK hA a) dL_tryGap_2 lk_L_74 mwX4_bestGap miX4_bestGap hK.1 rfl rfl rfl rfl (by decide) (by decide) (Nat.le_of_ble_eq_true rfl) rfl ?_ ?_
  · rintro v' G' I' sz' ⟨rfl, hs, he, y, rfl, rfl, hA', hF'⟩
    have hk : e_gap a = 0 := ex0_1 he (by unfold e_gap; split <;> (try split) <;> omega)
    exact v_iret dL_tryGap_5 rfl (by decide) (by decide) ⟨by rw [hk]; rfl, rfl, by rw [hk]; exact hA', hF'⟩
  · rintro X G' I' sz' ⟨rfl, hs, he, hA', hF'⟩
    obtain ⟨hk, rfl⟩ := ex1 he
    · refine v_catch [] ⟨0, 5, 6, 13⟩ [] rfl (fun z hz => by cases hz) rfl (by decide) cl_L_13 cst_IAE (fun q => ?_)
      refine v_astore_n2 (pc' := 7) dL_tryGap_6 (by decide) rfl rfl ?_
      refine v_ldc (pc' := 9) dL_tryGap_7 ck_L_15 rfl ?_
      exact v_iret dL_tryGap_9 rfl (by decide) (by decide) ⟨by rw [hk]; rfl, rfl, by rw [hk]; exact hA', hF'⟩
set_option maxRecDepth 20000 in
set_option maxHeartbeats 4000000 in
theorem w_tryWindow (hl : l.stackTraces = false) (hK : ShK E G c) (hA : AbsK I c S) (a : Int32) (b : Int32) : z_Cw E l mL_tryWindow 9 1 6 [.ref c, .int a, .int b] G I sz (z_wP c (exv [-9999002] (e_win a b) (v_win S.1 a b)) (exs (e_win a b) (S) S) G I sz) := by
  refine z_Cw.of hl pn_L [some (.ref c), some (.int a), some (.int b), none] rfl (Nat.le_of_ble_eq_true rfl) ?_
  refine v_aload_n (pc' := 1) dL_tryWindow_0 rfl rfl ?_
  refine v_iload_n (pc' := 2) dL_tryWindow_1 rfl rfl ?_
  refine v_iload_n (pc' := 3) dL_tryWindow_2 rfl rfl ?_
  refine v_callVX (pc' := 6) (k_window hl hK hA a b) dL_tryWindow_3 lk_L_77 mwX4_window miX4_window hK.1 rfl rfl rfl rfl (by decide) (by decide) (Nat.le_of_ble_eq_true rfl) rfl ?_ ?_
  · rintro v' G' I' sz' ⟨rfl, hs, he, y, rfl, rfl, hA', hF'⟩
    have hk : e_win a b = 0 := ex0_1 he (by unfold e_win; split <;> (try split) <;> omega)
    exact v_iret dL_tryWindow_6 rfl (by decide) (by decide) ⟨by rw [hk]; rfl, rfl, by rw [hk]; exact hA', hF'⟩
  · rintro X G' I' sz' ⟨rfl, hs, he, hA', hF'⟩
    obtain ⟨hk, rfl⟩ := ex1 he
    · refine v_catch [] ⟨0, 6, 7, 13⟩ [] rfl (fun z hz => by cases hz) rfl (by decide) cl_L_13 cst_IAE (fun q => ?_)
      refine v_astore_n3 (pc' := 8) dL_tryWindow_7 (by decide) rfl rfl ?_
      refine v_ldc (pc' := 10) dL_tryWindow_8 ck_L_15 rfl ?_
      exact v_iret dL_tryWindow_10 rfl (by decide) (by decide) ⟨by rw [hk]; rfl, rfl, by rw [hk]; exact hA', hF'⟩
set_option maxRecDepth 20000 in
set_option maxHeartbeats 4000000 in
theorem w_tryComing (hl : l.stackTraces = false) (hK : ShK E G c) (hA : AbsK I c S) (a : Int32) (b : Int32) (c3 : Int32) : z_Cw E l mL_tryComing 9 1 6 [.ref c, .int a, .int b, .int c3] G I sz (z_wP c (exv [-9999001, -9999002] (e_coming S.1 a b c3) (v_coming S.1 a b c3)) (exs (e_coming S.1 a b c3) (S) S) G I sz) := by
  refine z_Cw.of hl pn_L [some (.ref c), some (.int a), some (.int b), some (.int c3), none] rfl (Nat.le_of_ble_eq_true rfl) ?_
  refine v_aload_n (pc' := 1) dL_tryComing_0 rfl rfl ?_
  refine v_iload_n (pc' := 2) dL_tryComing_1 rfl rfl ?_
  refine v_iload_n (pc' := 3) dL_tryComing_2 rfl rfl ?_
  refine v_iload_n (pc' := 4) dL_tryComing_3 rfl rfl ?_
  refine v_callVX (pc' := 7) (k_coming hl hK hA a b c3) dL_tryComing_4 lk_L_80 mwX4_coming miX4_coming hK.1 rfl rfl rfl rfl (by decide) (by decide) (Nat.le_of_ble_eq_true rfl) rfl ?_ ?_
  · rintro v' G' I' sz' ⟨rfl, hs, he, y, rfl, rfl, hA', hF'⟩
    have hk : e_coming S.1 a b c3 = 0 := ex0_2 he (by unfold e_coming; split <;> (try split) <;> omega)
    exact v_iret dL_tryComing_7 rfl (by decide) (by decide) ⟨by rw [hk]; rfl, rfl, by rw [hk]; exact hA', hF'⟩
  · rintro X G' I' sz' ⟨rfl, hs, he, hA', hF'⟩
    rcases ex2 he with ⟨hk, rfl⟩ | ⟨hk, rfl⟩
    · refine v_catch [] ⟨0, 7, 8, 38⟩ [⟨0, 7, 13, 13⟩] rfl (fun z hz => by cases hz) rfl (by decide) cl_L_38 cst_IOOBE (fun q => ?_)
      refine v_astore4 (pc' := 10) dL_tryComing_8 (by decide) rfl rfl ?_
      refine v_ldc (pc' := 12) dL_tryComing_10 ck_L_40 rfl ?_
      exact v_iret dL_tryComing_12 rfl (by decide) (by decide) ⟨by rw [hk]; rfl, rfl, by rw [hk]; exact hA', hF'⟩
    · refine v_catch [⟨0, 7, 8, 38⟩] ⟨0, 7, 13, 13⟩ [] rfl (fun z hz => by
        rcases List.mem_singleton.mp hz with rfl
        exact Or.inr ⟨by decide, nIOO, cl_L_38, by decide⟩) rfl (by decide) cl_L_13 cst_IAE (fun q => ?_)
      refine v_astore4 (pc' := 15) dL_tryComing_13 (by decide) rfl rfl ?_
      refine v_ldc (pc' := 17) dL_tryComing_15 ck_L_15 rfl ?_
      exact v_iret dL_tryComing_17 rfl (by decide) (by decide) ⟨by rw [hk]; rfl, rfl, by rw [hk]; exact hA', hF'⟩
set_option maxRecDepth 20000 in
set_option maxHeartbeats 4000000 in
theorem w_tryLost (hl : l.stackTraces = false) (hK : ShK E G c) (hA : AbsK I c S) (a : Int32) : z_Cw E l mL_tryLost 9 1 6 [.ref c, .int a] G I sz (z_wP c (exv [-9999001] (e_strp a) (v_lost S.1 a)) (exs (e_strp a) (S) S) G I sz) := by
  refine z_Cw.of hl pn_L [some (.ref c), some (.int a), none] rfl (Nat.le_of_ble_eq_true rfl) ?_
  refine v_aload_n (pc' := 1) dL_tryLost_0 rfl rfl ?_
  refine v_iload_n (pc' := 2) dL_tryLost_1 rfl rfl ?_
  refine v_callVX (pc' := 5) (k_lost hl hK hA a) dL_tryLost_2 lk_L_84 mwX4_lost miX4_lost hK.1 rfl rfl rfl rfl (by decide) (by decide) (Nat.le_of_ble_eq_true rfl) rfl ?_ ?_
  · rintro v' G' I' sz' ⟨rfl, hs, he, y, rfl, rfl, hA', hF'⟩
    have hk : e_strp a = 0 := ex0_1 he (by unfold e_strp; split <;> (try split) <;> omega)
    exact v_iret dL_tryLost_5 rfl (by decide) (by decide) ⟨by rw [hk]; rfl, rfl, by rw [hk]; exact hA', hF'⟩
  · rintro X G' I' sz' ⟨rfl, hs, he, hA', hF'⟩
    obtain ⟨hk, rfl⟩ := ex1 he
    · refine v_catch [] ⟨0, 5, 6, 38⟩ [] rfl (fun z hz => by cases hz) rfl (by decide) cl_L_38 cst_IOOBE (fun q => ?_)
      refine v_astore_n2 (pc' := 7) dL_tryLost_6 (by decide) rfl rfl ?_
      refine v_ldc (pc' := 9) dL_tryLost_7 ck_L_40 rfl ?_
      exact v_iret dL_tryLost_9 rfl (by decide) (by decide) ⟨by rw [hk]; rfl, rfl, by rw [hk]; exact hA', hF'⟩
set_option maxRecDepth 20000 in
set_option maxHeartbeats 4000000 in
theorem w_tryKeep (hl : l.stackTraces = false) (hK : ShK E G c) (hA : AbsK I c S) (a : Int32) : z_Cw E l mL_tryKeep 9 1 6 [.ref c, .int a] G I sz (z_wP c (exv [-9999001] (e_slot a) (S.1 1)) (exs (e_slot a) (s_save S a) S) G I sz) := by
  refine z_Cw.of hl pn_L [some (.ref c), some (.int a), none] rfl (Nat.le_of_ble_eq_true rfl) ?_
  refine v_aload_n (pc' := 1) dL_tryKeep_0 rfl rfl ?_
  refine v_iload_n (pc' := 2) dL_tryKeep_1 rfl rfl ?_
  refine v_callVX (pc' := 5) (k_save_ hl hK hA a) dL_tryKeep_2 lk_L_87 mwX4_save miX4_save hK.1 rfl rfl rfl rfl (by decide) (by decide) (Nat.le_of_ble_eq_true rfl) rfl ?_ ?_
  · rintro v' G' I' sz' ⟨rfl, hs, he, y, rfl, rfl, hA', hF'⟩
    have hk : e_slot a = 0 := ex0_1 he (by unfold e_slot; split <;> (try split) <;> omega)
    exact v_iret dL_tryKeep_5 rfl (by decide) (by decide) ⟨by rw [hk]; rfl, rfl, by rw [hk]; exact hA', hF'⟩
  · rintro X G' I' sz' ⟨rfl, hs, he, hA', hF'⟩
    obtain ⟨hk, rfl⟩ := ex1 he
    · refine v_catch [] ⟨0, 5, 6, 38⟩ [] rfl (fun z hz => by cases hz) rfl (by decide) cl_L_38 cst_IOOBE (fun q => ?_)
      refine v_astore_n2 (pc' := 7) dL_tryKeep_6 (by decide) rfl rfl ?_
      refine v_ldc (pc' := 9) dL_tryKeep_7 ck_L_40 rfl ?_
      exact v_iret dL_tryKeep_9 rfl (by decide) (by decide) ⟨by rw [hk]; rfl, rfl, by rw [hk]; exact hA', hF'⟩
set_option maxRecDepth 20000 in
set_option maxHeartbeats 4000000 in
theorem w_tryBack (hl : l.stackTraces = false) (hK : ShK E G c) (hA : AbsK I c S) (a : Int32) : z_Cw E l mL_tryBack 9 1 6 [.ref c, .int a] G I sz (z_wP c (exv [-9999001, -9999003] (e_rest S a) (S.2.2.2.1 a.toNatClampNeg 1)) (exs (e_rest S a) (s_rest S a) S) G I sz) := by
  refine z_Cw.of hl pn_L [some (.ref c), some (.int a), none] rfl (Nat.le_of_ble_eq_true rfl) ?_
  refine v_aload_n (pc' := 1) dL_tryBack_0 rfl rfl ?_
  refine v_iload_n (pc' := 2) dL_tryBack_1 rfl rfl ?_
  refine v_callVX (pc' := 5) (k_restore hl hK hA a) dL_tryBack_2 lk_L_90 mwX4_restore miX4_restore hK.1 rfl rfl rfl rfl (by decide) (by decide) (Nat.le_of_ble_eq_true rfl) rfl ?_ ?_
  · rintro v' G' I' sz' ⟨rfl, hs, he, y, rfl, rfl, hA', hF'⟩
    have hk : e_rest S a = 0 := ex0_2 he (by unfold e_rest; split <;> (try split) <;> omega)
    exact v_iret dL_tryBack_5 rfl (by decide) (by decide) ⟨by rw [hk]; rfl, rfl, by rw [hk]; exact hA', hF'⟩
  · rintro X G' I' sz' ⟨rfl, hs, he, hA', hF'⟩
    rcases ex2 he with ⟨hk, rfl⟩ | ⟨hk, rfl⟩
    · refine v_catch [] ⟨0, 5, 6, 38⟩ [⟨0, 5, 10, 24⟩] rfl (fun z hz => by cases hz) rfl (by decide) cl_L_38 cst_IOOBE (fun q => ?_)
      refine v_astore_n2 (pc' := 7) dL_tryBack_6 (by decide) rfl rfl ?_
      refine v_ldc (pc' := 9) dL_tryBack_7 ck_L_40 rfl ?_
      exact v_iret dL_tryBack_9 rfl (by decide) (by decide) ⟨by rw [hk]; rfl, rfl, by rw [hk]; exact hA', hF'⟩
    · refine v_catch [⟨0, 5, 6, 38⟩] ⟨0, 5, 10, 24⟩ [] rfl (fun z hz => by
        rcases List.mem_singleton.mp hz with rfl
        exact Or.inr ⟨by decide, nIOO, cl_L_38, by decide⟩) rfl (by decide) cl_L_24 cst_ISE (fun q => ?_)
      refine v_astore_n2 (pc' := 11) dL_tryBack_10 (by decide) rfl rfl ?_
      refine v_ldc (pc' := 13) dL_tryBack_11 ck_L_26 rfl ?_
      exact v_iret dL_tryBack_13 rfl (by decide) (by decide) ⟨by rw [hk]; rfl, rfl, by rw [hk]; exact hA', hF'⟩
set_option maxRecDepth 20000 in
set_option maxHeartbeats 4000000 in
theorem w_doScript (hl : l.stackTraces = false) (hK : ShK E G c) (hA : AbsK I c S) (a : Int32) (s : Int64) : z_Cw E l mL_doScript 9 1 6 [.ref c, .int a, .long s] G I sz (z_wP c (exv [-9999002] (e_script a s) (v_script S.1 a s)) (exs (e_script a s) (S) S) G I sz) := by
  refine z_Cw.of hl pn_L [some (.ref c), some (.int a), some (.long s), none, none] rfl (Nat.le_of_ble_eq_true rfl) ?_
  refine v_aload_n (pc' := 1) dL_doScript_0 rfl rfl ?_
  refine v_iload_n (pc' := 2) dL_doScript_1 rfl rfl ?_
  refine v_lload_n (pc' := 3) dL_doScript_2 rfl rfl ?_
  refine v_callVX (pc' := 6) (k_runScript hl hK hA a s) dL_doScript_3 lk_L_7 mwX4_runScript miX4_runScript hK.1 rfl rfl rfl rfl (by decide) (by decide) (Nat.le_of_ble_eq_true rfl) rfl ?_ ?_
  · rintro v' G' I' sz' ⟨rfl, hs, he, y, rfl, rfl, hA', hF'⟩
    have hk : e_script a s = 0 := ex0_1 he (by unfold e_script; split <;> (try split) <;> omega)
    exact v_iret dL_doScript_6 rfl (by decide) (by decide) ⟨by rw [hk]; rfl, rfl, by rw [hk]; exact hA', hF'⟩
  · rintro X G' I' sz' ⟨rfl, hs, he, hA', hF'⟩
    obtain ⟨hk, rfl⟩ := ex1 he
    · refine v_catch [] ⟨0, 6, 7, 13⟩ [] rfl (fun z hz => by cases hz) rfl (by decide) cl_L_13 cst_IAE (fun q => ?_)
      refine v_astore4 (pc' := 9) dL_doScript_7 (by decide) rfl rfl ?_
      refine v_ldc (pc' := 11) dL_doScript_9 ck_L_15 rfl ?_
      exact v_iret dL_doScript_11 rfl (by decide) (by decide) ⟨by rw [hk]; rfl, rfl, by rw [hk]; exact hA', hF'⟩
set_option maxRecDepth 20000 in
set_option maxHeartbeats 4000000 in
theorem w_doSimulate (hl : l.stackTraces = false) (hK : ShK E G c) (hA : AbsK I c S) (s : Int64) (a : Int32) : z_Cw E l mL_doSimulate 9 1 6 [.ref c, .long s, .int a] G I sz (z_wP c (exv [-9999002] (e_sim a) (v_sim S.1 s a)) (exs (e_sim a) (S) S) G I sz) := by
  refine z_Cw.of hl pn_L [some (.ref c), some (.long s), none, some (.int a), none] rfl (Nat.le_of_ble_eq_true rfl) ?_
  refine v_aload_n (pc' := 1) dL_doSimulate_0 rfl rfl ?_
  refine v_lload_n (pc' := 2) dL_doSimulate_1 rfl rfl ?_
  refine v_iload_n (pc' := 3) dL_doSimulate_2 rfl rfl ?_
  refine v_callVX (pc' := 6) (k_simulate hl hK hA s a) dL_doSimulate_3 lk_L_16 mwX4_simulate miX4_simulate hK.1 rfl rfl rfl rfl (by decide) (by decide) (Nat.le_of_ble_eq_true rfl) rfl ?_ ?_
  · rintro v' G' I' sz' ⟨rfl, hs, he, y, rfl, rfl, hA', hF'⟩
    have hk : e_sim a = 0 := ex0_1 he (by unfold e_sim; split <;> (try split) <;> omega)
    exact v_iret dL_doSimulate_6 rfl (by decide) (by decide) ⟨by rw [hk]; rfl, rfl, by rw [hk]; exact hA', hF'⟩
  · rintro X G' I' sz' ⟨rfl, hs, he, hA', hF'⟩
    obtain ⟨hk, rfl⟩ := ex1 he
    · refine v_catch [] ⟨0, 6, 7, 13⟩ [] rfl (fun z hz => by cases hz) rfl (by decide) cl_L_13 cst_IAE (fun q => ?_)
      refine v_astore4 (pc' := 9) dL_doSimulate_7 (by decide) rfl rfl ?_
      refine v_ldc (pc' := 11) dL_doSimulate_9 ck_L_15 rfl ?_
      exact v_iret dL_doSimulate_11 rfl (by decide) (by decide) ⟨by rw [hk]; rfl, rfl, by rw [hk]; exact hA', hF'⟩
def cv_0 (S : zS) (a b c3 : Int32) : Int32 := exv [-9999002, -9999003] (e_append S a) (nI (S.2.2.1.2 + 1))
def cs_0 (S : zS) (a b c3 : Int32) : zS := exs (e_append S a) (s_append S a) S
set_option maxRecDepth 20000 in
set_option maxHeartbeats 4000000 in
theorem call_0 (hl : l.stackTraces = false) (hK : ShK E G c) (hA : AbsK I c S) (a b c3 : Int32) : z_K1 E l mL_call 10 1 6 [.ref c, .int 0, .int a, .int b, .int c3] G I sz c (cv_0 S a b c3) (cs_0 S a b c3) := by
  refine z_Ct.of hl pn_L [some (.ref c), some (.int 0), some (.int a), some (.int b), some (.int c3)] rfl (Nat.le_of_ble_eq_true rfl) ?_
  refine v_iload_n (pc' := 1) dL_call_0 rfl rfl ?_
  refine v_tableIn (tgt := 96) 0 dL_call_1 (by decide) (by decide) rfl (by decide) ?_
  refine v_aload_n (pc' := 97) dL_call_96 rfl rfl ?_
  refine v_iload_n (pc' := 98) dL_call_97 rfl rfl ?_
  refine v_callSW (na := 2) (pc' := 101) (w_tryAppend hl hK hA a) dL_call_98 lk_L_93 mwwL_tryAppend mwcL_tryAppend (by decide +kernel) msL_tryAppend rfl rfl (by decide) (by decide) (Nat.le_of_ble_eq_true rfl) rfl ?_
  rintro _ _ I1 s1 ⟨rfl, rfl, hA1, hF1⟩
  exact v_iret dL_call_101 rfl (by decide) (by decide) ⟨rfl, rfl, hA1, hF1⟩
def cv_2 (S : zS) (a b c3 : Int32) : Int32 := exv [-9999002] (e_about a) (v_about S.1 a.toNatClampNeg)
set_option maxRecDepth 20000 in
set_option maxHeartbeats 4000000 in
theorem call_2 (hl : l.stackTraces = false) (hK : ShK E G c) (hA : AbsK I c S) (a b c3 : Int32) : z_K1 E l mL_call 10 1 6 [.ref c, .int 2, .int a, .int b, .int c3] G I sz c (cv_2 S a b c3) (S) := by
  refine z_K1.to (v := cv_2 S a b c3) (S := exs (e_about a) S S) ?_ rfl (exs_same _ _)
  refine z_Ct.of hl pn_L [some (.ref c), some (.int 2), some (.int a), some (.int b), some (.int c3)] rfl (Nat.le_of_ble_eq_true rfl) ?_
  refine v_iload_n (pc' := 1) dL_call_0 rfl rfl ?_
  refine v_tableIn (tgt := 107) 2 dL_call_1 (by decide) (by decide) rfl (by decide) ?_
  refine v_aload_n (pc' := 108) dL_call_107 rfl rfl ?_
  refine v_iload_n (pc' := 109) dL_call_108 rfl rfl ?_
  refine v_callSW (na := 2) (pc' := 112) (w_tryAbout hl hK hA a) dL_call_109 lk_L_103 mwwL_tryAbout mwcL_tryAbout (by decide +kernel) msL_tryAbout rfl rfl (by decide) (by decide) (Nat.le_of_ble_eq_true rfl) rfl ?_
  rintro _ _ I1 s1 ⟨rfl, rfl, hA1, hF1⟩
  exact v_iret dL_call_112 rfl (by decide) (by decide) ⟨rfl, rfl, hA1, hF1⟩
def cv_3 (S : zS) (a b c3 : Int32) : Int32 := exv [-9999001, -9999002] (e_task S.1 a b) (v_task S.1 a b)
set_option maxRecDepth 20000 in
set_option maxHeartbeats 4000000 in
theorem call_3 (hl : l.stackTraces = false) (hK : ShK E G c) (hA : AbsK I c S) (a b c3 : Int32) : z_K1 E l mL_call 10 1 6 [.ref c, .int 3, .int a, .int b, .int c3] G I sz c (cv_3 S a b c3) (S) := by
  refine z_K1.to (v := cv_3 S a b c3) (S := exs (e_task S.1 a b) S S) ?_ rfl (exs_same _ _)
  refine z_Ct.of hl pn_L [some (.ref c), some (.int 3), some (.int a), some (.int b), some (.int c3)] rfl (Nat.le_of_ble_eq_true rfl) ?_
  refine v_iload_n (pc' := 1) dL_call_0 rfl rfl ?_
  refine v_tableIn (tgt := 113) 3 dL_call_1 (by decide) (by decide) rfl (by decide) ?_
  refine v_aload_n (pc' := 114) dL_call_113 rfl rfl ?_
  refine v_iload_n (pc' := 115) dL_call_114 rfl rfl ?_
  refine v_iload_n (pc' := 116) dL_call_115 rfl rfl ?_
  refine v_callSW (na := 3) (pc' := 119) (w_tryTask hl hK hA a b) dL_call_116 lk_L_106 mwwL_tryTask mwcL_tryTask (by decide +kernel) msL_tryTask rfl rfl (by decide) (by decide) (Nat.le_of_ble_eq_true rfl) rfl ?_
  rintro _ _ I1 s1 ⟨rfl, rfl, hA1, hF1⟩
  exact v_iret dL_call_119 rfl (by decide) (by decide) ⟨rfl, rfl, hA1, hF1⟩
def cv_4 (S : zS) (a b c3 : Int32) : Int32 := exv [-9999001, -9999002] (e_stripe a b) (v_stripe S.1 a b)
set_option maxRecDepth 20000 in
set_option maxHeartbeats 4000000 in
theorem call_4 (hl : l.stackTraces = false) (hK : ShK E G c) (hA : AbsK I c S) (a b c3 : Int32) : z_K1 E l mL_call 10 1 6 [.ref c, .int 4, .int a, .int b, .int c3] G I sz c (cv_4 S a b c3) (S) := by
  refine z_K1.to (v := cv_4 S a b c3) (S := exs (e_stripe a b) S S) ?_ rfl (exs_same _ _)
  refine z_Ct.of hl pn_L [some (.ref c), some (.int 4), some (.int a), some (.int b), some (.int c3)] rfl (Nat.le_of_ble_eq_true rfl) ?_
  refine v_iload_n (pc' := 1) dL_call_0 rfl rfl ?_
  refine v_tableIn (tgt := 120) 4 dL_call_1 (by decide) (by decide) rfl (by decide) ?_
  refine v_aload_n (pc' := 121) dL_call_120 rfl rfl ?_
  refine v_iload_n (pc' := 122) dL_call_121 rfl rfl ?_
  refine v_iload_n (pc' := 123) dL_call_122 rfl rfl ?_
  refine v_callSW (na := 3) (pc' := 126) (w_tryStripe hl hK hA a b) dL_call_123 lk_L_110 mwwL_tryStripe mwcL_tryStripe (by decide +kernel) msL_tryStripe rfl rfl (by decide) (by decide) (Nat.le_of_ble_eq_true rfl) rfl ?_
  rintro _ _ I1 s1 ⟨rfl, rfl, hA1, hF1⟩
  exact v_iret dL_call_126 rfl (by decide) (by decide) ⟨rfl, rfl, hA1, hF1⟩
def cv_5 (S : zS) (a b c3 : Int32) : Int32 := exv [-9999002] (e_job a) (v_job S.1 a)
set_option maxRecDepth 20000 in
set_option maxHeartbeats 4000000 in
theorem call_5 (hl : l.stackTraces = false) (hK : ShK E G c) (hA : AbsK I c S) (a b c3 : Int32) : z_K1 E l mL_call 10 1 6 [.ref c, .int 5, .int a, .int b, .int c3] G I sz c (cv_5 S a b c3) (S) := by
  refine z_K1.to (v := cv_5 S a b c3) (S := exs (e_job a) S S) ?_ rfl (exs_same _ _)
  refine z_Ct.of hl pn_L [some (.ref c), some (.int 5), some (.int a), some (.int b), some (.int c3)] rfl (Nat.le_of_ble_eq_true rfl) ?_
  refine v_iload_n (pc' := 1) dL_call_0 rfl rfl ?_
  refine v_tableIn (tgt := 127) 5 dL_call_1 (by decide) (by decide) rfl (by decide) ?_
  refine v_aload_n (pc' := 128) dL_call_127 rfl rfl ?_
  refine v_iload_n (pc' := 129) dL_call_128 rfl rfl ?_
  refine v_callSW (na := 2) (pc' := 132) (w_tryJob hl hK hA a) dL_call_129 lk_L_113 mwwL_tryJob mwcL_tryJob (by decide +kernel) msL_tryJob rfl rfl (by decide) (by decide) (Nat.le_of_ble_eq_true rfl) rfl ?_
  rintro _ _ I1 s1 ⟨rfl, rfl, hA1, hF1⟩
  exact v_iret dL_call_132 rfl (by decide) (by decide) ⟨rfl, rfl, hA1, hF1⟩
def cv_6 (S : zS) (a b c3 : Int32) : Int32 := exv [-9999002] (e_job a) (v_setting S.1 a)
set_option maxRecDepth 20000 in
set_option maxHeartbeats 4000000 in
theorem call_6 (hl : l.stackTraces = false) (hK : ShK E G c) (hA : AbsK I c S) (a b c3 : Int32) : z_K1 E l mL_call 10 1 6 [.ref c, .int 6, .int a, .int b, .int c3] G I sz c (cv_6 S a b c3) (S) := by
  refine z_K1.to (v := cv_6 S a b c3) (S := exs (e_job a) S S) ?_ rfl (exs_same _ _)
  refine z_Ct.of hl pn_L [some (.ref c), some (.int 6), some (.int a), some (.int b), some (.int c3)] rfl (Nat.le_of_ble_eq_true rfl) ?_
  refine v_iload_n (pc' := 1) dL_call_0 rfl rfl ?_
  refine v_tableIn (tgt := 133) 6 dL_call_1 (by decide) (by decide) rfl (by decide) ?_
  refine v_aload_n (pc' := 134) dL_call_133 rfl rfl ?_
  refine v_iload_n (pc' := 135) dL_call_134 rfl rfl ?_
  refine v_callSW (na := 2) (pc' := 138) (w_trySetting hl hK hA a) dL_call_135 lk_L_116 mwwL_trySetting mwcL_trySetting (by decide +kernel) msL_trySetting rfl rfl (by decide) (by decide) (Nat.le_of_ble_eq_true rfl) rfl ?_
  rintro _ _ I1 s1 ⟨rfl, rfl, hA1, hF1⟩
  exact v_iret dL_call_138 rfl (by decide) (by decide) ⟨rfl, rfl, hA1, hF1⟩
def cv_7 (S : zS) (a b c3 : Int32) : Int32 := exv [-9999002, -9999003] (e_add S.1 a b) (nI (cnt S.1))
def cs_7 (S : zS) (a b c3 : Int32) : zS := exs (e_add S.1 a b) (s_now S (t_add S.1 a b)) S
set_option maxRecDepth 20000 in
set_option maxHeartbeats 4000000 in
theorem call_7 (hl : l.stackTraces = false) (hK : ShK E G c) (hA : AbsK I c S) (a b c3 : Int32) : z_K1 E l mL_call 10 1 6 [.ref c, .int 7, .int a, .int b, .int c3] G I sz c (cv_7 S a b c3) (cs_7 S a b c3) := by
  refine z_Ct.of hl pn_L [some (.ref c), some (.int 7), some (.int a), some (.int b), some (.int c3)] rfl (Nat.le_of_ble_eq_true rfl) ?_
  refine v_iload_n (pc' := 1) dL_call_0 rfl rfl ?_
  refine v_tableIn (tgt := 139) 7 dL_call_1 (by decide) (by decide) rfl (by decide) ?_
  refine v_aload_n (pc' := 140) dL_call_139 rfl rfl ?_
  refine v_iload_n (pc' := 141) dL_call_140 rfl rfl ?_
  refine v_iload_n (pc' := 142) dL_call_141 rfl rfl ?_
  refine v_callSW (na := 3) (pc' := 145) (w_tryAdd hl hK hA a b) dL_call_142 lk_L_119 mwwL_tryAdd mwcL_tryAdd (by decide +kernel) msL_tryAdd rfl rfl (by decide) (by decide) (Nat.le_of_ble_eq_true rfl) rfl ?_
  rintro _ _ I1 s1 ⟨rfl, rfl, hA1, hF1⟩
  exact v_iret dL_call_145 rfl (by decide) (by decide) ⟨rfl, rfl, hA1, hF1⟩
def cv_8 (S : zS) (a b c3 : Int32) : Int32 := exv [-9999001, -9999003] (e_bring S.1 a b) (t_jobv S.1 a b)
def cs_8 (S : zS) (a b c3 : Int32) : zS := exs (e_bring S.1 a b) (s_now S (t_job S.1 a b)) S
set_option maxRecDepth 20000 in
set_option maxHeartbeats 4000000 in
theorem call_8 (hl : l.stackTraces = false) (hK : ShK E G c) (hA : AbsK I c S) (a b c3 : Int32) : z_K1 E l mL_call 10 1 6 [.ref c, .int 8, .int a, .int b, .int c3] G I sz c (cv_8 S a b c3) (cs_8 S a b c3) := by
  refine z_Ct.of hl pn_L [some (.ref c), some (.int 8), some (.int a), some (.int b), some (.int c3)] rfl (Nat.le_of_ble_eq_true rfl) ?_
  refine v_iload_n (pc' := 1) dL_call_0 rfl rfl ?_
  refine v_tableIn (tgt := 146) 8 dL_call_1 (by decide) (by decide) rfl (by decide) ?_
  refine v_aload_n (pc' := 147) dL_call_146 rfl rfl ?_
  refine v_iload_n (pc' := 148) dL_call_147 rfl rfl ?_
  refine v_iload_n (pc' := 149) dL_call_148 rfl rfl ?_
  refine v_callSW (na := 3) (pc' := 152) (w_tryBring hl hK hA a b) dL_call_149 lk_L_122 mwwL_tryBring mwcL_tryBring (by decide +kernel) msL_tryBring rfl rfl (by decide) (by decide) (Nat.le_of_ble_eq_true rfl) rfl ?_
  rintro _ _ I1 s1 ⟨rfl, rfl, hA1, hF1⟩
  exact v_iret dL_call_152 rfl (by decide) (by decide) ⟨rfl, rfl, hA1, hF1⟩
def cv_9 (S : zS) (a b c3 : Int32) : Int32 := exv [-9999001, -9999003] (e_stop S.1 a) (t_stopv S.1 a)
def cs_9 (S : zS) (a b c3 : Int32) : zS := exs (e_stop S.1 a) (s_now S (t_stop S.1 a)) S
set_option maxRecDepth 20000 in
set_option maxHeartbeats 4000000 in
theorem call_9 (hl : l.stackTraces = false) (hK : ShK E G c) (hA : AbsK I c S) (a b c3 : Int32) : z_K1 E l mL_call 10 1 6 [.ref c, .int 9, .int a, .int b, .int c3] G I sz c (cv_9 S a b c3) (cs_9 S a b c3) := by
  refine z_Ct.of hl pn_L [some (.ref c), some (.int 9), some (.int a), some (.int b), some (.int c3)] rfl (Nat.le_of_ble_eq_true rfl) ?_
  refine v_iload_n (pc' := 1) dL_call_0 rfl rfl ?_
  refine v_tableIn (tgt := 153) 9 dL_call_1 (by decide) (by decide) rfl (by decide) ?_
  refine v_aload_n (pc' := 154) dL_call_153 rfl rfl ?_
  refine v_iload_n (pc' := 155) dL_call_154 rfl rfl ?_
  refine v_callSW (na := 2) (pc' := 158) (w_tryStop hl hK hA a) dL_call_155 lk_L_125 mwwL_tryStop mwcL_tryStop (by decide +kernel) msL_tryStop rfl rfl (by decide) (by decide) (Nat.le_of_ble_eq_true rfl) rfl ?_
  rintro _ _ I1 s1 ⟨rfl, rfl, hA1, hF1⟩
  exact v_iret dL_call_158 rfl (by decide) (by decide) ⟨rfl, rfl, hA1, hF1⟩
def cv_10 (S : zS) (a b c3 : Int32) : Int32 := exv [-9999001] (e_strp a) (t_badv S.1 a)
def cs_10 (S : zS) (a b c3 : Int32) : zS := exs (e_strp a) (s_now S (t_bad S.1 a)) S
set_option maxRecDepth 20000 in
set_option maxHeartbeats 4000000 in
theorem call_10 (hl : l.stackTraces = false) (hK : ShK E G c) (hA : AbsK I c S) (a b c3 : Int32) : z_K1 E l mL_call 10 1 6 [.ref c, .int 10, .int a, .int b, .int c3] G I sz c (cv_10 S a b c3) (cs_10 S a b c3) := by
  refine z_Ct.of hl pn_L [some (.ref c), some (.int 10), some (.int a), some (.int b), some (.int c3)] rfl (Nat.le_of_ble_eq_true rfl) ?_
  refine v_iload_n (pc' := 1) dL_call_0 rfl rfl ?_
  refine v_tableIn (tgt := 159) 10 dL_call_1 (by decide) (by decide) rfl (by decide) ?_
  refine v_aload_n (pc' := 160) dL_call_159 rfl rfl ?_
  refine v_iload_n (pc' := 161) dL_call_160 rfl rfl ?_
  refine v_callSW (na := 2) (pc' := 164) (w_tryBad hl hK hA a) dL_call_161 lk_L_128 mwwL_tryBad mwcL_tryBad (by decide +kernel) msL_tryBad rfl rfl (by decide) (by decide) (Nat.le_of_ble_eq_true rfl) rfl ?_
  rintro _ _ I1 s1 ⟨rfl, rfl, hA1, hF1⟩
  exact v_iret dL_call_164 rfl (by decide) (by decide) ⟨rfl, rfl, hA1, hF1⟩
def cv_11 (S : zS) (a b c3 : Int32) : Int32 := exv [-9999001] (e_strp a) (t_mendv S.1 a)
def cs_11 (S : zS) (a b c3 : Int32) : zS := exs (e_strp a) (s_now S (t_mend S.1 a)) S
set_option maxRecDepth 20000 in
set_option maxHeartbeats 4000000 in
theorem call_11 (hl : l.stackTraces = false) (hK : ShK E G c) (hA : AbsK I c S) (a b c3 : Int32) : z_K1 E l mL_call 10 1 6 [.ref c, .int 11, .int a, .int b, .int c3] G I sz c (cv_11 S a b c3) (cs_11 S a b c3) := by
  refine z_Ct.of hl pn_L [some (.ref c), some (.int 11), some (.int a), some (.int b), some (.int c3)] rfl (Nat.le_of_ble_eq_true rfl) ?_
  refine v_iload_n (pc' := 1) dL_call_0 rfl rfl ?_
  refine v_tableIn (tgt := 165) 11 dL_call_1 (by decide) (by decide) rfl (by decide) ?_
  refine v_aload_n (pc' := 166) dL_call_165 rfl rfl ?_
  refine v_iload_n (pc' := 167) dL_call_166 rfl rfl ?_
  refine v_callSW (na := 2) (pc' := 170) (w_tryMend hl hK hA a) dL_call_167 lk_L_131 mwwL_tryMend mwcL_tryMend (by decide +kernel) msL_tryMend rfl rfl (by decide) (by decide) (Nat.le_of_ble_eq_true rfl) rfl ?_
  rintro _ _ I1 s1 ⟨rfl, rfl, hA1, hF1⟩
  exact v_iret dL_call_170 rfl (by decide) (by decide) ⟨rfl, rfl, hA1, hF1⟩
def cv_12 (S : zS) (a b c3 : Int32) : Int32 := exv [-9999002] (e_run a) (t_runv S.1 a)
def cs_12 (S : zS) (a b c3 : Int32) : zS := exs (e_run a) (s_now S (t_run S.1 a)) S
set_option maxRecDepth 20000 in
set_option maxHeartbeats 4000000 in
theorem call_12 (hl : l.stackTraces = false) (hK : ShK E G c) (hA : AbsK I c S) (a b c3 : Int32) : z_K1 E l mL_call 10 1 6 [.ref c, .int 12, .int a, .int b, .int c3] G I sz c (cv_12 S a b c3) (cs_12 S a b c3) := by
  refine z_Ct.of hl pn_L [some (.ref c), some (.int 12), some (.int a), some (.int b), some (.int c3)] rfl (Nat.le_of_ble_eq_true rfl) ?_
  refine v_iload_n (pc' := 1) dL_call_0 rfl rfl ?_
  refine v_tableIn (tgt := 171) 12 dL_call_1 (by decide) (by decide) rfl (by decide) ?_
  refine v_aload_n (pc' := 172) dL_call_171 rfl rfl ?_
  refine v_iload_n (pc' := 173) dL_call_172 rfl rfl ?_
  refine v_callSW (na := 2) (pc' := 176) (w_tryRun hl hK hA a) dL_call_173 lk_L_134 mwwL_tryRun mwcL_tryRun (by decide +kernel) msL_tryRun rfl rfl (by decide) (by decide) (Nat.le_of_ble_eq_true rfl) rfl ?_
  rintro _ _ I1 s1 ⟨rfl, rfl, hA1, hF1⟩
  exact v_iret dL_call_176 rfl (by decide) (by decide) ⟨rfl, rfl, hA1, hF1⟩
def cv_13 (S : zS) (a b c3 : Int32) : Int32 := exv [-9999002] (e_set a b) (S.1 (8 + a.toNatClampNeg))
def cs_13 (S : zS) (a b c3 : Int32) : zS := exs (e_set a b) (s_now S (upd S.1 (8 + a.toNatClampNeg) b)) S
set_option maxRecDepth 20000 in
set_option maxHeartbeats 4000000 in
theorem call_13 (hl : l.stackTraces = false) (hK : ShK E G c) (hA : AbsK I c S) (a b c3 : Int32) : z_K1 E l mL_call 10 1 6 [.ref c, .int 13, .int a, .int b, .int c3] G I sz c (cv_13 S a b c3) (cs_13 S a b c3) := by
  refine z_Ct.of hl pn_L [some (.ref c), some (.int 13), some (.int a), some (.int b), some (.int c3)] rfl (Nat.le_of_ble_eq_true rfl) ?_
  refine v_iload_n (pc' := 1) dL_call_0 rfl rfl ?_
  refine v_tableIn (tgt := 177) 13 dL_call_1 (by decide) (by decide) rfl (by decide) ?_
  refine v_aload_n (pc' := 178) dL_call_177 rfl rfl ?_
  refine v_iload_n (pc' := 179) dL_call_178 rfl rfl ?_
  refine v_iload_n (pc' := 180) dL_call_179 rfl rfl ?_
  refine v_callSW (na := 3) (pc' := 183) (w_tryLay hl hK hA a b) dL_call_180 lk_L_137 mwwL_tryLay mwcL_tryLay (by decide +kernel) msL_tryLay rfl rfl (by decide) (by decide) (Nat.le_of_ble_eq_true rfl) rfl ?_
  rintro _ _ I1 s1 ⟨rfl, rfl, hA1, hF1⟩
  exact v_iret dL_call_183 rfl (by decide) (by decide) ⟨rfl, rfl, hA1, hF1⟩
def cv_14 (S : zS) (a b c3 : Int32) : Int32 := exv [-9999003] (e_undo S) (nI (S.2.1.1 - 1))
def cs_14 (S : zS) (a b c3 : Int32) : zS := exs (e_undo S) (s_undo S) S
set_option maxRecDepth 20000 in
set_option maxHeartbeats 4000000 in
theorem call_14 (hl : l.stackTraces = false) (hK : ShK E G c) (hA : AbsK I c S) (a b c3 : Int32) : z_K1 E l mL_call 10 1 6 [.ref c, .int 14, .int a, .int b, .int c3] G I sz c (cv_14 S a b c3) (cs_14 S a b c3) := by
  refine z_Ct.of hl pn_L [some (.ref c), some (.int 14), some (.int a), some (.int b), some (.int c3)] rfl (Nat.le_of_ble_eq_true rfl) ?_
  refine v_iload_n (pc' := 1) dL_call_0 rfl rfl ?_
  refine v_tableIn (tgt := 184) 14 dL_call_1 (by decide) (by decide) rfl (by decide) ?_
  refine v_aload_n (pc' := 185) dL_call_184 rfl rfl ?_
  refine v_callSW (na := 1) (pc' := 188) (w_tryUndo hl hK hA) dL_call_185 lk_L_140 mwwL_tryUndo mwcL_tryUndo (by decide +kernel) msL_tryUndo rfl rfl (by decide) (by decide) (Nat.le_of_ble_eq_true rfl) rfl ?_
  rintro _ _ I1 s1 ⟨rfl, rfl, hA1, hF1⟩
  exact v_iret dL_call_188 rfl (by decide) (by decide) ⟨rfl, rfl, hA1, hF1⟩
def cv_15 (S : zS) (a b c3 : Int32) : Int32 := exv [-9999002] (e_gap a) (v_gap S.1 a)
set_option maxRecDepth 20000 in
set_option maxHeartbeats 4000000 in
theorem call_15 (hl : l.stackTraces = false) (hK : ShK E G c) (hA : AbsK I c S) (a b c3 : Int32) : z_K1 E l mL_call 10 1 6 [.ref c, .int 15, .int a, .int b, .int c3] G I sz c (cv_15 S a b c3) (S) := by
  refine z_K1.to (v := cv_15 S a b c3) (S := exs (e_gap a) S S) ?_ rfl (exs_same _ _)
  refine z_Ct.of hl pn_L [some (.ref c), some (.int 15), some (.int a), some (.int b), some (.int c3)] rfl (Nat.le_of_ble_eq_true rfl) ?_
  refine v_iload_n (pc' := 1) dL_call_0 rfl rfl ?_
  refine v_tableIn (tgt := 189) 15 dL_call_1 (by decide) (by decide) rfl (by decide) ?_
  refine v_aload_n (pc' := 190) dL_call_189 rfl rfl ?_
  refine v_iload_n (pc' := 191) dL_call_190 rfl rfl ?_
  refine v_callSW (na := 2) (pc' := 194) (w_tryGap hl hK hA a) dL_call_191 lk_L_143 mwwL_tryGap mwcL_tryGap (by decide +kernel) msL_tryGap rfl rfl (by decide) (by decide) (Nat.le_of_ble_eq_true rfl) rfl ?_
  rintro _ _ I1 s1 ⟨rfl, rfl, hA1, hF1⟩
  exact v_iret dL_call_194 rfl (by decide) (by decide) ⟨rfl, rfl, hA1, hF1⟩
def cv_16 (S : zS) (a b c3 : Int32) : Int32 := exv [-9999002] (e_win a b) (v_win S.1 a b)
set_option maxRecDepth 20000 in
set_option maxHeartbeats 4000000 in
theorem call_16 (hl : l.stackTraces = false) (hK : ShK E G c) (hA : AbsK I c S) (a b c3 : Int32) : z_K1 E l mL_call 10 1 6 [.ref c, .int 16, .int a, .int b, .int c3] G I sz c (cv_16 S a b c3) (S) := by
  refine z_K1.to (v := cv_16 S a b c3) (S := exs (e_win a b) S S) ?_ rfl (exs_same _ _)
  refine z_Ct.of hl pn_L [some (.ref c), some (.int 16), some (.int a), some (.int b), some (.int c3)] rfl (Nat.le_of_ble_eq_true rfl) ?_
  refine v_iload_n (pc' := 1) dL_call_0 rfl rfl ?_
  refine v_tableIn (tgt := 195) 16 dL_call_1 (by decide) (by decide) rfl (by decide) ?_
  refine v_aload_n (pc' := 196) dL_call_195 rfl rfl ?_
  refine v_iload_n (pc' := 197) dL_call_196 rfl rfl ?_
  refine v_iload_n (pc' := 198) dL_call_197 rfl rfl ?_
  refine v_callSW (na := 3) (pc' := 201) (w_tryWindow hl hK hA a b) dL_call_198 lk_L_146 mwwL_tryWindow mwcL_tryWindow (by decide +kernel) msL_tryWindow rfl rfl (by decide) (by decide) (Nat.le_of_ble_eq_true rfl) rfl ?_
  rintro _ _ I1 s1 ⟨rfl, rfl, hA1, hF1⟩
  exact v_iret dL_call_201 rfl (by decide) (by decide) ⟨rfl, rfl, hA1, hF1⟩
def cv_17 (S : zS) (a b c3 : Int32) : Int32 := exv [-9999001, -9999002] (e_coming S.1 a b c3) (v_coming S.1 a b c3)
set_option maxRecDepth 20000 in
set_option maxHeartbeats 4000000 in
theorem call_17 (hl : l.stackTraces = false) (hK : ShK E G c) (hA : AbsK I c S) (a b c3 : Int32) : z_K1 E l mL_call 10 1 6 [.ref c, .int 17, .int a, .int b, .int c3] G I sz c (cv_17 S a b c3) (S) := by
  refine z_K1.to (v := cv_17 S a b c3) (S := exs (e_coming S.1 a b c3) S S) ?_ rfl (exs_same _ _)
  refine z_Ct.of hl pn_L [some (.ref c), some (.int 17), some (.int a), some (.int b), some (.int c3)] rfl (Nat.le_of_ble_eq_true rfl) ?_
  refine v_iload_n (pc' := 1) dL_call_0 rfl rfl ?_
  refine v_tableIn (tgt := 202) 17 dL_call_1 (by decide) (by decide) rfl (by decide) ?_
  refine v_aload_n (pc' := 203) dL_call_202 rfl rfl ?_
  refine v_iload_n (pc' := 204) dL_call_203 rfl rfl ?_
  refine v_iload_n (pc' := 205) dL_call_204 rfl rfl ?_
  refine v_iload (pc' := 207) dL_call_205 rfl rfl ?_
  refine v_callSW (na := 4) (pc' := 210) (w_tryComing hl hK hA a b c3) dL_call_207 lk_L_149 mwwL_tryComing mwcL_tryComing (by decide +kernel) msL_tryComing rfl rfl (by decide) (by decide) (Nat.le_of_ble_eq_true rfl) rfl ?_
  rintro _ _ I1 s1 ⟨rfl, rfl, hA1, hF1⟩
  exact v_iret dL_call_210 rfl (by decide) (by decide) ⟨rfl, rfl, hA1, hF1⟩
def cv_18 (S : zS) (a b c3 : Int32) : Int32 := exv [-9999001] (e_strp a) (v_lost S.1 a)
set_option maxRecDepth 20000 in
set_option maxHeartbeats 4000000 in
theorem call_18 (hl : l.stackTraces = false) (hK : ShK E G c) (hA : AbsK I c S) (a b c3 : Int32) : z_K1 E l mL_call 10 1 6 [.ref c, .int 18, .int a, .int b, .int c3] G I sz c (cv_18 S a b c3) (S) := by
  refine z_K1.to (v := cv_18 S a b c3) (S := exs (e_strp a) S S) ?_ rfl (exs_same _ _)
  refine z_Ct.of hl pn_L [some (.ref c), some (.int 18), some (.int a), some (.int b), some (.int c3)] rfl (Nat.le_of_ble_eq_true rfl) ?_
  refine v_iload_n (pc' := 1) dL_call_0 rfl rfl ?_
  refine v_tableIn (tgt := 211) 18 dL_call_1 (by decide) (by decide) rfl (by decide) ?_
  refine v_aload_n (pc' := 212) dL_call_211 rfl rfl ?_
  refine v_iload_n (pc' := 213) dL_call_212 rfl rfl ?_
  refine v_callSW (na := 2) (pc' := 216) (w_tryLost hl hK hA a) dL_call_213 lk_L_153 mwwL_tryLost mwcL_tryLost (by decide +kernel) msL_tryLost rfl rfl (by decide) (by decide) (Nat.le_of_ble_eq_true rfl) rfl ?_
  rintro _ _ I1 s1 ⟨rfl, rfl, hA1, hF1⟩
  exact v_iret dL_call_216 rfl (by decide) (by decide) ⟨rfl, rfl, hA1, hF1⟩
def cv_19 (S : zS) (a b c3 : Int32) : Int32 := exv [-9999001] (e_slot a) (S.1 1)
def cs_19 (S : zS) (a b c3 : Int32) : zS := exs (e_slot a) (s_save S a) S
set_option maxRecDepth 20000 in
set_option maxHeartbeats 4000000 in
theorem call_19 (hl : l.stackTraces = false) (hK : ShK E G c) (hA : AbsK I c S) (a b c3 : Int32) : z_K1 E l mL_call 10 1 6 [.ref c, .int 19, .int a, .int b, .int c3] G I sz c (cv_19 S a b c3) (cs_19 S a b c3) := by
  refine z_Ct.of hl pn_L [some (.ref c), some (.int 19), some (.int a), some (.int b), some (.int c3)] rfl (Nat.le_of_ble_eq_true rfl) ?_
  refine v_iload_n (pc' := 1) dL_call_0 rfl rfl ?_
  refine v_tableIn (tgt := 217) 19 dL_call_1 (by decide) (by decide) rfl (by decide) ?_
  refine v_aload_n (pc' := 218) dL_call_217 rfl rfl ?_
  refine v_iload_n (pc' := 219) dL_call_218 rfl rfl ?_
  refine v_callSW (na := 2) (pc' := 222) (w_tryKeep hl hK hA a) dL_call_219 lk_L_156 mwwL_tryKeep mwcL_tryKeep (by decide +kernel) msL_tryKeep rfl rfl (by decide) (by decide) (Nat.le_of_ble_eq_true rfl) rfl ?_
  rintro _ _ I1 s1 ⟨rfl, rfl, hA1, hF1⟩
  exact v_iret dL_call_222 rfl (by decide) (by decide) ⟨rfl, rfl, hA1, hF1⟩
def cv_20 (S : zS) (a b c3 : Int32) : Int32 := exv [-9999001, -9999003] (e_rest S a) (S.2.2.2.1 a.toNatClampNeg 1)
def cs_20 (S : zS) (a b c3 : Int32) : zS := exs (e_rest S a) (s_rest S a) S
set_option maxRecDepth 20000 in
set_option maxHeartbeats 4000000 in
theorem call_20 (hl : l.stackTraces = false) (hK : ShK E G c) (hA : AbsK I c S) (a b c3 : Int32) : z_K1 E l mL_call 10 1 6 [.ref c, .int 20, .int a, .int b, .int c3] G I sz c (cv_20 S a b c3) (cs_20 S a b c3) := by
  refine z_Ct.of hl pn_L [some (.ref c), some (.int 20), some (.int a), some (.int b), some (.int c3)] rfl (Nat.le_of_ble_eq_true rfl) ?_
  refine v_iload_n (pc' := 1) dL_call_0 rfl rfl ?_
  refine v_tableOut (tgt := 223) dL_call_1 (by decide) (by decide) ?_
  refine v_aload_n (pc' := 224) dL_call_223 rfl rfl ?_
  refine v_iload_n (pc' := 225) dL_call_224 rfl rfl ?_
  refine v_callSW (na := 2) (pc' := 228) (w_tryBack hl hK hA a) dL_call_225 lk_L_159 mwwL_tryBack mwcL_tryBack (by decide +kernel) msL_tryBack rfl rfl (by decide) (by decide) (Nat.le_of_ble_eq_true rfl) rfl ?_
  rintro _ _ I1 s1 ⟨rfl, rfl, hA1, hF1⟩
  exact v_iret dL_call_228 rfl (by decide) (by decide) ⟨rfl, rfl, hA1, hF1⟩
end LAW
