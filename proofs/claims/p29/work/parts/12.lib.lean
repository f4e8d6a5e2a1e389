/-! CONSTANTS of the code; three forms of contract (reads; writes and answers an int; writes), and the rows of their calls (written by wip/whole/gen_lib.py) -/
theorem kc_m1 : Int32.ofInt (-1) = (-1) := by decide
theorem kc_0 : Int32.ofInt 0 = 0 := by decide
theorem kc_1 : Int32.ofInt 1 = 1 := by decide
theorem kc_2 : Int32.ofInt 2 = 2 := by decide
theorem kc_3 : Int32.ofInt 3 = 3 := by decide
theorem kc_4 : Int32.ofInt 4 = 4 := by decide
theorem kc_5 : Int32.ofInt 5 = 5 := by decide
theorem kb_6 : (Int8.ofInt 6).toInt32 = 6 := by decide
theorem kb_7 : (Int8.ofInt 7).toInt32 = 7 := by decide
theorem kb_8 : (Int8.ofInt 8).toInt32 = 8 := by decide
theorem kb_9 : (Int8.ofInt 9).toInt32 = 9 := by decide
theorem kb_10 : (Int8.ofInt 10).toInt32 = 10 := by decide
theorem kb_11 : (Int8.ofInt 11).toInt32 = 11 := by decide
theorem kb_12 : (Int8.ofInt 12).toInt32 = 12 := by decide
theorem kb_13 : (Int8.ofInt 13).toInt32 = 13 := by decide
theorem kb_14 : (Int8.ofInt 14).toInt32 = 14 := by decide
theorem kb_16 : (Int8.ofInt 16).toInt32 = 16 := by decide
theorem kb_20 : (Int8.ofInt 20).toInt32 = 20 := by decide
theorem kb_23 : (Int8.ofInt 23).toInt32 = 23 := by decide
theorem kb_31 : (Int8.ofInt 31).toInt32 = 31 := by decide
theorem kb_32 : (Int8.ofInt 32).toInt32 = 32 := by decide
theorem kb_33 : (Int8.ofInt 33).toInt32 = 33 := by decide
theorem kb_48 : (Int8.ofInt 48).toInt32 = 48 := by decide
theorem kb_57 : (Int8.ofInt 57).toInt32 = 57 := by decide
theorem kb_60 : (Int8.ofInt 60).toInt32 = 60 := by decide
theorem kb_65 : (Int8.ofInt 65).toInt32 = 65 := by decide
theorem kb_100 : (Int8.ofInt 100).toInt32 = 100 := by decide
theorem kb_119 : (Int8.ofInt 119).toInt32 = 119 := by decide
theorem kb_120 : (Int8.ofInt 120).toInt32 = 120 := by decide
theorem ks_130 : (Int16.ofInt 130).toInt32 = 130 := by decide
theorem ks_200 : (Int16.ofInt 200).toInt32 = 200 := by decide
theorem ks_255 : (Int16.ofInt 255).toInt32 = 255 := by decide
theorem ks_845 : (Int16.ofInt 845).toInt32 = 845 := by decide
theorem ks_910 : (Int16.ofInt 910).toInt32 = 910 := by decide
theorem ks_996 : (Int16.ofInt 996).toInt32 = 996 := by decide
theorem ks_997 : (Int16.ofInt 997).toInt32 = 997 := by decide
theorem ks_1000 : (Int16.ofInt 1000).toInt32 = 1000 := by decide
theorem ks_9999 : (Int16.ofInt 9999).toInt32 = 9999 := by decide
theorem ks_10000 : (Int16.ofInt 10000).toInt32 = 10000 := by decide
theorem kl_0 : Int64.ofNat ((0 : Fin 2) : Nat) = 0 := by decide
theorem kl_1 : Int64.ofNat ((1 : Fin 2) : Nat) = 1 := by decide
theorem pn_X0 : plainName RX0 = true := by decide +kernel
theorem pn_X1 : plainName RX1 = true := by decide +kernel
theorem pn_X2 : plainName RX2 = true := by decide +kernel
theorem pn_X3 : plainName RX3 = true := by decide +kernel
theorem pn_X4 : plainName RX4 = true := by decide +kernel
theorem pn_X5 : plainName RX5 = true := by decide +kernel
theorem pn_L : plainName RL = true := by decide +kernel
/-- it answers v; nothing is changed -/
def z_CR (E : zE) (l : Launch) (M : zM) (d : Nat) (av : List Value) (G : zG) (I : zI) (sz : Nat) (v : Value) : Prop := z_Ct E l M d 0 0 av G I sz (fun v' G' I' sz' => v' = some v ∧ G' = G ∧ I' = I ∧ sz' = sz)
/-- it answers an int; the memory is changed -/
def z_CI (E : zE) (l : Launch) (M : zM) (d : Nat) (av : List Value) (G : zG) (I : zI) (sz : Nat) (P : Int32 → zI → Prop) : Prop := z_Ct E l M d 0 0 av G I sz (fun v' G' I' sz' => ∃ x, v' = some (.int x) ∧ G' = G ∧ sz' = sz ∧ P x I')
/-- it answers nothing; the memory is changed -/
def z_CV (E : zE) (l : Launch) (M : zM) (d : Nat) (av : List Value) (G : zG) (I : zI) (sz : Nat) (P : zI → Prop) : Prop := z_Ct E l M d 0 0 av G I sz (fun v' G' I' sz' => v' = none ∧ G' = G ∧ sz' = sz ∧ P I')
section ZLIB
variable {E : zE} {l : Launch} {y : MethodName} {cc : ByteArray} {nL : Nat} {ret : Option FieldType} {hh : List (Nat × Nat × Nat × Nat)} {d mc ms : Nat} {Q : zQ} {k n : Nat} {G : zG} {I : zI} {sz pc pc' : Nat} {lv : List (Option Value)} {st : List Value}
variable {y1 : MethodName} {cc1 : ByteArray} {nL1 : Nat} {ret1 : Option FieldType} {hh1 : List (Nat × Nat × Nat × Nat)} {d1 na idx b ci N : Nat} {As stk : List Value} {f : (Nat → Int32) → va_E} {T : u_T} {fs : List Value} {v : Value} {P : Int32 → zI → Prop} {P0 : zI → Prop} {host : String}
theorem v_cVR (hC : z_CR E l (y1, cc1, nL1, ret1, hh1) d1 (.ref b :: As) G I sz v) (hd : decode cc pc = .ok (.invokevirtual idx, 3)) (hl : Cond.methodLink y.cls idx y1 ∈ gw) (hm : z_mw y1 cc1 nL1 ret1 na) (hi : z_mi y1) (hx : (b, f) ∈ G) (hf : f (I b) = .inr (ci, fs)) (hc : vwCl[ci]? = some (y1.cls, T, N)) (hst : stk = As.reverse ++ .ref b :: st) (hna : As.length = na) (hd1 : d1 + 1 ≤ d) (hcat : (st.map fun v => v.category).sum ≤ 8) (hp : pc + 3 = pc') (h : z_V E l (y, cc, nL, ret, hh) (z_rm d mc ms) mc ms Q k n G I sz pc' lv (v :: st)) (hk9 : k ≤ mc := by decide) (hn9 : n ≤ ms := by decide) : z_V E l (y, cc, nL, ret, hh) (z_rm d mc ms) mc ms Q k n G I sz pc lv stk := v_callV hC hd hl hm hi hx hf hc hst hna hd1 ⟨hk9, hn9⟩ hcat hp (fun v' G' I' sz' q => by obtain ⟨rfl, rfl, rfl, rfl⟩ := q; exact h)
theorem v_cSR (hC : z_CR E l (y1, cc1, nL1, ret1, hh1) d1 As G I sz v) (hd : decode cc pc = .ok (.invokestatic idx, 3)) (hl : Cond.methodLink y.cls idx y1 ∈ gw) (hm : z_mw y1 cc1 nL1 ret1 na) (hi : Cond.static y1 ∈ gw) (hst : stk = As.reverse ++ st) (hna : As.length = na) (hd1 : d1 + 1 ≤ d) (hcat : (st.map fun v => v.category).sum ≤ 8) (hp : pc + 3 = pc') (h : z_V E l (y, cc, nL, ret, hh) (z_rm d mc ms) mc ms Q k n G I sz pc' lv (v :: st)) (hk9 : k ≤ mc := by decide) (hn9 : n ≤ ms := by decide) : z_V E l (y, cc, nL, ret, hh) (z_rm d mc ms) mc ms Q k n G I sz pc lv stk := v_callS hC hd hl hm hi hst hna hd1 ⟨hk9, hn9⟩ hcat hp (fun v' G' I' sz' q => by obtain ⟨rfl, rfl, rfl, rfl⟩ := q; exact h)
theorem v_cSNR (hC : z_CR E l (y1, cc1, nL1, ret1, hh1) d1 As G I sz v) (hd : decode cc pc = .ok (.invokestatic idx, 3)) (hl : Cond.methodLinkNest y.cls idx y1 host ∈ z_nst) (hm : z_mw y1 cc1 nL1 ret1 na) (hi : Cond.static y1 ∈ gw) (hst : stk = As.reverse ++ st) (hna : As.length = na) (hd1 : d1 + 1 ≤ d) (hcat : (st.map fun v => v.category).sum ≤ 8) (hp : pc + 3 = pc') (h : z_V E l (y, cc, nL, ret, hh) (z_rm d mc ms) mc ms Q k n G I sz pc' lv (v :: st)) (hk9 : k ≤ mc := by decide) (hn9 : n ≤ ms := by decide) : z_V E l (y, cc, nL, ret, hh) (z_rm d mc ms) mc ms Q k n G I sz pc lv stk := v_callSN hC hd hl hm hi hst hna hd1 ⟨hk9, hn9⟩ hcat hp (fun v' G' I' sz' q => by obtain ⟨rfl, rfl, rfl, rfl⟩ := q; exact h)
theorem v_cVI (hC : z_CI E l (y1, cc1, nL1, ret1, hh1) d1 (.ref b :: As) G I sz P) (hd : decode cc pc = .ok (.invokevirtual idx, 3)) (hl : Cond.methodLink y.cls idx y1 ∈ gw) (hm : z_mw y1 cc1 nL1 ret1 na) (hi : z_mi y1) (hx : (b, f) ∈ G) (hf : f (I b) = .inr (ci, fs)) (hc : vwCl[ci]? = some (y1.cls, T, N)) (hst : stk = As.reverse ++ .ref b :: st) (hna : As.length = na) (hd1 : d1 + 1 ≤ d) (hcat : (st.map fun v => v.category).sum ≤ 8) (hp : pc + 3 = pc') (h : ∀ x I', P x I' → z_V E l (y, cc, nL, ret, hh) (z_rm d mc ms) mc ms Q k n G I' sz pc' lv (.int x :: st)) (hk9 : k ≤ mc := by decide) (hn9 : n ≤ ms := by decide) : z_V E l (y, cc, nL, ret, hh) (z_rm d mc ms) mc ms Q k n G I sz pc lv stk := v_callV hC hd hl hm hi hx hf hc hst hna hd1 ⟨hk9, hn9⟩ hcat hp (fun v' G' I' sz' q => by obtain ⟨x, rfl, rfl, rfl, q9⟩ := q; exact h x _ q9)
theorem v_cSI (hC : z_CI E l (y1, cc1, nL1, ret1, hh1) d1 As G I sz P) (hd : decode cc pc = .ok (.invokestatic idx, 3)) (hl : Cond.methodLink y.cls idx y1 ∈ gw) (hm : z_mw y1 cc1 nL1 ret1 na) (hi : Cond.static y1 ∈ gw) (hst : stk = As.reverse ++ st) (hna : As.length = na) (hd1 : d1 + 1 ≤ d) (hcat : (st.map fun v => v.category).sum ≤ 8) (hp : pc + 3 = pc') (h : ∀ x I', P x I' → z_V E l (y, cc, nL, ret, hh) (z_rm d mc ms) mc ms Q k n G I' sz pc' lv (.int x :: st)) (hk9 : k ≤ mc := by decide) (hn9 : n ≤ ms := by decide) : z_V E l (y, cc, nL, ret, hh) (z_rm d mc ms) mc ms Q k n G I sz pc lv stk := v_callS hC hd hl hm hi hst hna hd1 ⟨hk9, hn9⟩ hcat hp (fun v' G' I' sz' q => by obtain ⟨x, rfl, rfl, rfl, q9⟩ := q; exact h x _ q9)
theorem v_cSNI (hC : z_CI E l (y1, cc1, nL1, ret1, hh1) d1 As G I sz P) (hd : decode cc pc = .ok (.invokestatic idx, 3)) (hl : Cond.methodLinkNest y.cls idx y1 host ∈ z_nst) (hm : z_mw y1 cc1 nL1 ret1 na) (hi : Cond.static y1 ∈ gw) (hst : stk = As.reverse ++ st) (hna : As.length = na) (hd1 : d1 + 1 ≤ d) (hcat : (st.map fun v => v.category).sum ≤ 8) (hp : pc + 3 = pc') (h : ∀ x I', P x I' → z_V E l (y, cc, nL, ret, hh) (z_rm d mc ms) mc ms Q k n G I' sz pc' lv (.int x :: st)) (hk9 : k ≤ mc := by decide) (hn9 : n ≤ ms := by decide) : z_V E l (y, cc, nL, ret, hh) (z_rm d mc ms) mc ms Q k n G I sz pc lv stk := v_callSN hC hd hl hm hi hst hna hd1 ⟨hk9, hn9⟩ hcat hp (fun v' G' I' sz' q => by obtain ⟨x, rfl, rfl, rfl, q9⟩ := q; exact h x _ q9)
theorem v_cVV (hC : z_CV E l (y1, cc1, nL1, ret1, hh1) d1 (.ref b :: As) G I sz P0) (hd : decode cc pc = .ok (.invokevirtual idx, 3)) (hl : Cond.methodLink y.cls idx y1 ∈ gw) (hm : z_mw y1 cc1 nL1 ret1 na) (hi : z_mi y1) (hx : (b, f) ∈ G) (hf : f (I b) = .inr (ci, fs)) (hc : vwCl[ci]? = some (y1.cls, T, N)) (hst : stk = As.reverse ++ .ref b :: st) (hna : As.length = na) (hd1 : d1 + 1 ≤ d) (hcat : (st.map fun v => v.category).sum ≤ 8) (hp : pc + 3 = pc') (h : ∀ I', P0 I' → z_V E l (y, cc, nL, ret, hh) (z_rm d mc ms) mc ms Q k n G I' sz pc' lv st) (hk9 : k ≤ mc := by decide) (hn9 : n ≤ ms := by decide) : z_V E l (y, cc, nL, ret, hh) (z_rm d mc ms) mc ms Q k n G I sz pc lv stk := v_callV hC hd hl hm hi hx hf hc hst hna hd1 ⟨hk9, hn9⟩ hcat hp (fun v' G' I' sz' q => by obtain ⟨rfl, rfl, rfl, q9⟩ := q; exact h _ q9)
theorem v_cSV (hC : z_CV E l (y1, cc1, nL1, ret1, hh1) d1 As G I sz P0) (hd : decode cc pc = .ok (.invokestatic idx, 3)) (hl : Cond.methodLink y.cls idx y1 ∈ gw) (hm : z_mw y1 cc1 nL1 ret1 na) (hi : Cond.static y1 ∈ gw) (hst : stk = As.reverse ++ st) (hna : As.length = na) (hd1 : d1 + 1 ≤ d) (hcat : (st.map fun v => v.category).sum ≤ 8) (hp : pc + 3 = pc') (h : ∀ I', P0 I' → z_V E l (y, cc, nL, ret, hh) (z_rm d mc ms) mc ms Q k n G I' sz pc' lv st) (hk9 : k ≤ mc := by decide) (hn9 : n ≤ ms := by decide) : z_V E l (y, cc, nL, ret, hh) (z_rm d mc ms) mc ms Q k n G I sz pc lv stk := v_callS hC hd hl hm hi hst hna hd1 ⟨hk9, hn9⟩ hcat hp (fun v' G' I' sz' q => by obtain ⟨rfl, rfl, rfl, q9⟩ := q; exact h _ q9)
theorem v_cSNV (hC : z_CV E l (y1, cc1, nL1, ret1, hh1) d1 As G I sz P0) (hd : decode cc pc = .ok (.invokestatic idx, 3)) (hl : Cond.methodLinkNest y.cls idx y1 host ∈ z_nst) (hm : z_mw y1 cc1 nL1 ret1 na) (hi : Cond.static y1 ∈ gw) (hst : stk = As.reverse ++ st) (hna : As.length = na) (hd1 : d1 + 1 ≤ d) (hcat : (st.map fun v => v.category).sum ≤ 8) (hp : pc + 3 = pc') (h : ∀ I', P0 I' → z_V E l (y, cc, nL, ret, hh) (z_rm d mc ms) mc ms Q k n G I' sz pc' lv st) (hk9 : k ≤ mc := by decide) (hn9 : n ≤ ms := by decide) : z_V E l (y, cc, nL, ret, hh) (z_rm d mc ms) mc ms Q k n G I sz pc lv stk := v_callSN hC hd hl hm hi hst hna hd1 ⟨hk9, hn9⟩ hcat hp (fun v' G' I' sz' q => by obtain ⟨rfl, rfl, rfl, q9⟩ := q; exact h _ q9)
end ZLIB
