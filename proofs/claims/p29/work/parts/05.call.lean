/-! CONTRACTS, and the rows of the judgement for calls, ends, new cells, statics and throws -/
def z_Pc (E : zE) (G : zG) (I : zI) (sz : Nat) (av : List Value) : Array Value → State → Prop := va_Pc av (fun U => z_W E G I sz U.heap ∧ z_U E U ∧ (E.2.2.1 ≤ U.heap.size ∧ z_St E U U.heap))
theorem z_Pc_blind {E : zE} {G : zG} {I : zI} {sz : Nat} {av : List Value} : FrameBlind (z_Pc E G I sz av) := fun a U g mk q => ⟨q.1, q.2.1, z_U.same (u := U) (U := U.calling g mk a) rfl q.2.2.1, q.2.2.2.1, z_St.step (u := U) (U := U.calling g mk a) (Vm.Alike.refl U.vm) (fun _ _ _ => rfl) q.2.2.2.2⟩
/-- a method that throws nothing -/
def z_q (Q : Option Value → zG → zI → Nat → Prop) : zQ := fun o G I sz => match o with
  | .inl v => Q v G I sz
  | .inr _ => False
def z_cw (M : zM) : Cond := .code M.1 M.2.1 M.2.2.1 M.2.2.2.1
/-- a CONTRACT: called with these arguments in this world it answers as Q says -/
def z_Ct (E : zE) (l : Launch) (M : zM) (d mc ms : Nat) (av : List Value) (G : zG) (I : zI) (sz : Nat) (Q : Option Value → zG → zI → Nat → Prop) : Prop := Met l M.1 (z_cw M :: gw) (z_rm d mc ms) (z_Pc E G I sz av) (z_Qc E (z_q Q)) mc ms (z_A E)
/-- .. or throws -/
def z_Cx (E : zE) (l : Launch) (M : zM) (d mc ms : Nat) (av : List Value) (G : zG) (I : zI) (sz : Nat) (Q : zQ) : Prop := vx_Met l M.1 (z_cw M :: gw) (z_rm d mc ms) (z_Pc E G I sz av) (z_Qc E Q) (z_Xc E Q) mc ms (z_A E)
def z_cwW (M : zM) : Cond := .codeWith M.1 M.2.1 M.2.2.1 M.2.2.2.1 M.2.2.2.2
/-- a method with handlers of its own, that throws nothing -/
def z_Cw (E : zE) (l : Launch) (M : zM) (d mc ms : Nat) (av : List Value) (G : zG) (I : zI) (sz : Nat) (Q : Option Value → zG → zI → Nat → Prop) : Prop := Met l M.1 (z_cwW M :: gw) (z_rm d mc ms) (z_Pc E G I sz av) (z_Qc E (z_q Q)) mc ms (z_A E)
theorem z_body {E : zE} {p : Program} {l : Launch} {y : MethodName} {cc : ByteArray} {nL : Nat} {ret : Option FieldType} {hh : List (Nat × Nat × Nat × Nat)} {w0 : Cond} {rm : Room} {e : Env} {s : State} {m : MethodId} {args : Array Value} {below : List Frame} {meth : Method} {c : Code} {s₁ : State} {mc ms : Nat} {Q : zQ} {av : List Value} {G : zG} {I : zI} {sz : Nat} {lv : List (Option Value)}
    (B : BodyLoose p l y (headSpec (w0 :: gw) rm) cc nL ret e s m args below meth c s₁) (hml : c.maxLocals = nL) (het : c.exceptionTable.toList = tableOf hh) (hPc : z_Pc E G I sz av args s) (hl : l.stackTraces = false) (hlv : z_pr 0 lv = lv_args 0 av) (hlen : (lg_sl av).length ≤ nL)
    (h : z_V E l (y, cc, nL, ret, hh) rm mc ms Q 0 0 G I sz 0 lv []) : W p l e (headSpec (w0 :: gw) rm).room s m args below meth c s.heap [] 0 0 (vx_MQ below (z_Qc E Q) (z_Xc E Q) args s mc ms (z_A E)) (entryFrame m args nL) := by
  obtain ⟨rfl, hW, hU, hb0, hst⟩ := hPc
  have hts := atoms_spec (ws := w0 :: gw) B.pre
  have hlh := lv_entry av (n := nL) hlen
  rw [lg_entry_eq]
  exact h p e s m _ below meth c ⟨B.exec, B.bytes, B.returns, hml, findClass_of_methodNamed B.named, fun w hw => hts w (List.mem_cons_of_mem _ hw), B.notSynchronized, (name_of_methodNamed B.named B.method).1, het, hU, ⟨hb0, hst⟩, hl⟩ s.heap [] _ hW va_S.rf ⟨hlh.1, hlh.2.1, by rw [hlv]; exact hlh.2.2⟩
theorem z_noX {below : List Frame} {E : zE} {Q : Option Value → zG → zI → Nat → Prop} {args : Array Value} {s t : State} {mc ms : Nat} (h : vx_MQ below (z_Qc E (z_q Q)) (z_Xc E (z_q Q)) args s mc ms (z_A E) t) : MQ below (z_Qc E (z_q Q)) args s mc ms (z_A E) t := by
  obtain ⟨o, h1, h2, h3⟩ := h
  rcases h3 with h3 | ⟨q, -, X, ce, L, ⟨⟨G, I, sz, hq, -⟩, -⟩, -⟩
  · exact ⟨o, h1, h2, h3.1, h3.2⟩
  · exact hq.elim
section ZCALL
variable {E : zE} {l : Launch} {y : MethodName} {cc : ByteArray} {nL : Nat} {ret : Option FieldType} {hh : List (Nat × Nat × Nat × Nat)} {d mc ms : Nat} {Q : zQ} {k n : Nat} {G : zG} {I : zI} {sz pc pc' : Nat} {lv : List (Option Value)} {st : List Value} {av : List Value}
theorem z_Ct.of {Q : Option Value → zG → zI → Nat → Prop} (hl : l.stackTraces = false) (hy : plainName y.cls = true) (lv : List (Option Value)) (hlv : z_pr 0 lv = lv_args 0 av) (hlen : (lg_sl av).length ≤ nL) (h : z_V E l (y, cc, nL, ret, []) (z_rm d mc ms) mc ms (z_q Q) 0 0 G I sz 0 lv []) : z_Ct E l (y, cc, nL, ret, []) d mc ms av G I sz Q := by
  refine Met.ofW (cc := cc) (maxL := nL) (ret := ret) hy rfl ?_
  intro p e s m args below meth c s₁ B hml hv
  have ht : c.exceptionTable.toList = tableOf [] := by
    obtain ⟨meth9, c9, h1, h2, -, -, -, -, h7, -⟩ := Cond.code_spec B.named (atoms_spec (ws := z_cw (y, cc, nL, ret, []) :: gw) B.pre _ List.mem_cons_self)
    cases Option.some.inj (h1.symm.trans B.method)
    cases Option.some.inj (h2.symm.trans (Stand.of_body B).code)
    rw [Array.isEmpty_iff.mp h7]
    rfl
  intro T hT X
  obtain ⟨t, a1, b1⟩ := z_body B hml ht hv hl hlv hlen h T hT X
  exact ⟨t, a1, z_noX b1⟩
theorem z_Cx.of {Q : zQ} (hl : l.stackTraces = false) (hy : plainName y.cls = true) (lv : List (Option Value)) (hlv : z_pr 0 lv = lv_args 0 av) (hlen : (lg_sl av).length ≤ nL) (h : z_V E l (y, cc, nL, ret, []) (z_rm d mc ms) mc ms Q 0 0 G I sz 0 lv []) : z_Cx E l (y, cc, nL, ret, []) d mc ms av G I sz Q := by
  refine vx_ofW (cc := cc) (maxL := nL) (ret := ret) hy rfl ?_
  intro p e s m args below meth c s₁ B hml ht hv
  refine z_body B hml ?_ hv hl hlv hlen h
  cases hc : c.exceptionTable.toList with
  | nil => rfl
  | cons x r => exact (ht x (by rw [hc]; exact List.mem_cons_self)).elim
theorem z_Cw.of {Q : Option Value → zG → zI → Nat → Prop} (hl : l.stackTraces = false) (hy : plainName y.cls = true) (lv : List (Option Value)) (hlv : z_pr 0 lv = lv_args 0 av) (hlen : (lg_sl av).length ≤ nL) (h : z_V E l (y, cc, nL, ret, hh) (z_rm d mc ms) mc ms (z_q Q) 0 0 G I sz 0 lv []) : z_Cw E l (y, cc, nL, ret, hh) d mc ms av G I sz Q := by
  have h9 : vx_Met l y (z_cwW (y, cc, nL, ret, hh) :: gw) (z_rm d mc ms) (z_Pc E G I sz av) (z_Qc E (z_q Q)) (z_Xc E (z_q Q)) mc ms (z_A E) := by
    refine vx_ofWH (cc := cc) (maxL := nL) (ret := ret) (hh := hh) hy rfl ?_
    intro p e s m args below meth c s₁ B hml hv
    exact z_body B hml (vx_table (x := y) B (atoms_spec (ws := z_cwW (y, cc, nL, ret, hh) :: gw) B.pre _ List.mem_cons_self)) hv hl hlv hlen h
  intro p e ha hc hk s m args below hf happ hp hk9
  obtain ⟨k9, o, g1, g2, g3, g4⟩ := h9 p e ha hc hk s m args below hf happ hp hk9
  refine ⟨k9, o, g1, g2, g3, ?_⟩
  rcases g4 with g4 | ⟨q, -, X, ce, L, ⟨⟨G, I, sz, hq, -⟩, -⟩, -⟩
  · exact g4
  · exact hq.elim
/-- ends -/
theorem v_iret {R : Room} {x : Int32} (hd : decode cc pc = .ok (.ireturn, 1)) (hr9 : ret = some .int) (hk : k ≤ mc) (hn : n ≤ ms) (hQ : Q (.inl (some (.int x))) G I sz) : z_V E l (y, cc, nL, ret, hh) R mc ms Q k n G I sz pc lv [.int x] := by
  intro p e s m args below meth c C0 H locs ls hW hS hL
  obtain ⟨hx0, hb, hr, hml, hown, hts, hlk, hnm, het, hU, hb0, hst⟩ := id C0
  exact W.widen hk hn (vx_ret (W.iret (v := x) hx0 hb (hr.trans hr9) (fun t ht hWm => ⟨⟨_, G, I, sz, rfl, hQ, by rw [ht]; exact hW⟩, hS.F ht⟩) hS.2.2 hd (hlocks := hlk)))
theorem v_zret {R : Room} {x : Int32} (hd : decode cc pc = .ok (.ireturn, 1)) (hr9 : ret = some .boolean) (hk : k ≤ mc) (hn : n ≤ ms) (hv : narrow .boolean (.int x) = .int x) (hQ : Q (.inl (some (.int x))) G I sz) : z_V E l (y, cc, nL, ret, hh) R mc ms Q k n G I sz pc lv [.int x] := by
  intro p e s m args below meth c C0 H locs ls hW hS hL
  obtain ⟨hx0, hb, hr, hml, hown, hts, hlk, hnm, het, hU, hb0, hst⟩ := id C0
  exact W.widen hk hn (vx_ret (W.zret (v := x) hx0 hb (hr.trans hr9) hv (fun t ht hWm => ⟨⟨_, G, I, sz, rfl, hQ, by rw [ht]; exact hW⟩, hS.F ht⟩) hS.2.2 hd (hlocks := hlk)))
theorem v_lret {R : Room} {x : Int64} (hd : decode cc pc = .ok (.lreturn, 1)) (hr9 : ret = some .long) (hk : k ≤ mc) (hn : n ≤ ms) (hQ : Q (.inl (some (.long x))) G I sz) : z_V E l (y, cc, nL, ret, hh) R mc ms Q k n G I sz pc lv [.long x] := by
  intro p e s m args below meth c C0 H locs ls hW hS hL
  obtain ⟨hx0, hb, hr, hml, hown, hts, hlk, hnm, het, hU, hb0, hst⟩ := id C0
  exact W.widen hk hn (vx_ret (W.lret (v := x) hx0 hb (hr.trans hr9) (fun t ht hWm => ⟨⟨_, G, I, sz, rfl, hQ, by rw [ht]; exact hW⟩, hS.F ht⟩) hS.2.2 hd (hlocks := hlk)))
theorem v_vret {R : Room} (hd : decode cc pc = .ok (.return_, 1)) (hr9 : ret = none) (hk : k ≤ mc) (hn : n ≤ ms) (hQ : Q (.inl none) G I sz) : z_V E l (y, cc, nL, ret, hh) R mc ms Q k n G I sz pc lv [] := by
  intro p e s m args below meth c C0 H locs ls hW hS hL
  obtain ⟨hx0, hb, hr, hml, hown, hts, hlk, hnm, het, hU, hb0, hst⟩ := id C0
  exact W.widen hk hn (vx_ret (W.vret hx0 hb (hr.trans hr9) (fun t ht hWm => ⟨⟨_, G, I, sz, rfl, hQ, by rw [ht]; exact hW⟩, hS.F ht⟩) hS.2.2 hd (hlocks := hlk)))
theorem v_aret {R : Room} {v : Value} {Cn : String} (hd : decode cc pc = .ok (.areturn, 1)) (hr9 : ret = some (.object Cn)) (hk : k ≤ mc) (hn : n ≤ ms) (hv : v = .null ∨ ∃ a, v = .ref a) (hQ : Q (.inl (some v)) G I sz) : z_V E l (y, cc, nL, ret, hh) R mc ms Q k n G I sz pc lv [v] := by
  intro p e s m args below meth c C0 H locs ls hW hS hL
  obtain ⟨hx0, hb, hr, hml, hown, hts, hlk, hnm, het, hU, hb0, hst⟩ := id C0
  exact W.widen hk hn (vx_ret (W.aret (v := v) hx0 hb (hr.trans hr9) (Or.inl ⟨_, rfl⟩) hv (fun t ht hWm => ⟨⟨_, G, I, sz, rfl, hQ, by rw [ht]; exact hW⟩, hS.F ht⟩) hS.2.2 hd (hlocks := hlk)))
theorem v_widen {R : Room} {k1 n1 : Nat} (hk : k ≤ k1) (hn : n ≤ n1) (h : z_V E l (y, cc, nL, ret, hh) R mc ms Q k1 n1 G I sz pc lv st) : z_V E l (y, cc, nL, ret, hh) R mc ms Q k n G I sz pc lv st := fun p e s m args below meth c C0 H locs ls hW hS hL => W.widen hk hn (h p e s m args below meth c C0 H locs ls hW hS hL)
/-- fewer locals are known -/
theorem v_lv {R : Room} {lv' : List (Option Value)} (hs : ∀ (j : Nat) (v : Value), lv'[j]? = some (some v) → lv[j]? = some (some v)) (h : z_V E l (y, cc, nL, ret, hh) R mc ms Q k n G I sz pc lv' st) : z_V E l (y, cc, nL, ret, hh) R mc ms Q k n G I sz pc lv st := fun p e s m args below meth c C0 H locs ls hW hS hL => h p e s m args below meth c C0 H locs ls hW hS (hL.nil hs)
theorem z_run {p : Program} {e : Env} {R : Room} {s : State} {m : MethodId} {args a : Array Value} {below : List Frame} {meth : Method} {c : Code} {H : Heap} {locs : List Loc} {ls : Array Slot} {stk : List Value} {mc1 ms1 : Nat} {Qf : State → Prop} {Q1 : Option Value → zG → zI → Nat → Prop}
    (hr : va_Run p l e R s m args below meth c H locs k n mc1 ms1 (F0 m pc ls stk) st (z_Qc E (z_q Q1) a) (z_A E)) (hS : va_S (z_A E) s.heap H locs)
    (kk : ∀ v G' I' sz' H1 locs1, Q1 v G' I' sz' → z_W E G' I' sz' H1 → va_S (z_A E) s.heap H1 locs1 → W p l e R s m args below meth c H1 locs1 (k + mc1) (n + ms1) Qf (F0 m (pc + 3) ls (v.toList ++ st))) : W p l e R s m args below meth c H locs k n Qf (F0 m pc ls stk) := by
  intro T hT X
  obtain ⟨v, st₀, t, T', L, h0, X', hL, e1, e2, ⟨⟨v', G', I', sz', hv, hq, hw⟩, hF⟩, stp⟩ := hr T hT X
  cases hv
  obtain ⟨k1, k2, k3⟩ := vx_keep h0 e1 hS (fun q _ h => h) (fun q h => h) hL hF
  obtain ⟨t2, a1, b1⟩ := kk v G' I' sz' T'.heap (locs ++ L) hq (by rw [e1]; exact hw) k3 T' rfl X'
  exact ⟨t2, stp t2 a1, b1⟩
theorem z_pre {s : State} {H : Heap} {locs : List Loc} (hU : z_U E s) (hb0 : E.2.2.1 ≤ s.heap.size) (hst : z_St E s s.heap) (hW : z_W E G I sz H) (hS : va_S (z_A E) s.heap H locs) (av : List Value) : ∀ U : State, U.heap = H → s.WarmedH U.vm → z_Pc E G I sz av av.toArray U :=
  fun U hU9 hWm => ⟨rfl, by rw [hU9]; exact hW, hU.warm hWm, by rw [hU9]; exact Nat.le_trans hb0 hS.1, by rw [hU9]; exact hst.step hWm.alike hS.2.1⟩
/-- what the tables say of a method that is called: by an object, or static -/
def z_mw (y1 : MethodName) (cc1 : ByteArray) (nL1 : Nat) (ret1 : Option FieldType) (na : Nat) : Prop := Cond.initialized y1.cls ∈ gw ∧ Cond.code y1 cc1 nL1 ret1 ∈ gw ∧ (y1.cls ≠ "java/lang/invoke/MethodHandle" ∧ y1.cls ≠ "java/lang/invoke/VarHandle" ∧ (parseMethodDescriptor y1.desc).map (fun d => d.parameters.length) = some na) ∧ nL1 ≤ 19
def z_mi (y1 : MethodName) : Prop := Cond.instanceMethod y1 ∈ gw ∧ Cond.selects y1.cls y1 y1 ∈ gw
theorem z_room {d1 d nL1 mc1 ms1 : Nat} (h1 : d1 + 1 ≤ d) (h2 : nL1 ≤ 19) : (z_rm d1 mc1 ms1).frames + 1 ≤ (z_rm d mc ms).frames ∧ 8 + (nL1 + 11) + (z_rm d1 mc1 ms1).locals ≤ (z_rm d mc ms).locals := by
  simp only [z_rm]
  exact ⟨h1, by omega⟩
theorem z_cat {pc : Nat} {m : MethodId} {ls : Array Slot} {stk : List Value} (h : (st.map fun v => v.category).sum ≤ 8) : 2 * (F0 m pc ls stk).monitorRoom + (st.map fun v => v.category).sum ≤ 8 := lv_room h
variable {y1 : MethodName} {cc1 : ByteArray} {nL1 : Nat} {ret1 : Option FieldType} {hh1 : List (Nat × Nat × Nat × Nat)} {d1 mc1 ms1 na idx b ci N : Nat} {As stk : List Value} {f : (Nat → Int32) → va_E} {T : u_T} {fs : List Value}
theorem v_callV {Q1 : Option Value → zG → zI → Nat → Prop} (hC : z_Ct E l (y1, cc1, nL1, ret1, hh1) d1 mc1 ms1 (.ref b :: As) G I sz Q1) (hd : decode cc pc = .ok (.invokevirtual idx, 3)) (hl : Cond.methodLink y.cls idx y1 ∈ gw) (hm : z_mw y1 cc1 nL1 ret1 na) (hi : z_mi y1) (hx : (b, f) ∈ G) (hf : f (I b) = .inr (ci, fs)) (hc : vwCl[ci]? = some (y1.cls, T, N))
    (hst : stk = As.reverse ++ .ref b :: st) (hna : As.length = na) (hd1 : d1 + 1 ≤ d) (hcap : k + mc1 ≤ mc ∧ n + ms1 ≤ ms) (hcat : (st.map fun v => v.category).sum ≤ 8) (hp : pc + 3 = pc')
    (h : ∀ v G' I' sz', Q1 v G' I' sz' → z_V E l (y, cc, nL, ret, hh) (z_rm d mc ms) mc ms Q (k + mc1) (n + ms1) G' I' sz' pc' lv (v.toList ++ st)) : z_V E l (y, cc, nL, ret, hh) (z_rm d mc ms) mc ms Q k n G I sz pc lv stk := by
  subst hp
  intro p e s m args below meth c C0 H locs ls hW hS hL
  obtain ⟨hx0, hb, hr, hml, hown, hts, hlk, hnm, het, hU, ⟨hb0, hst0⟩, htr⟩ := id C0
  obtain ⟨hm1, hm2, hm3, hm4⟩ := hm
  have hGI : GoodIn gw (wsV y.cls idx y1.cls y1 (z_cw (y1, cc1, nL1, ret1, hh1) :: gw)) := fun w hw => by
    rcases List.mem_append.mp hw with hw | hw
    · simp only [List.mem_cons, List.not_mem_nil, or_false] at hw
      rcases hw with rfl | rfl | rfl | rfl
      · exact gw_good _ hl
      · exact gw_good _ hi.1
      · exact gw_good _ hi.2
      · exact gw_good _ hm1
    · exact gw_cons hm2 w hw
  refine z_run (va_runV (As := As) (rest := st) (g := F0 m pc ls stk) ⟨hx0, hb, hml, hown, hts⟩ hC (cwV (R := z_rm d mc ms) (own := y.cls) (C := y1.cls) (index := idx) na hts hGI rfl rfl rfl ⟨rfl, hm3⟩ (z_room hd1 hm4)) ⟨z_Pc_blind, va_recv hU.1 (z_P1 hW hx hf) (q0 := 0) hc rfl, z_pre hU hb0 hst0 hW hS _⟩ rfl hna hL.1 hst (z_cat hcat) hd hcap) hS ?_
  exact fun v G' I' sz' H1 locs1 hq hw hs => h v G' I' sz' hq p e s m args below meth c C0 H1 locs1 ls hw hs hL
theorem v_callS {Q1 : Option Value → zG → zI → Nat → Prop} (hC : z_Ct E l (y1, cc1, nL1, ret1, hh1) d1 mc1 ms1 As G I sz Q1) (hd : decode cc pc = .ok (.invokestatic idx, 3)) (hl : Cond.methodLink y.cls idx y1 ∈ gw) (hm : z_mw y1 cc1 nL1 ret1 na) (hi : Cond.static y1 ∈ gw)
    (hst : stk = As.reverse ++ st) (hna : As.length = na) (hd1 : d1 + 1 ≤ d) (hcap : k + mc1 ≤ mc ∧ n + ms1 ≤ ms) (hcat : (st.map fun v => v.category).sum ≤ 8) (hp : pc + 3 = pc')
    (h : ∀ v G' I' sz', Q1 v G' I' sz' → z_V E l (y, cc, nL, ret, hh) (z_rm d mc ms) mc ms Q (k + mc1) (n + ms1) G' I' sz' pc' lv (v.toList ++ st)) : z_V E l (y, cc, nL, ret, hh) (z_rm d mc ms) mc ms Q k n G I sz pc lv stk := by
  subst hp
  intro p e s m args below meth c C0 H locs ls hW hS hL
  obtain ⟨hx0, hb, hr, hml, hown, hts, hlk, hnm, het, hU, ⟨hb0, hst0⟩, htr⟩ := id C0
  obtain ⟨hm1, hm2, hm3, hm4⟩ := hm
  have hGI : GoodIn gw (va_wsS y.cls idx y1 (z_cw (y1, cc1, nL1, ret1, hh1) :: gw)) := fun w hw => by
    rcases List.mem_append.mp hw with hw | hw
    · simp only [List.mem_cons, List.not_mem_nil, or_false] at hw
      rcases hw with rfl | rfl | rfl
      · exact gw_good _ hl
      · exact gw_good _ hi
      · exact gw_good _ hm1
    · exact gw_cons hm2 w hw
  refine z_run (va_runS (As := As) (rest := st) (g := F0 m pc ls stk) ⟨hx0, hb, hml, hown, hts⟩ hC (va_cwS (R := z_rm d mc ms) (own := y.cls) (index := idx) na hts hGI rfl rfl rfl hm3 (z_room hd1 hm4)) ⟨z_Pc_blind, z_pre hU hb0 hst0 hW hS _⟩ rfl hna hL.1 hst (z_cat hcat) hd hcap) hS ?_
  exact fun v G' I' sz' H1 locs1 hq hw hs => h v G' I' sz' hq p e s m args below meth c C0 H1 locs1 ls hw hs hL
theorem v_callSN {host : String} {Q1 : Option Value → zG → zI → Nat → Prop} (hC : z_Ct E l (y1, cc1, nL1, ret1, hh1) d1 mc1 ms1 As G I sz Q1) (hd : decode cc pc = .ok (.invokestatic idx, 3)) (hl : Cond.methodLinkNest y.cls idx y1 host ∈ z_nst) (hm : z_mw y1 cc1 nL1 ret1 na) (hi : Cond.static y1 ∈ gw)
    (hst : stk = As.reverse ++ st) (hna : As.length = na) (hd1 : d1 + 1 ≤ d) (hcap : k + mc1 ≤ mc ∧ n + ms1 ≤ ms) (hcat : (st.map fun v => v.category).sum ≤ 8) (hp : pc + 3 = pc')
    (h : ∀ v G' I' sz', Q1 v G' I' sz' → z_V E l (y, cc, nL, ret, hh) (z_rm d mc ms) mc ms Q (k + mc1) (n + ms1) G' I' sz' pc' lv (v.toList ++ st)) : z_V E l (y, cc, nL, ret, hh) (z_rm d mc ms) mc ms Q k n G I sz pc lv stk := by
  subst hp
  intro p e s m args below meth c C0 H locs ls hW hS hL
  obtain ⟨hx0, hb, hr, hml, hown, hts, hlk, hnm, het, hU, ⟨hb0, hst0⟩, htr⟩ := id C0
  obtain ⟨hm1, hm2, hm3, hm4⟩ := hm
  refine z_run (va_runSN (As := As) (rest := st) (g := F0 m pc ls stk) ⟨hx0, hb, hml, hown, hts⟩ hC ⟨va_cnB (R := z_rm d mc ms) (own := y.cls) (index := idx) na hts (gw_cons hm2) rfl rfl rfl (hU.2.1 _ hl) (hts _ hm1) hm3 (z_room hd1 hm4), hts _ hi, trivial⟩ ⟨z_Pc_blind, z_pre hU hb0 hst0 hW hS _⟩ rfl hna hL.1 hst (z_cat hcat) hd hcap) hS ?_
  exact fun v G' I' sz' H1 locs1 hq hw hs => h v G' I' sz' hq p e s m args below meth c C0 H1 locs1 ls hw hs hL
theorem v_callI {Q1 : Option Value → zG → zI → Nat → Prop} (hC : z_Ct E l (y1, cc1, nL1, none, hh1) d1 mc1 ms1 (.ref b :: As) G I sz Q1) (hd : decode cc pc = .ok (.invokespecial idx, 3)) (hl : Cond.methodLink y.cls idx y1 ∈ gw) (hm : z_mw y1 cc1 nL1 none na) (hi : Cond.instanceMethod y1 ∈ gw) (hin : y1.name = "<init>")
    (hst : stk = As.reverse ++ .ref b :: st) (hna : As.length = na) (hd1 : d1 + 1 ≤ d) (hcap : k + mc1 ≤ mc ∧ n + ms1 ≤ ms) (hcat : (st.map fun v => v.category).sum ≤ 8) (hp : pc + 3 = pc')
    (h : ∀ v G' I' sz', Q1 v G' I' sz' → z_V E l (y, cc, nL, ret, hh) (z_rm d mc ms) mc ms Q (k + mc1) (n + ms1) G' I' sz' pc' lv (v.toList ++ st)) : z_V E l (y, cc, nL, ret, hh) (z_rm d mc ms) mc ms Q k n G I sz pc lv stk := by
  subst hp
  intro p e s m args below meth c C0 H locs ls hW hS hL
  obtain ⟨hx0, hb, hr, hml, hown, hts, hlk, hnm, het, hU, ⟨hb0, hst0⟩, htr⟩ := id C0
  obtain ⟨hm1, hm2, hm3, hm4⟩ := hm
  refine z_run (va_runI (As := As) (rest := st) (g := F0 m pc ls stk) ⟨hx0, hb, hml, hown, hts⟩ hC (cwI (R := z_rm d mc ms) (own := y.cls) (index := idx) na hts (gw_cons hm2) rfl rfl rfl (hts _ hm1) (hts _ hl) (hts _ hi) hin hm3 (z_room hd1 hm4)) ⟨z_Pc_blind, z_pre hU hb0 hst0 hW hS _⟩ rfl hna hL.1 hst (z_cat hcat) hd hcap) hS ?_
  exact fun v G' I' sz' H1 locs1 hq hw hs => h v G' I' sz' hq p e s m args below meth c C0 H1 locs1 ls hw hs hL
theorem v_callIN {host : String} {Q1 : Option Value → zG → zI → Nat → Prop} (hC : z_Ct E l (y1, cc1, nL1, none, hh1) d1 mc1 ms1 (.ref b :: As) G I sz Q1) (hd : decode cc pc = .ok (.invokespecial idx, 3)) (hl : Cond.methodLinkNest y.cls idx y1 host ∈ z_nst) (hm : z_mw y1 cc1 nL1 none na) (hi : Cond.instanceMethod y1 ∈ gw) (hin : y1.name = "<init>")
    (hst : stk = As.reverse ++ .ref b :: st) (hna : As.length = na) (hd1 : d1 + 1 ≤ d) (hcap : k + mc1 ≤ mc ∧ n + ms1 ≤ ms) (hcat : (st.map fun v => v.category).sum ≤ 8) (hp : pc + 3 = pc')
    (h : ∀ v G' I' sz', Q1 v G' I' sz' → z_V E l (y, cc, nL, ret, hh) (z_rm d mc ms) mc ms Q (k + mc1) (n + ms1) G' I' sz' pc' lv (v.toList ++ st)) : z_V E l (y, cc, nL, ret, hh) (z_rm d mc ms) mc ms Q k n G I sz pc lv stk := by
  subst hp
  intro p e s m args below meth c C0 H locs ls hW hS hL
  obtain ⟨hx0, hb, hr, hml, hown, hts, hlk, hnm, het, hU, ⟨hb0, hst0⟩, htr⟩ := id C0
  obtain ⟨hm1, hm2, hm3, hm4⟩ := hm
  refine z_run (va_runIN (As := As) (rest := st) (g := F0 m pc ls stk) ⟨hx0, hb, hml, hown, hts⟩ hC ⟨va_cnB (R := z_rm d mc ms) (own := y.cls) (index := idx) na hts (gw_cons hm2) rfl rfl rfl (hU.2.1 _ hl) (hts _ hm1) hm3 (z_room hd1 hm4), hin, hts _ hi⟩ ⟨z_Pc_blind, z_pre hU hb0 hst0 hW hS _⟩ rfl hna hL.1 hst (z_cat hcat) hd hcap) hS ?_
  exact fun v G' I' sz' H1 locs1 hq hw hs => h v G' I' sz' hq p e s m args below meth c C0 H1 locs1 ls hw hs hL
theorem v_objInit {a : Nat} (hd : decode cc pc = .ok (.invokespecial idx, 3)) (hl : Cond.methodLink y.cls idx Lib.objectInit ∈ gw) (hi : Cond.instanceMethod Lib.objectInit ∈ gw) (hco : Cond.code Lib.objectInit ⟨#[0xb1]⟩ 1 none ∈ gw) (hd1 : 1 ≤ d) (hcat : (st.map fun v => v.category).sum ≤ 8) (hp : pc + 3 = pc')
    (h : z_V E l (y, cc, nL, ret, hh) (z_rm d mc ms) mc ms Q k n G I sz pc' lv st) : z_V E l (y, cc, nL, ret, hh) (z_rm d mc ms) mc ms Q k n G I sz pc lv (.ref a :: st) := by
  subst hp
  intro p e s m args below meth c C0 H locs ls hW hS hL
  obtain ⟨hx0, hb, hr, hml, hown, hts, hlk, hnm, het, hU, ⟨hb0, hst0⟩, htr⟩ := id C0
  refine W.objInit hx0 hb hown (hts _ hl) (hts _ hi) (hts _ hco) rfl (by rw [hml]; exact hL.1) rfl hd hd1 ?_ ?_
  · show 2 * 0 + _ + 12 ≤ 38 * d
    omega
  · exact h p e s m args below meth c C0 H locs ls hW hS hL
/-- new cells -/
theorem v_new {C : String} (hd : decode cc pc = .ok (.new idx, 3)) (f : (Nat → Int32) → va_E) (hcl : Cond.classLink y.cls idx C ∈ gw) (hins : Cond.instantiable C N ∈ gw) (hini : Cond.initialized C ∈ gw) (hin : ∀ w ∈ u_ws C T N, w ∈ gw) (ty : Nat → FieldType) (hty : ∀ k, k < N → parseFieldDescriptor (T k).2.2.1 = some (ty k)) (hc : vwCl[ci]? = some (C, T, N)) (hf : f (fun _ => 0) = .inr (ci, fs)) (hfs : ∀ j, j < N → defaultValue (ty j) = vp_V fs j) (hcap : k + 1 ≤ mc ∧ n + N ≤ ms) (hp : pc + 3 = pc')
    (h : z_V E l (y, cc, nL, ret, hh) (z_rm d mc ms) mc ms Q (k + 1) (n + N) ((sz, f) :: G) (z_ne I sz) (sz + 1) pc' lv (.ref sz :: st)) : z_V E l (y, cc, nL, ret, hh) (z_rm d mc ms) mc ms Q k n G I sz pc lv st := by
  subst hp
  intro p e s m args below meth c C0 H locs ls hW hS hL
  obtain ⟨hx0, hb, hr, hml, hown, hts, hlk, hnm, het, hU, ⟨hb0, hst0⟩, htr⟩ := id C0
  have hKn := hU.1.1 ci _ hc
  refine W.newcK hx0 hb hown (hts _ hcl) (hts _ hins) (hts _ hini) rfl hd hcap.1 hcap.2 hKn.2.1 hW.1 fun H1 kC hkC e1 z1 o1 => ?_
  refine h p e s m args below meth c C0 H1 locs ls (hW.push ?_ z1 o1) ⟨Nat.le_trans hS.1 (by rw [z1, hW.1]; omega), fun q h1 h2 => (o1 q (by rw [← hW.1]; exact Nat.lt_of_lt_of_le h1 hS.1)).trans (hS.2.1 q h1 h2), hS.2.2⟩ hL
  rw [hf]
  exact ⟨_, hc, (u_born ty hts hin hKn hkC e1 hty).to hfs⟩
/-- an array class, by its name -/
theorem z_ra {s : State} {t : Nat} {ty : FieldType} (hU : z_U E s) (ht : (z_tys E)[t]? = some (E.2.1 t, ty)) (hne : ∀ C, ty ≠ .object C) {cA : ClassId} (h : s.vm.findClass ("[" ++ ty.toString) = some cA) : cA = E.2.1 t := by
  have h2 := (hU.1.2 t _ ht).2
  have h3 : s.vm.findClass ("[" ++ ty.toString) = some (E.2.1 t) := by
    cases ty with
    | object C => exact absurd rfl (hne C)
    | _ => exact h2
  exact Option.some.inj (h.symm.trans h3)
theorem v_newa {atype : ArrayType} {ty : FieldType} {z : Int32} {N1 : Nat} (t : Nat) (hd : decode cc pc = .ok (.newarray atype, 2)) (f : (Nat → Int32) → va_E) (a0 : vp_A) (hf : f (fun _ => 0) = .inl (E.2.1 t, a0)) (hty : newarray.typeOf atype = ty) (harr : Cond.arrayClass ty ∈ gw) (ht : (z_tys E)[t]? = some (E.2.1 t, ty)) (hne : ∀ C, ty ≠ .object C) (ha0 : ∀ cA : ClassId, vp_cell cA a0 = arrV cA N1 (fun _ => defaultValue ty)) (hz : ¬ z < 0) (hN : z.toNatClampNeg = N1) (hby : N1 * componentBytes ty ≤ 536870912) (hcap : k + 1 ≤ mc ∧ n + N1 ≤ ms) (hp : pc + 2 = pc')
    (h : z_V E l (y, cc, nL, ret, hh) (z_rm d mc ms) mc ms Q (k + 1) (n + N1) ((sz, f) :: G) (z_ne I sz) (sz + 1) pc' lv (.ref sz :: st)) : z_V E l (y, cc, nL, ret, hh) (z_rm d mc ms) mc ms Q k n G I sz pc lv (.int z :: st) := by
  subst hp
  subst hty
  intro p e s m args below meth c C0 H locs ls hW hS hL
  obtain ⟨hx0, hb, hr, hml, hown, hts, hlk, hnm, het, hU, ⟨hb0, hst0⟩, htr⟩ := id C0
  refine va_newaK hx0 hb (hts _ harr) rfl hd rfl hz hN hby hcap.1 hcap.2 hW.1 fun H1 cA e1 z1 o1 hAr hNm => ?_
  refine h p e s m args below meth c C0 H1 locs ls (hW.push ?_ z1 o1) ⟨Nat.le_trans hS.1 (by rw [z1, hW.1]; omega), fun q h1 h2 => (o1 q (by rw [← hW.1]; exact Nat.lt_of_lt_of_le h1 hS.1)).trans (hS.2.1 q h1 h2), hS.2.2⟩ hL
  rw [hf]
  show H1[sz]? = some (vp_cell _ _)
  rw [ha0, ← z_ra hU ht hne hNm]
  exact e1
/-- a row of references, new: all null -/
def sN (E : zE) (t len : Nat) (g : Nat → Option Nat) : (Nat → Int32) → va_E := fun _ => .inl (E.2.1 t, (len, .inr (.inr (.inr (.inr g)))))
theorem v_newq {Cn : String} {z : Int32} {N1 : Nat} (t : Nat) (hd : decode cc pc = .ok (.anewarray idx, 3)) (hcl : Cond.classLink y.cls idx Cn ∈ gw) (hAO : Cn = RX2 ∨ Cn = RX1) (ht : (z_tys E)[t]? = some (E.2.1 t, .object Cn)) (hz : ¬ z < 0) (hN : z.toNatClampNeg = N1) (hby : N1 * 4 ≤ 536870912) (hcap : k + 1 ≤ mc ∧ n + N1 ≤ ms) (hp : pc + 3 = pc')
    (h : z_V E l (y, cc, nL, ret, hh) (z_rm d mc ms) mc ms Q (k + 1) (n + N1) ((sz, sN E t N1 (fun _ => none)) :: G) (z_ne I sz) (sz + 1) pc' lv (.ref sz :: st)) : z_V E l (y, cc, nL, ret, hh) (z_rm d mc ms) mc ms Q k n G I sz pc lv (.int z :: st) := by
  subst hp
  subst hN
  intro p e s m args below meth c C0 H locs ls hW hS hL
  obtain ⟨hx0, hb, hr, hml, hown, hts, hlk, hnm, het, hU, ⟨hb0, hst0⟩, htr⟩ := id C0
  have hao : va_AO Cn s := by
    rcases hAO with rfl | rfl
    · exact hU.2.2.1.1
    · exact hU.2.2.1.2
  refine W.anew hx0 hb hown (hts _ hcl) (va_AO.use hao) rfl hd rfl hz hby hcap.1 hcap.2 fun cA kA comp f1 f2 f3 f4 => ?_
  rw [show H.size = sz from hW.1]
  generalize hH1 : H.push ({ cls := cA, slots := Array.replicate z.toNatClampNeg .null, vm := .none } : Cell) = H1
  have z1 : H1.size = sz + 1 := by rw [← hH1, Array.size_push, hW.1]
  have e1 : H1[sz]? = some (arrV cA z.toNatClampNeg (fun _ => .null)) := by rw [← hH1, ← hW.1, Array.getElem?_push_size, ← arrV_new]
  have o1 : ∀ q : Nat, q < sz → H1[q]? = H[q]? := fun q hq => by rw [← hH1, Array.getElem?_push, if_neg (by rw [hW.1]; exact Nat.ne_of_lt hq)]
  refine h p e s m args below meth c C0 H1 locs ls (hW.push ?_ z1 o1) ⟨Nat.le_trans hS.1 (by rw [z1, hW.1]; omega), fun q h1 h2 => (o1 q (by rw [← hW.1]; exact Nat.lt_of_lt_of_le h1 hS.1)).trans (hS.2.1 q h1 h2), hS.2.2⟩ hL
  obtain ⟨kA9, comp9, g1, g2, g3, g4⟩ := (hU.1.2 t _ ht).2
  have hcA : cA = E.2.1 t := Option.some.inj (f1.symm.trans g4)
  show H1[sz]? = some (vp_cell _ _)
  rw [← hcA, vp_cell_q]
  exact e1
end ZCALL
