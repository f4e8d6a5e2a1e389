/-! THROWS, their catching, statics, fields that a constructor sets once, stores into rows of references; and what the tables say, counted out -/
/-- q of class X is thrown in the method at pc -/
def z_VX (E : zE) (l : Launch) (M : zM) (R : Room) (mc ms : Nat) (Q : zQ) (k n : Nat) (G : zG) (I : zI) (sz : Nat) (X : String) (pc : Nat) (lv : List (Option Value)) (st : List Value) : Prop :=
  ∀ (p : Program) (e : Env) (s : State) (m : MethodId) (args : Array Value) (below : List Frame) (meth : Method) (c : Code), z_C E M p l s m args meth c →
  ∀ (H : Heap) (locs : List Loc) (ls : Array Slot) (q : Addr) (ce : Cell), z_W E G I sz H → va_S (z_A E) s.heap H locs → z_L ls M.2.2.1 lv → H[q]? = some ce → ce.vm = .none → s.vm.findClass X = some ce.cls →
    vx_W p l e R s m args below meth c H locs k n (vx_MQ below (z_Qc E Q) (z_Xc E Q) args s mc ms (z_A E)) (F0 m pc ls st) q
section ZTHROW
variable {E : zE} {l : Launch} {y : MethodName} {cc : ByteArray} {nL : Nat} {ret : Option FieldType} {hh : List (Nat × Nat × Nat × Nat)} {d mc ms : Nat} {Q : zQ} {k n : Nat} {G : zG} {I : zI} {sz pc pc' : Nat} {lv : List (Option Value)} {st : List Value} {av : List Value} {R : Room}
variable {y1 : MethodName} {cc1 : ByteArray} {nL1 : Nat} {ret1 : Option FieldType} {hh1 : List (Nat × Nat × Nat × Nat)} {d1 mc1 ms1 na idx b ci N : Nat} {As stk : List Value} {f : (Nat → Int32) → va_E} {T : u_T} {fs : List Value}
theorem v_catch {X : String} (pre : List ExceptionTableEntry) (x : ExceptionTableEntry) (suf : List ExceptionTableEntry) (hsplit : tableOf hh = pre ++ x :: suf) (hpass : ∀ z ∈ pre, covers z pc = false ∨ (z.catchType ≠ 0 ∧ ∃ nm : String, Cond.classLink y.cls z.catchType nm ∈ gw ∧ (X, nm) ∈ z_ncs)) (hcov : covers x pc = true) (h0 : x.catchType ≠ 0) (hlk : Cond.classLink y.cls x.catchType X ∈ gw) (hcast : Cond.castable X X ∈ z_nst)
    (h : ∀ q : Nat, z_V E l (y, cc, nL, ret, hh) R mc ms Q k n G I sz x.handlerPc lv [.ref q]) : z_VX E l (y, cc, nL, ret, hh) R mc ms Q k n G I sz X pc lv st := by
  intro p e s m args below meth c C0 H locs ls q ce hW hS hL hce hcv hcl
  obtain ⟨hx0, hb, hr, hml, hown, hts, hlk0, hnm, het, hU, ⟨hb0, hst0⟩, htr⟩ := id C0
  exact vx_catch hown pre x suf (het.trans hsplit) (fun z hz => (hpass z hz).elim Or.inl (fun ⟨g1, nm, g2, g3⟩ => Or.inr ⟨g1, nm, hts _ g2, hU.2.2.2 _ g3⟩)) hcov h0 (hts _ hlk) (va_Nw.use (z_nw_ont hcast) (hU.2.1 _ hcast)) hce hcv hcl (h q p e s m args below meth c C0 H locs ls hW hS hL)
theorem v_callVX {Q1 : zQ} (hC : z_Cx E l (y1, cc1, nL1, ret1, hh1) d1 mc1 ms1 (.ref b :: As) G I sz Q1) (hd : decode cc pc = .ok (.invokevirtual idx, 3)) (hl : Cond.methodLink y.cls idx y1 ∈ gw) (hm : z_mw y1 cc1 nL1 ret1 na) (hi : z_mi y1) (hx : (b, f) ∈ G) (hf : f (I b) = .inr (ci, fs)) (hc : vwCl[ci]? = some (y1.cls, T, N))
    (hst : stk = As.reverse ++ .ref b :: st) (hna : As.length = na) (hd1 : d1 + 1 ≤ d) (hcap : k + mc1 ≤ mc ∧ n + ms1 ≤ ms) (hcat : (st.map fun v => v.category).sum ≤ 8) (hp : pc + 3 = pc')
    (h : ∀ v G' I' sz', Q1 (.inl v) G' I' sz' → z_V E l (y, cc, nL, ret, hh) (z_rm d mc ms) mc ms Q (k + mc1) (n + ms1) G' I' sz' pc' lv (v.toList ++ st))
    (hX : ∀ X G' I' sz', Q1 (.inr X) G' I' sz' → z_VX E l (y, cc, nL, ret, hh) (z_rm d mc ms) mc ms Q (k + mc1) (n + ms1) G' I' sz' X pc lv st) : z_V E l (y, cc, nL, ret, hh) (z_rm d mc ms) mc ms Q k n G I sz pc lv stk := by
  subst hp
  intro p e s m args below meth c C0 H locs ls hW hS hL
  obtain ⟨hx0, hb, hr, hml, hown, hts, hlk, hnm, het, hU, ⟨hb0, hst0⟩, htr⟩ := id C0
  obtain ⟨hm1, hm2, hm3, hm4⟩ := hm
  have hGI : GoodIn gw (wsV y.cls idx y1.cls y1 (z_cw (y1, cc1, nL1, ret1, hh1) :: gw)) := fun w hw => by
    rcases List.mem_append.mp hw with hw | hw
    · simp only [List.mem_cons, List.not_mem_nil, or_false] at hw
      rcases hw with rfl | rfl | rfl | rfl
      · exact gw_good _ hl
      · exact gw_good _ hi.1
      · exact gw_good _ hi.2
      · exact gw_good _ hm1
    · exact gw_cons hm2 w hw
  have hr9 := vx_runV (below := below) (meth := meth) (R := z_rm d mc ms) (cells := k) (slots := n) (locs := locs) (e := e) (As := As) (rest := st) (g := F0 m pc ls stk) ⟨hx0, hb, hml, hown, hts⟩ hC (cwV (R := z_rm d mc ms) (own := y.cls) (C := y1.cls) (index := idx) na hts hGI rfl rfl rfl ⟨rfl, hm3⟩ (z_room hd1 hm4)) ⟨z_Pc_blind, va_recv hU.1 (z_P1 hW hx hf) (q0 := 0) hc rfl, z_pre hU hb0 hst0 hW hS _⟩ rfl hna hL.1 hst (z_cat hcat) hd hcap
  intro T0 hT X
  rcases hr9 T0 hT X with ⟨v, st₀, t, T', L, h0, X', hL9, e1, e2, ⟨⟨v', G', I', sz', hv, hq, hw⟩, hF⟩, stp⟩ | ⟨q, st₀, t, T', L, E9, ce, h0, X', hL9, e1, e2, ⟨⟨G', I', sz', hq, hw⟩, hF⟩, hce, hcv, hcl, stp⟩
  · cases hv
    obtain ⟨k1, k2, k3⟩ := vx_keep h0 e1 hS (fun q _ h => h) (fun q h => h) hL9 hF
    obtain ⟨t2, a1, b1⟩ := h v G' I' sz' hq p e s m args below meth c C0 T'.heap (locs ++ L) ls (by rw [e1]; exact hw) k3 hL T' rfl X'
    exact ⟨t2, stp t2 a1, b1⟩
  · obtain ⟨k1, k2, k3⟩ := vx_keep h0 e1 hS (fun q _ h => h) (fun q h => h) hL9 hF
    obtain ⟨t2, a1, b1⟩ := hX E9 G' I' sz' hq p e s m args below meth c C0 T'.heap (locs ++ L) ls q ce (by rw [e1]; exact hw) k3 hL (by rw [e1]; exact hce) hcv hcl T' rfl X'
    exact ⟨t2, stp.trans a1, b1⟩
/-- a static method with handlers of its own -/
theorem v_callSW {Q1 : Option Value → zG → zI → Nat → Prop} (hC : z_Cw E l (y1, cc1, nL1, ret1, hh1) d1 mc1 ms1 As G I sz Q1) (hd : decode cc pc = .ok (.invokestatic idx, 3)) (hl : Cond.methodLink y.cls idx y1 ∈ gw) (hini : Cond.initialized y1.cls ∈ gw) (hco : Cond.codeWith y1 cc1 nL1 ret1 hh1 ∈ gw) (hm : (y1.cls ≠ "java/lang/invoke/MethodHandle" ∧ y1.cls ≠ "java/lang/invoke/VarHandle" ∧ (parseMethodDescriptor y1.desc).map (fun d => d.parameters.length) = some na) ∧ nL1 ≤ 19) (hi : Cond.static y1 ∈ gw)
    (hst : stk = As.reverse ++ st) (hna : As.length = na) (hd1 : d1 + 1 ≤ d) (hcap : k + mc1 ≤ mc ∧ n + ms1 ≤ ms) (hcat : (st.map fun v => v.category).sum ≤ 8) (hp : pc + 3 = pc')
    (h : ∀ v G' I' sz', Q1 v G' I' sz' → z_V E l (y, cc, nL, ret, hh) (z_rm d mc ms) mc ms Q (k + mc1) (n + ms1) G' I' sz' pc' lv (v.toList ++ st)) : z_V E l (y, cc, nL, ret, hh) (z_rm d mc ms) mc ms Q k n G I sz pc lv stk := by
  subst hp
  intro p e s m args below meth c C0 H locs ls hW hS hL
  obtain ⟨hx0, hb, hr, hml, hown, hts, hlk, hnm, het, hU, ⟨hb0, hst0⟩, htr⟩ := id C0
  have hGI : GoodIn gw (va_wsS y.cls idx y1 (z_cwW (y1, cc1, nL1, ret1, hh1) :: gw)) := fun w hw => by
    rcases List.mem_append.mp hw with hw | hw
    · simp only [List.mem_cons, List.not_mem_nil, or_false] at hw
      rcases hw with rfl | rfl | rfl
      · exact gw_good _ hl
      · exact gw_good _ hi
      · exact gw_good _ hini
    · exact gw_cons hco w hw
  refine z_run (vx_runSW (As := As) (rest := st) (g := F0 m pc ls stk) ⟨hx0, hb, hml, hown, hts⟩ hC (vx_cwSW (R := z_rm d mc ms) (own := y.cls) (index := idx) na hts hGI rfl rfl rfl hm.1 (z_room hd1 hm.2)) ⟨z_Pc_blind, z_pre hU hb0 hst0 hW hS _⟩ rfl hna hL.1 hst (z_cat hcat) hd hcap) hS ?_
  exact fun v G' I' sz' H1 locs1 hq hw hs => h v G' I' sz' hq p e s m args below meth c C0 H1 locs1 ls hw hs hL
/-- 'throw new X()' -/
theorem v_throw0 {X : String} {names : List String} {ik ic : Nat} (hd : decode cc pc = .ok (.new ik, 3)) (d3 : decode cc (pc + 3) = .ok (.dup, 1)) (d4 : decode cc (pc + 4) = .ok (.invokespecial ic, 3)) (d7 : decode cc (pc + 7) = .ok (.athrow, 1)) (hcls : Bundle.fit X = true) (hnames : ∀ z ∈ names, Bundle.fit z = true) (hk9 : Cond.classLink y.cls ik X ∈ gw) (hini : Cond.initialized X ∈ gw) (hat : ∀ w ∈ vx_at0 y.cls ic X names, w ∈ gw ∨ w ∈ z_nst) (hgood : ∀ w ∈ Cond.classLink y.cls ik X :: Cond.initialized X :: vx_at0 y.cls ic X names, vx_ot w = true)
    (hh0 : hh = []) (hfr : names.length + 3 < d) (hlo : (st.map fun v => v.category).sum + (13 * (names.length + 1) + 42) ≤ 38 * d) (hcap : k + 1 ≤ mc ∧ n + 6 ≤ ms) (hQ : ∀ sz', sz ≤ sz' → Q (.inr X) G I sz') : z_V E l (y, cc, nL, ret, hh) (z_rm d mc ms) mc ms Q k n G I sz pc lv st := by
  intro p e s m args below meth c C0 H locs ls hW hS hL
  obtain ⟨hx0, hb, hr, hml, hown, hts, hlk, hnm, het, hU, ⟨hb0, hst0⟩, htr⟩ := id C0
  subst hh0
  have hw9 : ∀ w ∈ vx_at0 y.cls ic X names, w.before args s = true := fun w hw => (hat w hw).elim (hts w) (fun g => va_Nw.use (z_nw_ont g) (hU.2.1 w g))
  refine vx_throw0 (R := z_rm d mc ms) hx0 hb htr hown hcls hnames (hts _ hk9) (hts _ hini) hw9 hgood hst0.2.2.2.1 hst0.2.2.2.2.1 hS (hL.1.trans hml.symm) hd d3 d4 d7 (fun x hx => by rw [het] at hx; cases hx) hfr hlo hcap.1 hcap.2 hlk ?_ hS.2.2 hcap.1 hcap.2
  intro t ht h1 h2
  refine ⟨⟨G, I, t.heap.size, hQ _ (by rw [← hW.1]; exact h1), rfl, Nat.le_trans hW.2.1 (by rw [← hW.1]; exact h1), fun x hx => ⟨(hW.2.2.1 x hx).1.kept (h2 _ (hW.2.2.1 x hx).1.lt), (hW.2.2.1 x hx).2⟩, hW.2.2.2⟩, Nat.le_trans hS.1 h1, fun q g1 g2 => (h2 q (Nat.lt_of_lt_of_le g1 hS.1)).trans (hS.2.1 q g1 g2)⟩
/-- statics -/
theorem v_gets {nm : String} {a : Nat} {g : Nat → Int32} (hd : decode cc pc = .ok (.getstatic idx, 3)) (hl : Cond.fieldLink y.cls idx "StripeTasks" nm "[I" ∈ gw) (hz : ∀ U H, z_St E U H → z_sa nm a g E U H) (hp : pc + 3 = pc')
    (h : z_V E l (y, cc, nL, ret, hh) R mc ms Q k n G I sz pc' lv (.ref a :: st)) : z_V E l (y, cc, nL, ret, hh) R mc ms Q k n G I sz pc lv st := by
  subst hp
  intro p e s m args below meth c C0 H locs ls hW hS hL
  obtain ⟨hx0, hb, hr, hml, hown, hts, hlk, hnm, het, hU, ⟨hb0, hst0⟩, htr⟩ := id C0
  exact va_gets hx0 hb (hz _ _ hst0).1 hS hown (hts _ hl) (fun _ h9 => h9) hd (h p e s m args below meth c C0 H locs ls hW hS hL)
theorem v_getsN {nm host : String} {a : Nat} {g : Nat → Int32} (hd : decode cc pc = .ok (.getstatic idx, 3)) (hl : Cond.fieldLinkNest y.cls idx "StripeTasks" nm "[I" host ∈ z_nst) (hz : ∀ U H, z_St E U H → z_sa nm a g E U H) (hp : pc + 3 = pc')
    (h : z_V E l (y, cc, nL, ret, hh) R mc ms Q k n G I sz pc' lv (.ref a :: st)) : z_V E l (y, cc, nL, ret, hh) R mc ms Q k n G I sz pc lv st := by
  subst hp
  intro p e s m args below meth c C0 H locs ls hW hS hL
  obtain ⟨hx0, hb, hr, hml, hown, hts, hlk, hnm, het, hU, ⟨hb0, hst0⟩, htr⟩ := id C0
  exact va_getsN hx0 hb (hz _ _ hst0).1 hS hown (va_Nw.use (z_nw_ont hl) (hU.2.1 _ hl)) (fun _ h9 => h9) hd (h p e s m args below meth c C0 H locs ls hW hS hL)
theorem v_sald {nm : String} {a j : Nat} {i : Int32} {g : Nat → Int32} (hd : decode cc pc = .ok (.iaload, 1)) (hz : ∀ U H, z_St E U H → z_sa nm a g E U H) (hi : i = nI j) (hj : j < 3) (hp : pc + 1 = pc')
    (h : z_V E l (y, cc, nL, ret, hh) R mc ms Q k n G I sz pc' lv (.int (g j) :: st)) : z_V E l (y, cc, nL, ret, hh) R mc ms Q k n G I sz pc lv (.int i :: .ref a :: st) := by
  subst hp
  intro p e s m args below meth c C0 H locs ls hW hS hL
  obtain ⟨hx0, hb, hr, hml, hown, hts, hlk, hnm, het, hU, ⟨hb0, hst0⟩, htr⟩ := id C0
  have hq := z_idx hi hj (by decide : 3 < 2 ^ 31)
  exact va_ti hx0 hb (hz _ _ hst0).2 hS hq.1 (by rw [hq.2]) hd (h p e s m args below meth c C0 H locs ls hW hS hL)
/-- the script that the law reads -/
theorem v_slen (hd : decode cc pc = .ok (.arraylength, 1)) (hp : pc + 1 = pc') (h : z_V E l (y, cc, nL, ret, hh) R mc ms Q k n G I sz pc' lv (.int (nI E.2.2.2.2.2.1) :: st)) : z_V E l (y, cc, nL, ret, hh) R mc ms Q k n G I sz pc lv (.ref E.2.2.2.2.1 :: st) := by
  subst hp
  intro p e s m args below meth c C0 H locs ls hW hS hL
  obtain ⟨hx0, hb, hr, hml, hown, hts, hlk, hnm, het, hU, ⟨hb0, hst0⟩, htr⟩ := id C0
  obtain ⟨g1, g2⟩ := hst0.2.2.2.2.2
  have hl : E.2.2.2.2.1 < s.heap.size := by
    obtain ⟨scr, e1, -⟩ := g1
    exact (Array.getElem?_eq_some_iff.mp e1).1
  exact va_slen hx0 hb g1 hl g2 hS hd (h p e s m args below meth c C0 H locs ls hW hS hL)
theorem v_sld {j : Nat} {i : Int32} (hd : decode cc pc = .ok (.iaload, 1)) (hi : i = nI j) (hj : j < E.2.2.2.2.2.1) (hN : E.2.2.2.2.2.1 < 2 ^ 31) (hp : pc + 1 = pc') (h : z_V E l (y, cc, nL, ret, hh) R mc ms Q k n G I sz pc' lv (.int (E.2.2.2.2.2.2 j) :: st)) : z_V E l (y, cc, nL, ret, hh) R mc ms Q k n G I sz pc lv (.int i :: .ref E.2.2.2.2.1 :: st) := by
  subst hp
  intro p e s m args below meth c C0 H locs ls hW hS hL
  obtain ⟨hx0, hb, hr, hml, hown, hts, hlk, hnm, het, hU, ⟨hb0, hst0⟩, htr⟩ := id C0
  obtain ⟨g1, g2⟩ := hst0.2.2.2.2.2
  have hl : E.2.2.2.2.1 < s.heap.size := by
    obtain ⟨scr, e1, -⟩ := g1
    exact (Array.getElem?_eq_some_iff.mp e1).1
  have hq := z_idx hi hj hN
  refine va_sld hx0 hb g1 hl g2 hS hq.1 hd ?_
  rw [hq.2]
  exact h p e s m args below meth c C0 H locs ls hW hS hL
/-- a constructor sets a final field: the cell is told anew -/
theorem v_putF {pre suf : zG} {a kf : Nat} {f f' : (Nat → Int32) → va_E} {C : String} {x : Value} {ty : FieldType} (hd : decode cc pc = .ok (.putfield idx, 3)) (hf : f (I a) = .inr (ci, fs)) (hc : vwCl[ci]? = some (C, T, N)) (hin : ∀ w ∈ u_ws C T N, w ∈ gw) (ty0 : Nat → FieldType) (hty : ∀ k, k < N → parseFieldDescriptor (T k).2.2.1 = some (ty0 k)) (hnm9 : ∀ a, a < N → ∀ b, b < N → a ≠ b → (T a).2.1 ≠ (T b).2.1) (hk : kf < N) (hl : Cond.fieldLink y.cls idx (T kf).1 (T kf).2.1 (T kf).2.2.1 ∈ gw) (hfin : (T kf).2.2.2 = true) (hin2 : y.name = "<init>") (hdecl : (T kf).1 = y.cls)
    (hdsc : parseFieldDescriptor (T kf).2.2.1 = some ty) (hn : narrow ty x = x) (hfit : fits ty x = true) (hlen : kf < fs.length) (hf' : f' (I a) = .inr (ci, fs.set kf x)) (hp : pc + 3 = pc')
    (h : z_V E l (y, cc, nL, ret, hh) R mc ms Q k n (pre ++ (a, f') :: suf) I sz pc' lv st) : z_V E l (y, cc, nL, ret, hh) R mc ms Q k n (pre ++ (a, f) :: suf) I sz pc lv (x :: .ref a :: st) := by
  subst hp
  intro p e s m args below meth c C0 H locs ls hW hS hL
  obtain ⟨hx0, hb, hr, hml, hown, hts, hlk, hnm, het, hU, hb0, hst0⟩ := id C0
  have hx : (a, f) ∈ pre ++ (a, f) :: suf := by simp
  have hap := va_apart (own := y.cls) hts hin ty0 hty hnm9 hU.1 hc
  have hA := hW.2.2.1 _ hx
  obtain ⟨r, h1, cell, q1, q2, q3, q4⟩ := z_P1 hW hx hf 0 _ rfl
  have hr : r = (C, T, N) := Option.some.inj (h1.symm.trans hc)
  subst hr
  obtain ⟨hSl, hfc, kC, hkC, hkind⟩ := hU.1.1 ci _ hc
  obtain ⟨cf, kf9, fi, fl, hi, hsl⟩ := hSl kf hk
  have hlay := hts _ (hin _ (u_in_lay hk))
  unfold u_lay at hlay
  rw [if_pos hfin] at hlay
  have hst := (u_facts hfc hkC (u_lays hts hin hk) hi).1
  have hcf : m.cls = cf := by
    obtain ⟨_, _, c', _, _, _, -, -, hf9, -, -, -, hown2, -⟩ := Cond.laysFinal_spec hlay
    have e1 : c' = cf := by have := hi.symm.trans hf9; simp at this; exact this.1.symm
    rw [hdecl] at hown2
    rw [← e1]; exact Option.some.inj (hown.symm.trans hown2)
  have h6 := u_fits hfc hkC hkind (Or.inr hlay) hi hdsc hn hfit
  refine W.putFinK hx0 hb hown (hts _ hl) hi hst hcf (hnm.trans hin2) (by rw [q2]; exact h6) q1 q3 (by rw [hsl]; exact k2_hasslot (q4 kf hk)) rfl rfl hd fun H' e1 e2 e3 => ?_
  rw [hsl] at e1 ⊢
  refine h p e s m args below meth c C0 H' _ ls (hW.putG ?_ (fun _ _ => rfl) e2 e3) (hS.put e2 e3 hA.2) hL
  rw [hf']
  exact ⟨_, hc, t_OB.to (V := updV (vp_V fs) kf x) ⟨_, e1, q2, q3, t_set q4 hap hk x⟩ (fun j _ => vp_updV_set hlen x j)⟩
theorem v_aast {pre suf : zG} {a v t j N1 : Nat} {i : Int32} {g : Nat → Option Nat} {fv : (Nat → Int32) → va_E} {r : vw_C} {vs : List Value} (hd : decode cc pc = .ok (.aastore, 1)) (ht : (z_tys E)[t]? = some (E.2.1 t, .object r.1)) (hi : i = nI j) (hj : j < N1) (hN : N1 < 2 ^ 31) (hv : (v, fv) ∈ pre ++ (a, sN E t N1 g) :: suf) (hfv : fv (I v) = .inr (ci, vs)) (hc : vwCl[ci]? = some r) (hp : pc + 1 = pc')
    (h : z_V E l (y, cc, nL, ret, hh) R mc ms Q k n (pre ++ (a, sN E t N1 (va_up g j (some v))) :: suf) I sz pc' lv st) : z_V E l (y, cc, nL, ret, hh) R mc ms Q k n (pre ++ (a, sN E t N1 g) :: suf) I sz pc lv (.ref v :: .int i :: .ref a :: st) := by
  subst hp
  intro p e s m args below meth c C0 H locs ls hW hS hL
  obtain ⟨hx0, hb, hr, hml, hown, hts, hlk, hnm, het, hU, hb0, hst0⟩ := id C0
  have hx : (a, sN E t N1 g) ∈ pre ++ (a, sN E t N1 g) :: suf := by simp
  have hq := z_idx hi hj hN
  have hP := z_P1 hW hx rfl
  obtain ⟨r', hr', cellV, g1, g2, g3, -⟩ := z_P1 hW hv hfv 0 _ rfl
  have hcls := (hU.1.1 ci r hc).2
  obtain ⟨kA, comp, k1, k2, k3, -⟩ := (hU.1.2 t _ ht).2
  have hcomp : comp = E.1.1 ci := Option.some.inj (k3.symm.trans hcls.1)
  subst hcomp
  obtain ⟨kC, hkC, -⟩ := hcls.2
  refine W.aast hx0 hb (hP 0 _ rfl) (fun q h => by cases h) (fun h => by cases h) k1 k2 rfl hkC ⟨fun q => hq.1 (Or.inl q), by show _ < (arrV _ _ _).slots.size; rw [arrV_size, hq.2]; exact hj⟩ g1 (fun q h => by rw [g3] at h; cases h) (by rw [g2]; exact hkC) (by rw [g2]; exact va_assign hcls) rfl rfl hd fun H1 e1 z oq => ?_
  rw [hq.2] at e1 ⊢
  refine h p e s m args below meth c C0 H1 _ ls (hW.putG ?_ (fun _ _ => rfl) z oq) (hS.put z oq (hW.2.2.1 _ hx).2) hL
  show H1[a]? = some (vp_cell _ _)
  rw [e1]
  rw [vp_cell_q, vp_cell_q, arrV_store]
  congr 2
  funext q
  by_cases hq : q = j
  · subst hq
    simp [updV, va_up, va_rf]
  · simp [updV, va_up, hq]
end ZTHROW
