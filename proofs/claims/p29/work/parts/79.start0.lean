/-! THE STATEMENT's START, told as a world (by wip/p29/gen_start.py out of whole's) -/
theorem stand_less {p : Program} {l : Launch} {e : Env} {R R' : Room} {s : State} {m : MethodId} {args : Array Value} {below : List Frame} {meth : Method} {c : Code} {T : State} {locs : List Loc} {cells slots : Nat} (X : Stand p l e R s m args below meth c T locs cells slots) (h1 : R'.frames ≤ R.frames) (h2 : R'.cells ≤ R.cells) (h3 : R'.slots ≤ R.slots) (h4 : R'.locals ≤ R.locals) : Stand p l e R' s m args below meth c T locs cells slots := by
  refine ⟨X.admits, X.cas, X.clock, X.frames, ?_, X.hears, X.method, X.code, X.here, X.tail, X.warmed, X.limits, X.bytes, X.same⟩
  have h := X.room
  simp only [State.hasRoom, Bool.and_eq_true, decide_eq_true_eq] at h ⊢
  obtain ⟨⟨⟨⟨a1, a2, a3, a4, a5, a6⟩, a7⟩, a8⟩, a9⟩ := h
  exact ⟨⟨⟨⟨by omega, by omega, by omega, by omega, by omega, a6⟩, by omega⟩, by omega⟩, a9⟩
theorem st_arr {args : Array Value} {s : State} {ty : FieldType} (h : (Cond.arrayClass ty).before args s = true) (hp : ∀ C : String, ty ≠ .object C) : ∃ cA : ClassId, ArrOfT s cA ty ∧ va_RA s cA ty := by
  obtain ⟨cA, kA, comp, h1, h2, h3⟩ := Cond.arrayClass_spec h
  refine ⟨cA, fun N z => ⟨(fun k h9 => by cases h9), kA, h2, comp, h3⟩, ?_⟩
  cases ty <;> first | exact h1 | exact absurd rfl (hp _)
theorem st_arrO {args : Array Value} {s : State} {C : String} (h : (Cond.arrayOver (.object C)).before args s = true) : ∃ cA : ClassId, ArrOfT s cA (.object C) ∧ va_RA s cA (.object C) := by
  obtain ⟨comp, cA, kA, h1, -, h3, h4, h5⟩ := Cond.arrayOver_spec h
  exact ⟨cA, fun N z => ⟨(fun k h9 => by cases h9), kA, h3, comp, h4⟩, kA, comp, h3, h4, h1, h5⟩
theorem st_cls {args : Array Value} {s : State} (hts : ∀ w ∈ gw, w.before args s = true) : ∃ D : va_G, ∀ (c : Nat) (q : vw_C), vwCl[c]? = some q → u_Kn s q.1 q.2.1 q.2.2 (D.1 c) (D.2 c) := by
  obtain ⟨c0, i0, k0⟩ := u_known (C := RX0) (T := TX0) (N := 3) (n := 3) hts in_X0 (hts _ ins_X0)
  obtain ⟨c1, i1, k1⟩ := u_known (C := RX1) (T := TX1) (N := 11) (n := 11) hts in_X1 (hts _ ins_X1)
  obtain ⟨c2, i2, k2⟩ := u_known (C := RX2) (T := TX2) (N := 7) (n := 7) hts in_X2 (hts _ ins_X2)
  obtain ⟨c3, i3, k3⟩ := u_known (C := RX3) (T := TX3) (N := 7) (n := 7) hts in_X3 (hts _ ins_X3)
  obtain ⟨c4, i4, k4⟩ := u_known (C := RX4) (T := TX4) (N := 6) (n := 6) hts in_X4 (hts _ ins_X4)
  refine ⟨(fun k => if k = 0 then c0 else if k = 1 then c1 else if k = 2 then c2 else if k = 3 then c3 else c4, fun k => if k = 0 then i0 else if k = 1 then i1 else if k = 2 then i2 else if k = 3 then i3 else i4), ?_⟩
  intro k q hq
  match k, hq with
  | 0, hq => cases Option.some.inj hq; exact k0
  | 1, hq => cases Option.some.inj hq; exact k1
  | 2, hq => cases Option.some.inj hq; exact k2
  | 3, hq => cases Option.some.inj hq; exact k3
  | 4, hq => cases Option.some.inj hq; exact k4
  | k + 5, hq => simp [vwCl] at hq
theorem st_st {args : Array Value} {s : State} {n : String} {f : Nat → Int32} {A : Nat → Prop} (hl : (Cond.laysStatic "StripeTasks" n "[I").before args s = true) (hini : (Cond.initialized "StripeTasks").before args s = true) (h1 : (Cond.arrayOf (.static "StripeTasks" n "[I") .int).before args s = true) (h2 : (Cond.eq (.length (.static "StripeTasks" n "[I")) (.int 3)).before args s = true)
    (e0 : (Cond.eq (.elem (.static "StripeTasks" n "[I") (.int 0)) (.int (f 0))).before args s = true) (e1 : (Cond.eq (.elem (.static "StripeTasks" n "[I") (.int 1)) (.int (f 1))).before args s = true) (e2 : (Cond.eq (.elem (.static "StripeTasks" n "[I") (.int 2)) (.int (f 2))).before args s = true) (hA : ∀ a : Nat, a < s.heap.size → ¬ A a) :
    ∃ t : Nat, va_Z "StripeTasks" n "[I" (.ref t) A s s.heap ∧ va_T .int t 3 (fun j => .int (f j)) A s s.heap := by
  obtain ⟨t, ht, hT⟩ := va_Tof (N := 3) (f := fun j => .int (f j)) (A := A) (by decide) h1 (va_eqt h2) (fun j hj => by
    rcases (by omega : j = 0 ∨ j = 1 ∨ j = 2) with rfl | rfl | rfl
    · exact va_eqt e0
    · exact va_eqt e1
    · exact va_eqt e2) hA
  exact ⟨t, va_Zref hl hini ht hA, hT⟩
theorem st_tb {args : Array Value} {s : State} (hts : ∀ w ∈ lw_tbl, w.before args s = true) {w : Cond} (i : Nat) (h : lw_tbl[i]? = some w) : w.before args s = true := hts w (List.mem_of_getElem? h)
set_option maxRecDepth 20000 in
set_option maxHeartbeats 4000000 in
/-- the world at the law's entry -/
theorem start_E {s : State} {b L : Nat} {xs : Nat → Int32} (hts : ∀ w ∈ lw_tbl, w.before #[Value.ref b] s = true) (hX : va_X b L xs s s.heap) (hbl : b < s.heap.size) (hgv : (Jvm.Cond.and given_1 narrow_1).before #[Value.ref b] s = true) :
    ∃ E : zE, E.2.2.1 = s.heap.size ∧ E.2.2.2.2.1 = b ∧ E.2.2.2.2.2.1 = L ∧ z_U E s ∧ z_St E s s.heap := by
  have hg := flat_of_before _ hgv
  have htg : ∀ w ∈ gw, w.before #[Value.ref b] s = true := fun w hw => hts w ((List.mem_filter.mp hw).1)
  have hA : ∀ a : Nat, a < s.heap.size → ¬ (fun q : Nat => s.heap.size ≤ q) a := fun a h => Nat.not_le.mpr h
  obtain ⟨D, hD⟩ := st_cls htg
  obtain ⟨a0, r0⟩ := st_arr (ty := .int) (htg _ ac_int) (fun C h => by cases h)
  obtain ⟨a1, r1⟩ := st_arr (ty := .boolean) (htg _ ac_boolean) (fun C h => by cases h)
  obtain ⟨a2, r2⟩ := st_arr (ty := .char) (htg _ ac_char) (fun C h => by cases h)
  obtain ⟨a3, r3⟩ := st_arr (ty := .int) (htg _ ac_int) (fun C h => by cases h)
  have ho2 : (Cond.arrayOver (.object RX2)).before #[Value.ref b] s = true := st_tb hts 65 (by decide +kernel)
  have ho1 : (Cond.arrayOver (.object RX1)).before #[Value.ref b] s = true := st_tb hts 166 (by decide +kernel)
  obtain ⟨a4, r4⟩ := st_arrO ho2
  obtain ⟨a5, r5⟩ := st_arrO ho1
  have hini : (Cond.initialized "StripeTasks").before #[Value.ref b] s = true := st_tb hts 6 (by decide +kernel)
  have hiniT : (Cond.initialized Bundle.tN).before #[Value.ref b] s = true := st_tb hts 11 (by decide +kernel)
  obtain ⟨t0, z0⟩ := st_st (n := "FIRST_SETTINGS") (f := z_s0) (A := fun q : Nat => s.heap.size ≤ q) (st_tb hts 111 (by decide +kernel)) hini (hg _ (by decide +kernel)) (hg _ (by decide +kernel)) (hg (.eq (.elem (.static "StripeTasks" "FIRST_SETTINGS" "[I") (.int 0)) (.int 3)) (by decide +kernel)) (hg (.eq (.elem (.static "StripeTasks" "FIRST_SETTINGS" "[I") (.int 1)) (.int 2)) (by decide +kernel)) (hg (.eq (.elem (.static "StripeTasks" "FIRST_SETTINGS" "[I") (.int 2)) (.int 10)) (by decide +kernel)) hA
  obtain ⟨t1, z1⟩ := st_st (n := "LEAST_SETTINGS") (f := z_s1) (A := fun q : Nat => s.heap.size ≤ q) (st_tb hts 625 (by decide +kernel)) hini (hg _ (by decide +kernel)) (hg _ (by decide +kernel)) (hg (.eq (.elem (.static "StripeTasks" "LEAST_SETTINGS" "[I") (.int 0)) (.int 1)) (by decide +kernel)) (hg (.eq (.elem (.static "StripeTasks" "LEAST_SETTINGS" "[I") (.int 1)) (.int 0)) (by decide +kernel)) (hg (.eq (.elem (.static "StripeTasks" "LEAST_SETTINGS" "[I") (.int 2)) (.int 1)) (by decide +kernel)) hA
  obtain ⟨t2, z2⟩ := st_st (n := "MOST_SETTINGS") (f := z_s2) (A := fun q : Nat => s.heap.size ≤ q) (st_tb hts 627 (by decide +kernel)) hini (hg _ (by decide +kernel)) (hg _ (by decide +kernel)) (hg (.eq (.elem (.static "StripeTasks" "MOST_SETTINGS" "[I") (.int 0)) (.int 9)) (by decide +kernel)) (hg (.eq (.elem (.static "StripeTasks" "MOST_SETTINGS" "[I") (.int 1)) (.int 20)) (by decide +kernel)) (hg (.eq (.elem (.static "StripeTasks" "MOST_SETTINGS" "[I") (.int 2)) (.int 99)) (by decide +kernel)) hA
  have q1 : vx_Zq Bundle.tN "UNASSIGNED_STACK" Bundle.steD (fun q : Nat => s.heap.size ≤ q) s s.heap := vx_Zqof (st_tb hts 240 (by decide +kernel)) hiniT (hg _ (by decide +kernel)) hA
  have q2 : vx_Zq Bundle.tN "SUPPRESSED_SENTINEL" Bundle.listD (fun q : Nat => s.heap.size ≤ q) s s.heap := vx_Zqof (st_tb hts 242 (by decide +kernel)) hiniT (hg _ (by decide +kernel)) hA
  have n0 : va_Nc "java/lang/IllegalStateException" "java/lang/IllegalArgumentException" s := va_Nc.of (hg _ (by decide +kernel))
  have n1 : va_Nc "java/lang/IndexOutOfBoundsException" "java/lang/IllegalArgumentException" s := va_Nc.of (hg _ (by decide +kernel))
  have n2 : va_Nc "java/lang/IllegalArgumentException" "java/lang/IllegalStateException" s := va_Nc.of (hg _ (by decide +kernel))
  have n3 : va_Nc "java/lang/IndexOutOfBoundsException" "java/lang/IllegalStateException" s := va_Nc.of (hg _ (by decide +kernel))
  have n4 : va_Nc "java/lang/IllegalArgumentException" "java/lang/IndexOutOfBoundsException" s := va_Nc.of (hg _ (by decide +kernel))
  have n5 : va_Nc "java/lang/IllegalStateException" "java/lang/IndexOutOfBoundsException" s := va_Nc.of (hg _ (by decide +kernel))
  refine ⟨(D, fun k => if k = 0 then a0 else if k = 1 then a1 else if k = 2 then a2 else if k = 3 then a3 else if k = 4 then a4 else a5, s.heap.size, fun k => if k = 0 then t0 else if k = 1 then t1 else t2, b, L, xs), rfl, rfl, rfl, ⟨⟨hD, ?_⟩, ?_, ⟨va_AO.of ho2, va_AO.of ho1⟩, ?_⟩, z0, z1, z2, q1, q2, hX, Nat.not_le.mpr hbl⟩
  · intro k q hq
    match k, hq with
    | 0, hq => cases Option.some.inj hq; exact r0
    | 1, hq => cases Option.some.inj hq; exact r1
    | 2, hq => cases Option.some.inj hq; exact r2
    | 3, hq => cases Option.some.inj hq; exact r3
    | 4, hq => cases Option.some.inj hq; exact r4
    | 5, hq => cases Option.some.inj hq; exact r5
    | k + 6, hq => simp [z_tys] at hq
  · exact fun w hw => va_Nw.of (z_nw_ont hw) (hts w ((List.mem_filter.mp hw).1))
  · intro q hq
    simp only [z_ncs, List.mem_cons, List.not_mem_nil, or_false] at hq
    rcases hq with rfl | rfl | rfl | rfl | rfl | rfl
    · exact n0
    · exact n1
    · exact n2
    · exact n3
    · exact n4
    · exact n5
