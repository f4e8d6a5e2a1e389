/-! THE MACHINE, SEEN FROM A METHOD: the good words of the tables; the world as a list of cells whose numbers are read from one memory; the judgement z_V of a method's state, and its rows -/
def gw : List Cond := lw_tbl.filter goodWord
theorem gw_at {w : Cond} (i : Nat) (h : lw_tbl[i]? = some w) (g : goodWord w = true) : w ∈ gw := List.mem_filter.mpr ⟨List.mem_of_getElem? h, g⟩
theorem gw_good : ∀ w ∈ gw, w ∈ gw ∧ ((w.onTables && w.keeps) = true ∨ ∃ ty, w = .arrayClass ty) := fun w h => ⟨h, good_of_word (List.mem_filter.mp h).2⟩
theorem gw_cons {w : Cond} (h : w ∈ gw) : GoodIn gw (w :: gw) := fun v hv => (List.mem_cons.mp hv).elim (fun e => by rw [e]; exact gw_good w h) (gw_good v)
def z_isN : Cond → Bool
  | .methodLinkNest .. => true
  | .fieldLinkNest .. => true
  | .castable .. => true
  | .declares .. => true
  | _ => false
def z_nst : List Cond := lw_tbl.filter z_isN
theorem z_nst_at {w : Cond} (i : Nat) (h : lw_tbl[i]? = some w) (g : z_isN w = true) : w ∈ z_nst := List.mem_filter.mpr ⟨List.mem_of_getElem? h, g⟩
/-- a world: its cells, each as a function of its numbers -/
abbrev zG : Type := List (Nat × ((Nat → Int32) → va_E))
abbrev zI : Type := Nat → Nat → Int32
/-- what is fixed for a run: where the tables have the classes and their fields; the array classes; the first new address; the static arrays' addresses; the script: its address, length and numbers -/
abbrev zE : Type := va_G × (Nat → ClassId) × Nat × (Nat → Nat) × Nat × Nat × (Nat → Int32)
def z_A (E : zE) : Nat → Prop := fun q => E.2.2.1 ≤ q
def z_tys (E : zE) : List (ClassId × FieldType) := [(E.2.1 0, .int), (E.2.1 1, .boolean), (E.2.1 2, .char), (E.2.1 3, .int), (E.2.1 4, .object RX2), (E.2.1 5, .object RX1)]
def z_ncs : List (String × String) := [("java/lang/IllegalStateException", "java/lang/IllegalArgumentException"), ("java/lang/IndexOutOfBoundsException", "java/lang/IllegalArgumentException"), ("java/lang/IllegalArgumentException", "java/lang/IllegalStateException"), ("java/lang/IndexOutOfBoundsException", "java/lang/IllegalStateException"), ("java/lang/IllegalArgumentException", "java/lang/IndexOutOfBoundsException"), ("java/lang/IllegalStateException", "java/lang/IndexOutOfBoundsException")]
/-- what the tables say, beyond the good words -/
def z_U (E : zE) (U : State) : Prop := va_K E.1 vwCl (z_tys E) U ∧ (∀ w ∈ z_nst, va_Nw w U) ∧ (va_AO RX2 U ∧ va_AO RX1 U) ∧ ∀ q ∈ z_ncs, va_Nc q.1 q.2 U
def z_s0 (j : Nat) : Int32 := if j = 0 then 3 else if j = 1 then 2 else 10
def z_s1 (j : Nat) : Int32 := if j = 0 then 1 else if j = 1 then 0 else 1
def z_s2 (j : Nat) : Int32 := if j = 0 then 9 else if j = 1 then 20 else 99
def z_sa (n : String) (a : Nat) (f : Nat → Int32) (E : zE) (U : State) (H : Heap) : Prop := va_Z "StripeTasks" n "[I" (.ref a) (z_A E) U H ∧ va_T .int a 3 (fun j => .int (f j)) (z_A E) U H
/-- the script -/
def z_sx (E : zE) (U : State) (H : Heap) : Prop := va_X E.2.2.2.2.1 E.2.2.2.2.2.1 E.2.2.2.2.2.2 U H ∧ ¬ z_A E E.2.2.2.2.1
theorem z_sx.step {E : zE} {u U : State} {H H1 : Heap} (hvm : u.vm.Alike U.vm) (hq : ∀ a : Nat, a < H.size → ¬ z_A E a → H1[a]? = H[a]?) (h : z_sx E u H) : z_sx E U H1 := by
  obtain ⟨h1, h2⟩ := h
  have hl : E.2.2.2.2.1 < H.size := by
    obtain ⟨scr, e1, -⟩ := h1
    exact (Array.getElem?_eq_some_iff.mp e1).1
  exact ⟨(h1.kept (hq _ hl h2)).moved hvm, h2⟩
/-- the statics -/
def z_St (E : zE) (U : State) (H : Heap) : Prop :=
  z_sa "FIRST_SETTINGS" (E.2.2.2.1 0) z_s0 E U H ∧ z_sa "LEAST_SETTINGS" (E.2.2.2.1 1) z_s1 E U H ∧ z_sa "MOST_SETTINGS" (E.2.2.2.1 2) z_s2 E U H ∧
  vx_Zq Bundle.tN "UNASSIGNED_STACK" Bundle.steD (z_A E) U H ∧ vx_Zq Bundle.tN "SUPPRESSED_SENTINEL" Bundle.listD (z_A E) U H ∧ z_sx E U H
theorem z_sa.step {n : String} {a : Nat} {f : Nat → Int32} {E : zE} {u U : State} {H H1 : Heap} (hvm : u.vm.Alike U.vm) (hq : ∀ a : Nat, a < H.size → ¬ z_A E a → H1[a]? = H[a]?) (h : z_sa n a f E u H) : z_sa n a f E U H1 := ⟨va_Z.kept (va_Z.moved hvm h.1) hq, va_T.kept (va_T.moved hvm h.2) hq⟩
theorem z_St.step {E : zE} {u U : State} {H H1 : Heap} (hvm : u.vm.Alike U.vm) (hq : ∀ a : Nat, a < H.size → ¬ z_A E a → H1[a]? = H[a]?) (h : z_St E u H) : z_St E U H1 :=
  ⟨h.1.step hvm hq, h.2.1.step hvm hq, h.2.2.1.step hvm hq, vx_Zq.kept (vx_Zq.moved hvm h.2.2.2.1) hq, vx_Zq.kept (vx_Zq.moved hvm h.2.2.2.2.1) hq, h.2.2.2.2.2.step hvm hq⟩
theorem z_nw_ont {w : Cond} (h : w ∈ z_nst) : w.onTables = true := by
  have h2 := (List.mem_filter.mp h).2
  cases w <;> first | rfl | (simp [z_isN] at h2; done)
theorem z_nw_warm {w : Cond} {s U : State} (hW : s.WarmedH U.vm) (h : w ∈ z_nst) (hz : va_Nw w s) : va_Nw w U := by
  have h2 := (List.mem_filter.mp h).2
  cases w <;> first | exact va_Nw.warmM hW hz | exact va_Nw.warmF hW hz | exact va_Nw.warmC hW hz | exact va_Nw.warmD hW hz | (simp [z_isN] at h2; done)
theorem z_U.warm {E : zE} {s U : State} (hW : s.WarmedH U.vm) (h : z_U E s) : z_U E U :=
  ⟨va_K.moved hW.alike h.1, fun w hw => z_nw_warm hW hw (h.2.1 w hw), ⟨va_AO.moved hW.alike h.2.2.1.1, va_AO.moved hW.alike h.2.2.1.2⟩, fun q hq => va_Nc.moved hW.alike (h.2.2.2 q hq)⟩
theorem z_U.same {E : zE} {u U : State} (e : u.vm = U.vm) (h : z_U E u) : z_U E U := by
  have ha : u.vm.Alike U.vm := e ▸ Vm.Alike.refl u.vm
  exact ⟨va_K.moved ha h.1, fun w hw => va_Nw.same (z_nw_ont hw) e (h.2.1 w hw), ⟨va_AO.moved ha h.2.2.1.1, va_AO.moved ha h.2.2.1.2⟩, fun q hq => va_Nc.moved ha (h.2.2.2 q hq)⟩
/-- the world in the heap -/
def z_W (E : zE) (G : zG) (I : zI) (sz : Nat) (H : Heap) : Prop :=
  H.size = sz ∧ E.2.2.1 ≤ sz ∧ (∀ x ∈ G, va_at E.1 vwCl (x.1, x.2 (I x.1)) H ∧ E.2.2.1 ≤ x.1) ∧ (G.map Prod.fst).Nodup
/-- what a method's end is asked for: an answer, or the class of what it throws -/
abbrev zQ : Type := (Option Value ⊕ String) → zG → zI → Nat → Prop
def z_Qc (E : zE) (Q : zQ) : Array Value → State → Outcome → State → Prop := fun _ st o t => (∃ (v : Option Value) (G : zG) (I : zI) (sz : Nat), o = .returned v ∧ Q (.inl v) G I sz ∧ z_W E G I sz t.heap) ∧ va_F (z_A E) st t
def z_Xc (E : zE) (Q : zQ) : String → State → State → Prop := fun X st t => (∃ (G : zG) (I : zI) (sz : Nat), Q (.inr X) G I sz ∧ z_W E G I sz t.heap) ∧ va_F (z_A E) st t
/-- a method, for its rows: name, code, locals, answer, handlers -/
abbrev zM : Type := MethodName × ByteArray × Nat × Option FieldType × List (Nat × Nat × Nat × Nat)
/-- its room: depth of calls, new cells, their slots -/
def z_rm (d mc ms : Nat) : Room := { frames := d, cells := mc, slots := ms, locals := 38 * d }
def z_C (E : zE) (M : zM) (p : Program) (l : Launch) (s : State) (m : MethodId) (args : Array Value) (meth : Method) (c : Code) : Prop :=
  p.tables.exec = Jvm.exec ∧ c.code = M.2.1 ∧ meth.sig.returnType = M.2.2.2.1 ∧ c.maxLocals = M.2.2.1 ∧ s.vm.findClass M.1.cls = some m.cls ∧ (∀ w ∈ gw, w.before args s = true) ∧ meth.locks = false ∧ meth.name = M.1.name ∧ c.exceptionTable.toList = tableOf M.2.2.2.2 ∧ z_U E s ∧ (E.2.2.1 ≤ s.heap.size ∧ z_St E s s.heap) ∧ l.stackTraces = false
def z_pr : Nat → List (Option Value) → List (Nat × Value)
  | _, [] => []
  | i, none :: r => z_pr (i + 1) r
  | i, some v :: r => (i, v) :: z_pr (i + 1) r
def z_L (ls : Array Slot) (nL : Nat) (lv : List (Option Value)) : Prop := lv_has ls nL (z_pr 0 lv)
/-- THE JUDGEMENT: from this state (world G, memory I, the next address sz, at pc with locals lv and operands st) the method comes to an end that Q allows -/
def z_V (E : zE) (l : Launch) (M : zM) (R : Room) (mc ms : Nat) (Q : zQ) (k n : Nat) (G : zG) (I : zI) (sz : Nat) (pc : Nat) (lv : List (Option Value)) (st : List Value) : Prop :=
  ∀ (p : Program) (e : Env) (s : State) (m : MethodId) (args : Array Value) (below : List Frame) (meth : Method) (c : Code), z_C E M p l s m args meth c →
  ∀ (H : Heap) (locs : List Loc) (ls : Array Slot), z_W E G I sz H → va_S (z_A E) s.heap H locs → z_L ls M.2.2.1 lv →
    W p l e R s m args below meth c H locs k n (vx_MQ below (z_Qc E Q) (z_Xc E Q) args s mc ms (z_A E)) (F0 m pc ls st)
theorem z_pr_mem : ∀ (lv : List (Option Value)) (i : Nat) (q : Nat × Value), q ∈ z_pr i lv ↔ ∃ j, lv[j]? = some (some q.2) ∧ q.1 = i + j
  | [], i, q => by simp [z_pr]
  | none :: r, i, q => by
    simp only [z_pr]
    rw [z_pr_mem r (i + 1) q]
    constructor
    · rintro ⟨j, h1, h2⟩
      exact ⟨j + 1, by simpa using h1, by omega⟩
    · rintro ⟨j, h1, h2⟩
      cases j with
      | zero => simp at h1
      | succ j => exact ⟨j, by simpa using h1, by omega⟩
  | some v :: r, i, q => by
    simp only [z_pr, List.mem_cons]
    rw [z_pr_mem r (i + 1) q]
    constructor
    · rintro (h | ⟨j, h1, h2⟩)
      · exact ⟨0, by rw [h]; rfl, by rw [h]; rfl⟩
      · exact ⟨j + 1, by simpa using h1, by omega⟩
    · rintro ⟨j, h1, h2⟩
      cases j with
      | zero =>
        left
        have h3 : v = q.2 := by simpa using h1
        rw [h3]
        exact Prod.ext h2 rfl
      | succ j => exact Or.inr ⟨j, by simpa using h1, by omega⟩
theorem z_L.get {ls : Array Slot} {nL : Nat} {lv : List (Option Value)} (h : z_L ls nL lv) {i : Nat} {v : Value} (hi : lv[i]? = some (some v)) : ls[i]? = some (.val v) :=
  h.2.2 (i, v) ((z_pr_mem lv 0 (i, v)).mpr ⟨i, hi, by omega⟩)
/-- of one slot, or nothing -/
def z_c1 : Option Value → Bool
  | some (.long _) => false
  | some (.double _) => false
  | _ => true
theorem z_c1_cat {v : Value} (h : z_c1 (some v) = true) : v.category = 1 := by
  cases v <;> first | rfl | (simp [z_c1] at h; done)
/-- the locals behind the storing of a value of one slot -/
theorem z_L.set1 {ls : Array Slot} {nL : Nat} {lv : List (Option Value)} {i : Nat} {v : Value} (hi : i < lv.length) (hc : ∀ j o, j + 1 = i → lv[j]? = some o → z_c1 o = true) (h : lv_has ls nL ((i, v) :: (z_pr 0 lv).filter (fun q => !(q.1 == i) && !(q.1 + 1 == i && q.2.category == 2)))) : z_L ls nL (lv.set i (some v)) := by
  refine ⟨h.1, h.2.1, fun q hq => ?_⟩
  obtain ⟨j, h1, h2⟩ := (z_pr_mem _ 0 q).mp hq
  have h2 : q.1 = j := by omega
  by_cases hj : j = i
  · subst hj
    rw [List.getElem?_set_self hi] at h1
    have h3 : v = q.2 := by simpa using h1
    have : q = (j, v) := by rw [h3]; exact Prod.ext h2 rfl
    rw [this]
    exact h.2.2 (j, v) List.mem_cons_self
  · rw [List.getElem?_set_ne (Ne.symm hj)] at h1
    refine h.2.2 q (List.mem_cons_of_mem _ (List.mem_filter.mpr ⟨(z_pr_mem _ 0 q).mpr ⟨j, h1, by omega⟩, ?_⟩))
    simp only [Bool.and_eq_true, Bool.not_eq_true', beq_eq_false_iff_ne, ne_eq, Bool.and_eq_false_iff]
    refine ⟨by omega, ?_⟩
    by_cases h4 : q.1 + 1 = i
    · right
      have := z_c1_cat (hc j _ (by omega) h1)
      omega
    · exact Or.inl h4
theorem z_L.set2 {ls : Array Slot} {nL : Nat} {lv : List (Option Value)} {i : Nat} {v : Value} (hi : i + 1 < lv.length) (hc : ∀ j o, j + 1 = i → lv[j]? = some o → z_c1 o = true) (h : lv_has ls nL ((i, v) :: (z_pr 0 lv).filter (fun q => !(q.1 == i) && (!(q.1 == i + 1) && !(q.1 + 1 == i && q.2.category == 2))))) : z_L ls nL ((lv.set i (some v)).set (i + 1) none) := by
  refine ⟨h.1, h.2.1, fun q hq => ?_⟩
  obtain ⟨j, h1, h2⟩ := (z_pr_mem _ 0 q).mp hq
  have h2 : q.1 = j := by omega
  by_cases hj1 : j = i + 1
  · subst hj1
    rw [List.getElem?_set_self (by rw [List.length_set]; exact hi)] at h1
    simp at h1
  · rw [List.getElem?_set_ne (Ne.symm hj1)] at h1
    by_cases hj : j = i
    · subst hj
      rw [List.getElem?_set_self (by omega)] at h1
      have h3 : v = q.2 := by simpa using h1
      have : q = (j, v) := by rw [h3]; exact Prod.ext h2 rfl
      rw [this]
      exact h.2.2 (j, v) List.mem_cons_self
    · rw [List.getElem?_set_ne (Ne.symm hj)] at h1
      refine h.2.2 q (List.mem_cons_of_mem _ (List.mem_filter.mpr ⟨(z_pr_mem _ 0 q).mpr ⟨j, h1, by omega⟩, ?_⟩))
      simp only [Bool.and_eq_true, Bool.not_eq_true', beq_eq_false_iff_ne, ne_eq, Bool.and_eq_false_iff]
      refine ⟨by omega, by omega, ?_⟩
      by_cases h4 : q.1 + 1 = i
      · right
        have := z_c1_cat (hc j _ (by omega) h1)
        omega
      · exact Or.inl h4
theorem z_L.nil {ls : Array Slot} {nL : Nat} {lv lv' : List (Option Value)} (h : z_L ls nL lv) (hs : ∀ (j : Nat) (v : Value), lv'[j]? = some (some v) → lv[j]? = some (some v)) : z_L ls nL lv' :=
  ⟨h.1, h.2.1, fun q hq => by
    obtain ⟨j, h1, h2⟩ := (z_pr_mem _ 0 q).mp hq
    exact h.2.2 q ((z_pr_mem _ 0 q).mpr ⟨j, hs j _ h1, h2⟩)⟩
