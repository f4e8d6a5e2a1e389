section
-- ===== PART A: goes FIRST, ahead of the names: the tables' words, and 'selects' of the private methods out of them =====
/-- a private method of a class that the tables say can be made, by its rows of tables_1 -/
def lw_okq (q : MethodName × Nat) : Prop := (q.1.cls ≠ "java/lang/invoke/MethodHandle" ∧ q.1.cls ≠ "java/lang/invoke/VarHandle") ∧ Cond.instantiable q.1.cls q.2 ∈ tables_1 ∧ Cond.privateMethod q.1 ∈ tables_1 ∧ Cond.instanceMethod q.1 ∈ tables_1
theorem lw_p0 : lw_okq (⟨"StripeTasks$Text", "isInText", "(I)Z"⟩, 7) := ⟨⟨by decide +kernel, by decide +kernel⟩, List.mem_of_getElem? (i := 23) (by decide +kernel), List.mem_of_getElem? (i := 219) (by decide +kernel), List.mem_of_getElem? (i := 220) (by decide +kernel)⟩
theorem lw_p1 : lw_okq (⟨"StripeTasks$Text", "readNumber", "(III)I"⟩, 7) := ⟨⟨by decide +kernel, by decide +kernel⟩, List.mem_of_getElem? (i := 23) (by decide +kernel), List.mem_of_getElem? (i := 226) (by decide +kernel), List.mem_of_getElem? (i := 227) (by decide +kernel)⟩
theorem lw_p2 : lw_okq (⟨"StripeTasks$Text", "digitAt", "(I)I"⟩, 7) := ⟨⟨by decide +kernel, by decide +kernel⟩, List.mem_of_getElem? (i := 23) (by decide +kernel), List.mem_of_getElem? (i := 230) (by decide +kernel), List.mem_of_getElem? (i := 231) (by decide +kernel)⟩
theorem lw_p3 : lw_okq (⟨"java/lang/Throwable", "fillInStackTrace", "(I)Ljava/lang/Throwable;"⟩, 6) := ⟨⟨by decide +kernel, by decide +kernel⟩, List.mem_of_getElem? (i := 302) (by decide +kernel), List.mem_of_getElem? (i := 300) (by decide +kernel), List.mem_of_getElem? (i := 301) (by decide +kernel)⟩
theorem lw_p4 : lw_okq (⟨"StripeTasks$History", "placeOf", "(I)I"⟩, 3) := ⟨⟨by decide +kernel, by decide +kernel⟩, List.mem_of_getElem? (i := 156) (by decide +kernel), List.mem_of_getElem? (i := 579) (by decide +kernel), List.mem_of_getElem? (i := 580) (by decide +kernel)⟩
theorem lw_p5 : lw_okq (⟨"StripeTasksModel", "refused", "(I)Z"⟩, 11) := ⟨⟨by decide +kernel, by decide +kernel⟩, List.mem_of_getElem? (i := 747) (by decide +kernel), List.mem_of_getElem? (i := 802) (by decide +kernel), List.mem_of_getElem? (i := 803) (by decide +kernel)⟩
theorem lw_p6 : lw_okq (⟨"StripeTasksModel", "readText", "([I)I"⟩, 11) := ⟨⟨by decide +kernel, by decide +kernel⟩, List.mem_of_getElem? (i := 747) (by decide +kernel), List.mem_of_getElem? (i := 814) (by decide +kernel), List.mem_of_getElem? (i := 815) (by decide +kernel)⟩
theorem lw_p7 : lw_okq (⟨"StripeTasksModel", "readCommand", "([I)Z"⟩, 11) := ⟨⟨by decide +kernel, by decide +kernel⟩, List.mem_of_getElem? (i := 747) (by decide +kernel), List.mem_of_getElem? (i := 818) (by decide +kernel), List.mem_of_getElem? (i := 819) (by decide +kernel)⟩
theorem lw_p8 : lw_okq (⟨"StripeTasksModel", "figures", "(IIII)I"⟩, 11) := ⟨⟨by decide +kernel, by decide +kernel⟩, List.mem_of_getElem? (i := 747) (by decide +kernel), List.mem_of_getElem? (i := 822) (by decide +kernel), List.mem_of_getElem? (i := 823) (by decide +kernel)⟩
theorem lw_p9 : lw_okq (⟨"StripeTasksModel", "done", "(Z)Z"⟩, 11) := ⟨⟨by decide +kernel, by decide +kernel⟩, List.mem_of_getElem? (i := 747) (by decide +kernel), List.mem_of_getElem? (i := 833) (by decide +kernel), List.mem_of_getElem? (i := 834) (by decide +kernel)⟩
theorem lw_p10 : lw_okq (⟨"StripeTasksModel", "remember", "()V"⟩, 11) := ⟨⟨by decide +kernel, by decide +kernel⟩, List.mem_of_getElem? (i := 747) (by decide +kernel), List.mem_of_getElem? (i := 937) (by decide +kernel), List.mem_of_getElem? (i := 938) (by decide +kernel)⟩
theorem lw_p11 : lw_okq (⟨"StripeTasksModel", "command", "(II)Z"⟩, 11) := ⟨⟨by decide +kernel, by decide +kernel⟩, List.mem_of_getElem? (i := 747) (by decide +kernel), List.mem_of_getElem? (i := 1009) (by decide +kernel), List.mem_of_getElem? (i := 1010) (by decide +kernel)⟩
def lw_privs_1 : List (MethodName × Nat) := [(⟨"StripeTasks$Text", "isInText", "(I)Z"⟩, 7), (⟨"StripeTasks$Text", "readNumber", "(III)I"⟩, 7), (⟨"StripeTasks$Text", "digitAt", "(I)I"⟩, 7), (⟨"java/lang/Throwable", "fillInStackTrace", "(I)Ljava/lang/Throwable;"⟩, 6), (⟨"StripeTasks$History", "placeOf", "(I)I"⟩, 3), (⟨"StripeTasksModel", "refused", "(I)Z"⟩, 11), (⟨"StripeTasksModel", "readText", "([I)I"⟩, 11), (⟨"StripeTasksModel", "readCommand", "([I)Z"⟩, 11), (⟨"StripeTasksModel", "figures", "(IIII)I"⟩, 11), (⟨"StripeTasksModel", "done", "(Z)Z"⟩, 11), (⟨"StripeTasksModel", "remember", "()V"⟩, 11), (⟨"StripeTasksModel", "command", "(II)Z"⟩, 11)]
theorem lw_r1 : ∀ q ∈ lw_privs_1, lw_okq q := List.forall_mem_cons.mpr ⟨lw_p0, List.forall_mem_cons.mpr ⟨lw_p1, List.forall_mem_cons.mpr ⟨lw_p2, List.forall_mem_cons.mpr ⟨lw_p3, List.forall_mem_cons.mpr ⟨lw_p4, List.forall_mem_cons.mpr ⟨lw_p5, List.forall_mem_cons.mpr ⟨lw_p6, List.forall_mem_cons.mpr ⟨lw_p7, List.forall_mem_cons.mpr ⟨lw_p8, List.forall_mem_cons.mpr ⟨lw_p9, List.forall_mem_cons.mpr ⟨lw_p10, List.forall_mem_cons.mpr ⟨lw_p11, fun _ h => absurd h List.not_mem_nil⟩⟩⟩⟩⟩⟩⟩⟩⟩⟩⟩⟩
def lw_privs : List (MethodName × Nat) := lw_privs_1
def lw_tbl : List Cond := k2_sels lw_privs ++ tables_1
theorem lw_privs_ok : ∀ q ∈ lw_privs, lw_okq q := lw_r1

/-! ===== BEGIN words of one list among another's, by their places ===== -/
theorem goodIn_r {big : List Cond} (ws : List Cond) (ps : List Nat) (hp : ws = ps.filterMap (fun i => big[i]?)) (h : ws.all goodWord = true) : GoodIn big ws := by
  intro w hw
  have h1 := List.all_eq_true.mp h w hw
  rw [hp] at hw
  obtain ⟨i, -, hi⟩ := List.mem_filterMap.mp hw
  have hm : w ∈ big := by first | exact List.mem_of_getElem? hi | exact List.getElem?_mem hi
  exact ⟨hm, good_of_word h1⟩
theorem goodIn_app {big a b : List Cond} (ha : GoodIn big a) (hb : GoodIn big b) : GoodIn big (a ++ b) := fun w h => (List.mem_append.mp h).elim (ha w) (hb w)
theorem goodIn_ca {big a b : List Cond} {c : Cond} (ha : GoodIn big (c :: a)) (hb : GoodIn big b) : GoodIn big (c :: (a ++ b)) := fun w h => (List.mem_cons.mp h).elim (fun e => ha w (List.mem_cons.mpr (Or.inl e))) (fun h => (List.mem_append.mp h).elim (fun h => ha w (List.mem_cons.mpr (Or.inr h))) (hb w))
theorem goodIn_sub {big ws : List Cond} (hm : ∀ w ∈ ws, w ∈ big) (h : ws.all goodWord = true) : GoodIn big ws := fun w hw => ⟨hm w hw, good_of_word (List.all_eq_true.mp h w hw)⟩
/-! ===== END ===== -/

/-! ===== BEGIN exceptions that leave a method, and their catching by the caller (launches without stack traces) ===== -/
section VXA
/-! The laws vx_back, vx_callV, vx_callS, vx_callSW, vx_throw0, vx_throwS follow proofs of the library, with one case more: JvmDerived/Free/Laws.lean (Back.of_free), Shelf42/LK1.lean (callV, callS), Shelf/KitTraced.lean (throwNew0V, throwNewS). -/
/-- where a method has thrown q: the class by its name, the cell, what was written, the world -/
def vx_T (XC : String → State → State → Prop) (st : State) (q : Addr) (t : State) (mc ms : Nat) (free : Addr → Prop) : Prop :=
  ∃ (E : String) (ce : Cell) (L : List Loc), XC E st t ∧ t.heap[q]? = some ce ∧ ce.vm = .none ∧ st.vm.findClass E = some ce.cls ∧ st.WarmedH t.vm ∧ st.sameButNew ({ t with vm := st.vm } : State) L mc ms ∧ ∀ z ∈ L, free z.base
def vx_Q (Qc : Array Value → State → Outcome → State → Prop) (XC : String → State → State → Prop) (mc ms : Nat) (free : Addr → Prop) : Array Value → State → Outcome → State → Prop := fun a st o t =>
  (Qc a st o t ∧ ∃ L, FrameEnd st o t L mc ms ∧ ∀ q ∈ L, free q.base) ∨ ∃ q, o = .threw q ∧ vx_T XC st q t mc ms free
/-- a callee that returns or throws -/
def vx_Met (l : Launch) (y : MethodName) (ws : List Cond) (rm : Room) (Pc : Array Value → State → Prop) (Qc : Array Value → State → Outcome → State → Prop) (XC : String → State → State → Prop) (mc ms : Nat) (free : Addr → Prop) : Prop :=
  MetFree l y (headSpec ws rm) Pc (fun _ _ _ _ _ => True) (vx_Q Qc XC mc ms free)
def vx_Post (XC : String → State → State → Prop) (mc ms : Nat) (free : Addr → Prop) : Pt → Array Value → Addr → Pt → Prop := fun A a q B =>
  ∃ (g : JFrame) (mk : MethodId) (t : State) (L : List Loc) (E : String) (ce : Cell), B.U.heap = t.heap ∧ B.U.vm = t.vm ∧ XC E (A.U.calling g mk a) t ∧ t.heap[q]? = some ce ∧ ce.vm = .none ∧ A.U.vm.findClass E = some ce.cls ∧ B.locs = A.locs ++ L ∧ (∀ z ∈ L, free z.base) ∧ B.cells = A.cells + mc ∧ B.slots = A.slots + ms
def vx_Back (l : Launch) (R : Room) (p : Program) (e : Env) (below : List Frame) (s : State) (sargs : Array Value) (y : MethodName) (len W9 : Nat)
    (Pre : Pt → Array Value → Prop) (Post : Pt → Array Value → Option Value → Pt → Prop) (PostX : Pt → Array Value → Addr → Pt → Prop) : Prop :=
  ∀ (m : MethodId) (meth : Method) (c : Code) (A : Pt) (g : JFrame) (ig : Instr) (mk : MethodId) (a : Array Value),
    Stand p l e R s m sargs below meth c A.U A.locs A.cells A.slots → g.method = m → g.locals.size = c.maxLocals → decode c.code g.pc = .ok (ig, len) →
    2 * g.monitorRoom + (g.stack.map fun v => v.category).sum ≤ W9 → A.U.methodNamed? y = some mk → Pre A a →
    (∃ (v : Option Value) (B : Pt), Stand p l e R s m sargs below meth c B.U B.locs B.cells B.slots ∧ Post A a v B ∧
      Steps p.tables e below (doInvoke e (A.U.setTop g) [] mk a).1 (B.U.setTop { g with pc := g.pc + len, stack := v.toList ++ g.stack })) ∨
    (∃ (q : Addr) (B : Pt), Stand p l e R s m sargs below meth c B.U B.locs B.cells B.slots ∧ PostX A a q B ∧
      Steps p.tables e below (doInvoke e (A.U.setTop g) [] mk a).1 ((B.U.setTop g).pushFrame (.throwing q)))
section Payer
variable {l : Launch} {R : Room} {p : Program} {e : Env} {below : List Frame} {s : State} {sargs : Array Value} {y : MethodName} {len W9 : Nat}
theorem vx_back {ws : List Cond} {rm : Room} {Pc : Array Value → State → Prop} {Qc : Array Value → State → Outcome → State → Prop} {XC : String → State → State → Prop} {mc ms : Nat} {free : Addr → Prop} {bytes : ByteArray} {maxL : Nat} {ret : Option FieldType}
    (hM : vx_Met l y ws rm Pc Qc XC mc ms free) (hblind : FrameBlind Pc) (hrc : rm.cells = mc) (hrs : rm.slots = ms)
    (hframes : rm.frames + 1 ≤ R.frames) (hlocals : W9 + (maxL + 11) + rm.locals ≤ R.locals)
    (hws : ∀ w ∈ ws, ∀ a' U, s.WarmedH U.vm → w.before a' U = true) (hcode : Cond.code y bytes maxL ret ∈ ws) (hinit : ∀ a' U, s.WarmedH U.vm → (Cond.initialized y.cls).before a' U = true) :
    vx_Back l R p e below s sargs y len W9 (PreOf R mc ms Pc) (PostOf Qc mc ms free) (vx_Post XC mc ms free) := by
  intro m meth c A g ig mk a X hg hsize hdg hW hn hp
  have h1 : (headSpec ws rm).pre.before a A.U = true := atoms_intro fun w hw => hws w hw _ _ X.warmed
  have h2 : (Cond.code y bytes maxL ret).before a A.U = true := hws _ hcode _ _ X.warmed
  have h3 : (Cond.initialized y.cls).before a A.U = true := hinit _ _ X.warmed
  have h4 : A.cells + (headSpec ws rm).room.cells ≤ R.cells := by rw [show (headSpec ws rm).room.cells = mc from hrc]; exact hp.1
  have h5 : A.slots + (headSpec ws rm).room.slots ≤ R.slots := by rw [show (headSpec ws rm).room.slots = ms from hrs]; exact hp.2.1
  have hPc : Pc a (A.U.calling g mk a) := hblind _ _ _ _ hp.2.2
  obtain ⟨U, Ls, c0, s0⟩ := A
  dsimp only [Pt.U, Pt.locs, Pt.cells, Pt.slots] at h1 h2 h3 h4 h5 X hn hPc ⊢
  obtain ⟨methY, cY, hmY, hcY, -, hlY, -, -, -, -⟩ := Cond.code_spec hn h2
  obtain ⟨kY, hkY, -⟩ := className_of_methodNamed hn
  have hinitY : kY.init = .initialized := Cond.initialized_spec (findClass_of_methodNamed hn) hkY h3
  have h : At U g.method c below := by rw [hg]; exact X.here
  have hlocals9 : W9 + (maxL + 11) + (headSpec ws rm).room.locals ≤ R.locals := hlocals
  have happ : (headSpec ws rm).appliesLoose y e.platform (U.calling g mk a) = true :=
    Spec.appliesLoose_calling (g := g) h hdg hn hkY hinitY
      (X.room_calling (g := g) (R' := (headSpec ws rm).room) hsize hmY hcY hframes (by rw [hlY]; omega) h4 h5) h1
  obtain ⟨mid, hmid⟩ := h.above
  have hfr : (U.setTop g).frames = (.java g :: mid) ++ below := by rw [State.frames_setTop' g h.top, hmid]; rfl
  obtain ⟨o, s₂, hsteps, -, hend, hq⟩ := Steps.callFree hM p X.admits X.cas X.clock (acts := []) hfr happ hPc trivial
  have hq' : vx_Q Qc XC mc ms free a (U.calling g mk a) o s₂ := hq
  rw [State.frames_setTop' g h.top] at hend
  obtain ⟨g₀, hg0⟩ := Option.isSome_iff_exists.mp h.top
  obtain ⟨r, hr⟩ := State.topJava?_eq_some.mp hg0
  have hr' : (({ U with heap := s₂.heap, slotsUsed := s₂.slotsUsed } : State).setVm s₂.vm).frames = .java g₀ :: r := hr
  rcases hq' with ⟨hqc, L, hfe, hL⟩ | ⟨q, rfl, E, ce, L, hx, hce, hcv, hcl, hW₂, hsm, hL⟩
  · obtain ⟨⟨v, rfl⟩, hW₂, e2, q2, q3, q4, q5, q6⟩ := id hfe
    have e3 : s₂ = ({ (U.calling g mk a).setFrames s₂.frames with heap := s₂.heap, slotsUsed := s₂.slotsUsed } : State).setVm s₂.vm := by
      have : s₂ = ({ s₂ with vm := (U.calling g mk a).vm } : State).setVm s₂.vm := rfl
      rw [e2] at this
      exact this
    obtain ⟨c₂, i₂, len₂, hc₂, hd₂, hf₂⟩ := hend
    have hW' : U.WarmedH s₂.vm := hW₂
    have hcc : c₂ = c := by
      have h1 : s₂.code? g.method = U.code? g.method := by
        rw [State.code?_eq, State.code?_eq, hW'.alike.method?]
      exact Option.some.inj (hc₂.symm.trans (h1.trans h.code))
    subst hcc
    have hlen : len₂ = len := by rw [hdg] at hd₂; cases hd₂; rfl
    subst hlen
    have hs₂ : s₂ = (({ U with heap := s₂.heap, slotsUsed := s₂.slotsUsed } : State).setVm s₂.vm).setTop { g with pc := g.pc + len₂, stack := v.toList ++ g.stack } := by
      refine e3.trans ?_
      rw [hf₂, State.calling_eq h.top, State.setFrames_setFrames, State.setTop_of_frames _ hr', hr]
      rfl
    have hsame : U.sameButNew ({ U with heap := s₂.heap, slotsUsed := s₂.slotsUsed } : State) L mc ms := by
      refine ⟨?_, q2, q3, q4, q5, q6⟩
      obtain ⟨t, ht, -⟩ := State.frames_cons hr
      show ({ U with heap := s₂.heap, slotsUsed := s₂.slotsUsed } : State) = { U.setFrames U.frames with heap := s₂.heap, slotsUsed := s₂.slotsUsed }
      rw [State.setFrames_self ht]
    subst hg
    refine Or.inl ⟨v, ⟨(({ U with heap := s₂.heap, slotsUsed := s₂.slotsUsed } : State).setVm s₂.vm), Ls ++ L, c0 + mc, s0 + ms⟩,
      ⟨X.admits, X.cas, X.clock, X.frames, X.room, X.hears, X.method, X.code, (X.here.setHeapUsed s₂.heap s₂.slotsUsed).setVm hW'.alike, X.tail, State.WarmedH.trans X.warmed hW', X.limits, X.bytes, X.same.trans (hsame.setVm s.vm)⟩,
      ⟨g, mk, s₂, L, rfl, rfl, hqc, rfl, hL, rfl, rfl⟩, ?_⟩
    show Steps p.tables e below _ ((({ U with heap := s₂.heap, slotsUsed := s₂.slotsUsed } : State).setVm s₂.vm).setTop { g with pc := g.pc + len₂, stack := v.toList ++ g.stack })
    rw [← hs₂]
    exact hsteps
  · obtain ⟨e2, q2, q3, q4, q5, q6⟩ := id hsm
    have e3 : s₂ = ({ (U.calling g mk a).setFrames s₂.frames with heap := s₂.heap, slotsUsed := s₂.slotsUsed } : State).setVm s₂.vm := by
      have : s₂ = ({ s₂ with vm := (U.calling g mk a).vm } : State).setVm s₂.vm := rfl
      rw [e2] at this
      exact this
    have hf₂ : s₂.frames = .throwing q :: .java g :: U.frames.tail := hend
    have hW' : U.WarmedH s₂.vm := hW₂
    have hs₂ : s₂ = ((({ U with heap := s₂.heap, slotsUsed := s₂.slotsUsed } : State).setVm s₂.vm).setTop g).pushFrame (.throwing q) := by
      refine e3.trans ?_
      rw [hf₂, State.calling_eq h.top, State.setFrames_setFrames, State.pushFrame, State.frames_setTop _ hr', State.setTop_of_frames _ hr', State.setFrames_setFrames, hr]
      rfl
    have hsame : U.sameButNew ({ U with heap := s₂.heap, slotsUsed := s₂.slotsUsed } : State) L mc ms := by
      refine ⟨?_, q2, q3, q4, q5, q6⟩
      obtain ⟨t, ht, -⟩ := State.frames_cons hr
      show ({ U with heap := s₂.heap, slotsUsed := s₂.slotsUsed } : State) = { U.setFrames U.frames with heap := s₂.heap, slotsUsed := s₂.slotsUsed }
      rw [State.setFrames_self ht]
    subst hg
    refine Or.inr ⟨q, ⟨(({ U with heap := s₂.heap, slotsUsed := s₂.slotsUsed } : State).setVm s₂.vm), Ls ++ L, c0 + mc, s0 + ms⟩,
      ⟨X.admits, X.cas, X.clock, X.frames, X.room, X.hears, X.method, X.code, (X.here.setHeapUsed s₂.heap s₂.slotsUsed).setVm hW'.alike, X.tail, State.WarmedH.trans X.warmed hW', X.limits, X.bytes, X.same.trans (hsame.setVm s.vm)⟩,
      ⟨g, mk, s₂, L, E, ce, rfl, rfl, hx, hce, hcv, hcl, rfl, hL, rfl, rfl⟩, ?_⟩
    show Steps p.tables e below _ (((({ U with heap := s₂.heap, slotsUsed := s₂.slotsUsed } : State).setVm s₂.vm).setTop g).pushFrame (.throwing q))
    rw [← hs₂]
    exact hsteps
end Payer
section Calls
variable {p : Program} {l : Launch} {e : Env} {R : Room} {s : State} {m : MethodId} {args : Array Value} {below : List Frame} {meth : Method} {c : Code} {T : State} {locs : List Loc} {cells slots : Nat}
theorem vx_callV (X : Stand p l e R s m args below meth c T locs cells slots) (hexec : p.tables.exec = Jvm.exec) {own C : String} {index : Nat} {y : MethodName} {bytes : ByteArray} {maxL : Nat} {ret : Option FieldType}
    (hown : s.vm.findClass own = some m.cls) (hlink : (Cond.methodLink own index y).before args s = true) (hinst : (Cond.instanceMethod y).before args s = true) (hsel : (Cond.selects C y y).before args s = true)
    (hcode : (Cond.code y bytes maxL ret).before args s = true) (hy : y.cls ≠ "java/lang/invoke/MethodHandle" ∧ y.cls ≠ "java/lang/invoke/VarHandle")
    {W9 : Nat} {Pre : Pt → Array Value → Prop} {Post : Pt → Array Value → Option Value → Pt → Prop} {PostX : Pt → Array Value → Addr → Pt → Prop} (hK : vx_Back l R p e below s args y 3 W9 Pre Post PostX)
    {b : Addr} {cellB : Cell} (hcell : T.heap[b]? = some cellB) (hobj : cellB.vm.isStatics = false) (hcls : s.vm.findClass C = some cellB.cls)
    {g : JFrame} (hg : g.method = m) (hsize : g.locals.size = c.maxLocals) {argsL rest : List Value} (hlen : ∀ sig, parseMethodDescriptor y.desc = some sig → argsL.length = sig.parameters.length)
    (hstack : g.stack = argsL.reverse ++ .ref b :: rest) (hW : 2 * g.monitorRoom + (rest.map fun v => v.category).sum ≤ W9) (hdg : decode c.code g.pc = .ok (.invokevirtual index, 3))
    (hpre : ∀ vm₁, s.WarmedH vm₁ → Pre ⟨T.setVm vm₁, locs, cells, slots⟩ (Value.ref b :: argsL).toArray) :
    (∃ (v : Option Value) (vm₁ : Vm) (B : Pt), s.WarmedH vm₁ ∧ Stand p l e R s m args below meth c B.U B.locs B.cells B.slots ∧ Post ⟨T.setVm vm₁, locs, cells, slots⟩ (Value.ref b :: argsL).toArray v B ∧
      ∀ target, Steps p.tables e below (B.U.setTop { g with pc := g.pc + 3, stack := v.toList ++ rest }) target → Steps p.tables e below (T.setTop g) target) ∨
    (∃ (q : Addr) (vm₁ : Vm) (B : Pt), s.WarmedH vm₁ ∧ Stand p l e R s m args below meth c B.U B.locs B.cells B.slots ∧ PostX ⟨T.setVm vm₁, locs, cells, slots⟩ (Value.ref b :: argsL).toArray q B ∧
      Steps p.tables e below (T.setTop g) ((B.U.setTop { g with stack := rest }).pushFrame (.throwing q))) := by
  obtain ⟨mk, methM, hnamed, hmethM, hstM, habM⟩ := Cond.instanceMethod_spec hinst
  obtain ⟨methM', cM, hmethM', -, -, -, -, -, -, hsigM⟩ := Cond.code_spec hnamed hcode
  cases hmethM.symm.trans hmethM'
  obtain ⟨c2, r2, m2, q1, q2, q3, q4, kP, hkP, hkPi⟩ := Cond.selects_spec hsel
  cases hcls.symm.trans q1
  cases (State.methodFound?_of_named hnamed hy).symm.trans q2
  cases hnamed.symm.trans q3
  have hselP : selectMethod e.platform s.vm cellB.cls mk = .method mk := by rw [Launch.admits_selectMethod X.admits]; exact q4
  obtain ⟨vm₁, X₁, hstep₁⟩ := X.invokevirtual hexec hown hlink hnamed hmethM hstM hkP hkPi hy (a := b) (cell := cellB) hcell
    (fun z h => by rw [h] at hobj; cases hobj) hselP hmethM habM hkP hkPi (g := g) hg (argsL := argsL) (rest := rest) (hlen _ hsigM) hstack hdg
  rcases hK m meth c ⟨T.setVm vm₁, locs, cells, slots⟩ { g with stack := rest } (.invokevirtual index) mk (Value.ref b :: argsL).toArray X₁ hg hsize hdg hW (X₁.named hnamed) (hpre vm₁ X₁.warmed) with ⟨v, B, X', hpost, hsteps⟩ | ⟨q, B, X', hpost, hsteps⟩
  · exact Or.inl ⟨v, vm₁, B, X₁.warmed, X', hpost, fun target h => hstep₁ _ fun acts => by rw [doInvoke_state]; exact hsteps.trans h⟩
  · exact Or.inr ⟨q, vm₁, B, X₁.warmed, X', hpost, hstep₁ _ fun acts => by rw [doInvoke_state]; exact hsteps⟩
theorem vx_callS (X : Stand p l e R s m args below meth c T locs cells slots) (hexec : p.tables.exec = Jvm.exec) {own : String} {index : Nat} {y : MethodName} {bytes : ByteArray} {maxL : Nat} {ret : Option FieldType}
    (hown : s.vm.findClass own = some m.cls) (hlink : (Cond.methodLink own index y).before args s = true) (hstat : (Cond.static y).before args s = true) (hinit : (Cond.initialized y.cls).before args s = true)
    (hcode : (Cond.code y bytes maxL ret).before args s = true) (hy : y.cls ≠ "java/lang/invoke/MethodHandle" ∧ y.cls ≠ "java/lang/invoke/VarHandle")
    {W9 : Nat} {Pre : Pt → Array Value → Prop} {Post : Pt → Array Value → Option Value → Pt → Prop} {PostX : Pt → Array Value → Addr → Pt → Prop} (hK : vx_Back l R p e below s args y 3 W9 Pre Post PostX)
    {g : JFrame} (hg : g.method = m) (hsize : g.locals.size = c.maxLocals) {argsL rest : List Value} (hlen : ∀ sig, parseMethodDescriptor y.desc = some sig → argsL.length = sig.parameters.length)
    (hstack : g.stack = argsL.reverse ++ rest) (hW : 2 * g.monitorRoom + (rest.map fun v => v.category).sum ≤ W9) (hdg : decode c.code g.pc = .ok (.invokestatic index, 3))
    (hpre : ∀ vm₁, s.WarmedH vm₁ → Pre ⟨T.setVm vm₁, locs, cells, slots⟩ argsL.toArray) :
    (∃ (v : Option Value) (vm₁ : Vm) (B : Pt), s.WarmedH vm₁ ∧ Stand p l e R s m args below meth c B.U B.locs B.cells B.slots ∧ Post ⟨T.setVm vm₁, locs, cells, slots⟩ argsL.toArray v B ∧
      ∀ target, Steps p.tables e below (B.U.setTop { g with pc := g.pc + 3, stack := v.toList ++ rest }) target → Steps p.tables e below (T.setTop g) target) ∨
    (∃ (q : Addr) (vm₁ : Vm) (B : Pt), s.WarmedH vm₁ ∧ Stand p l e R s m args below meth c B.U B.locs B.cells B.slots ∧ PostX ⟨T.setVm vm₁, locs, cells, slots⟩ argsL.toArray q B ∧
      Steps p.tables e below (T.setTop g) ((B.U.setTop { g with stack := rest }).pushFrame (.throwing q))) := by
  obtain ⟨mk, hnamed⟩ := Cond.code_named hcode
  obtain ⟨methM, cM, hmethM, -, -, -, -, -, -, hsigM⟩ := Cond.code_spec hnamed hcode
  have hstatic : methM.isStatic = true := Cond.static_spec hnamed hmethM hstat
  obtain ⟨kP, hkP, -⟩ := className_of_methodNamed hnamed
  have hinitP : kP.init = .initialized := Cond.initialized_spec (findClass_of_methodNamed hnamed) hkP hinit
  obtain ⟨vm₁, X₁, hstep₁⟩ := X.invokestatic hexec hown hlink hnamed hmethM hstatic hkP hinitP hy (g := g) hg (argsL := argsL) (rest := rest) (hlen _ hsigM) hstack hdg
  rcases hK m meth c ⟨T.setVm vm₁, locs, cells, slots⟩ { g with stack := rest } (.invokestatic index) mk argsL.toArray X₁ hg hsize hdg hW (X₁.named hnamed) (hpre vm₁ X₁.warmed) with ⟨v, B, X', hpost, hsteps⟩ | ⟨q, B, X', hpost, hsteps⟩
  · exact Or.inl ⟨v, vm₁, B, X₁.warmed, X', hpost, fun target h => hstep₁ _ fun acts => by rw [doInvoke_state]; exact hsteps.trans h⟩
  · exact Or.inr ⟨q, vm₁, B, X₁.warmed, X', hpost, hstep₁ _ fun acts => by rw [doInvoke_state]; exact hsteps⟩
end Calls
theorem vx_cls {s : State} {T : State} {vm₁ : Vm} {E : String} {k : ClassId} (hW : s.WarmedH vm₁) (h : (T.setVm vm₁).vm.findClass E = some k) : s.vm.findClass E = some k := by
  have h1 : vm₁.findClass E = some k := h
  rw [hW.alike.findClass] at h1
  exact h1
/-- the method's frame g, with q thrown over it -/
def vx_W (p : Program) (l : Launch) (e : Env) (R : Room) (s : State) (m : MethodId) (args : Array Value) (below : List Frame) (meth : Method) (c : Code) (H : Heap) (locs : List Loc) (cells slots : Nat) (Q : State → Prop) (g : JFrame) (q : Addr) : Prop :=
  ∀ T : State, T.heap = H → Stand p l e R s m args below meth c T locs cells slots → ∃ t, Steps p.tables e below ((T.setTop g).pushFrame (.throwing q)) t ∧ Q t
def vx_Run (p : Program) (l : Launch) (e : Env) (R : Room) (s : State) (m : MethodId) (args : Array Value) (below : List Frame) (meth : Method) (c : Code) (H : Heap) (locs : List Loc) (cells slots mc ms : Nat) (g : JFrame) (rest : List Value) (Qa : State → Outcome → State → Prop) (XC : String → State → State → Prop) (free : Addr → Prop) : Prop :=
  ∀ T : State, T.heap = H → Stand p l e R s m args below meth c T locs cells slots →
    (∃ (v : Option Value) (st₀ t T' : State) (L : List Loc), st₀.heap = H ∧ Stand p l e R s m args below meth c T' (locs ++ L) (cells + mc) (slots + ms) ∧ (∀ q ∈ L, free q.base) ∧ T'.heap = t.heap ∧ T'.vm = t.vm ∧ Qa st₀ (.returned v) t ∧
      Goes p e below T g T' { g with pc := g.pc + 3, stack := v.toList ++ rest }) ∨
    (∃ (q : Addr) (st₀ t T' : State) (L : List Loc) (E : String) (ce : Cell), st₀.heap = H ∧ Stand p l e R s m args below meth c T' (locs ++ L) (cells + mc) (slots + ms) ∧ (∀ z ∈ L, free z.base) ∧ T'.heap = t.heap ∧ T'.vm = t.vm ∧ XC E st₀ t ∧ t.heap[q]? = some ce ∧ ce.vm = .none ∧ s.vm.findClass E = some ce.cls ∧
      Steps p.tables e below (T.setTop g) ((T'.setTop { g with stack := rest }).pushFrame (.throwing q)))
def vx_X {S : Type} (px : S → Prop) (B : String → S → State → Prop) (A : Nat → Prop) : String → State → State → Prop := fun E st t => ∃ u : S, px u ∧ B E u t ∧ va_F A st t
section Runs
variable {p : Program} {l : Launch} {e : Env} {R : Room} {s : State} {m : MethodId} {args : Array Value} {below : List Frame} {meth : Method} {c : Code} {H : Heap} {locs : List Loc} {cells slots : Nat}
variable {y : MethodName} {bytes cc : ByteArray} {maxL nL mc ms n index : Nat} {ret : Option FieldType} {ws : List Cond} {rm : Room} {Pc : Array Value → State → Prop} {Qc : Array Value → State → Outcome → State → Prop} {XC : String → State → State → Prop} {free : Addr → Prop} {Ts : List Cond} {own C : String} {b : Addr} {As rest : List Value} {g : JFrame}
theorem vx_callBack (cb : CallB R s args own index y bytes maxL ret ws rm mc ms n) (hM : vx_Met l y ws rm Pc Qc XC mc ms free) (hbl : FrameBlind Pc) : vx_Back l R p e below s args y 3 8 (PreOf R mc ms Pc) (PostOf Qc mc ms free) (vx_Post XC mc ms free) := by
  obtain ⟨hrc, hrs, hfr, hlo, hws, hcw, -, hini, -⟩ := cb
  exact vx_back (bytes := bytes) (maxL := maxL) (ret := ret) hM hbl hrc hrs hfr hlo hws hcw (fun a' U hW => word_at hW (Or.inl (by first | rfl | simp [Cond.onTables, Cond.keeps, Cond.steady])) hini)
theorem vx_runV (S : CallFix p m c cc nL s args Ts own) (hM : vx_Met l y ws rm Pc Qc XC mc ms free) (cw : CallW R s args own C index y bytes maxL ret ws rm mc ms n) (hp : PreV s H C b Pc As)
    (hg : g.method = m) (hn : As.length = n) (hsize : g.locals.size = nL) (hstack : g.stack = As.reverse ++ .ref b :: rest) (hW : 2 * g.monitorRoom + (rest.map fun v => v.category).sum ≤ 8) (hdg : decode cc g.pc = .ok (.invokevirtual index, 3)) (hf : cells + mc ≤ R.cells ∧ slots + ms ≤ R.slots) :
    vx_Run p l e R s m args below meth c H locs cells slots mc ms g rest (Qc (Value.ref b :: As).toArray) XC free := by
  have hK : vx_Back l R p e below s args y 3 8 (PreOf R mc ms Pc) (PostOf Qc mc ms free) (vx_Post XC mc ms free) := vx_callBack cw.1 hM hp.1
  obtain ⟨⟨-, -, -, -, -, -, hcode, -, hy, hlen, hl⟩, hin, hse⟩ := cw
  obtain ⟨hx, hb, hml, ho, -⟩ := S
  obtain ⟨-, ⟨cellB, hcB, hoB, hclB⟩, hPc⟩ := hp
  intro T hT X
  rcases vx_callV X hx (C := C) (bytes := bytes) (maxL := maxL) (ret := ret) ho hl hin hse hcode hy hK (by rw [hT]; exact hcB) hoB hclB hg (hsize.trans hml.symm) (argsL := As) (rest := rest) (fun sig h => hn.trans (hlen sig h)) hstack hW (by rw [hb]; exact hdg)
    (fun vm₁ hW₁ => ⟨hf.1, hf.2, hPc (T.setVm vm₁) hT hW₁⟩) with ⟨v, vm₁, ⟨U', l2, c2, s2⟩, hW₁, X', ⟨g', mk, t, L, e1, e2, hq, h1, hL, h2, h3⟩, st⟩ | ⟨q, vm₁, ⟨U', l2, c2, s2⟩, hW₁, X', ⟨g', mk, t, L, E, ce, e1, e2, hq, hce, hcv, hcl, h1, hL, h2, h3⟩, st⟩
  · dsimp only [Pt.U, Pt.locs, Pt.cells, Pt.slots] at X' e1 e2 h1 h2 h3 st
    subst h1; subst h2; subst h3
    exact Or.inl ⟨v, (T.setVm vm₁).calling g' mk (Value.ref b :: As).toArray, t, U', L, hT, X', hL, e1, e2, hq, st⟩
  · dsimp only [Pt.U, Pt.locs, Pt.cells, Pt.slots] at X' e1 e2 h1 h2 h3 st hcl
    subst h1; subst h2; subst h3
    exact Or.inr ⟨q, (T.setVm vm₁).calling g' mk (Value.ref b :: As).toArray, t, U', L, E, ce, hT, X', hL, e1, e2, hq, hce, hcv, vx_cls hW₁ hcl, st⟩
theorem vx_runS (S : CallFix p m c cc nL s args Ts own) (hM : vx_Met l y ws rm Pc Qc XC mc ms free) (cw : CallB R s args own index y bytes maxL ret ws rm mc ms n ∧ (Cond.static y).before args s = true) (hp : PreS s H Pc As)
    (hg : g.method = m) (hn : As.length = n) (hsize : g.locals.size = nL) (hstack : g.stack = As.reverse ++ rest) (hW : 2 * g.monitorRoom + (rest.map fun v => v.category).sum ≤ 8) (hdg : decode cc g.pc = .ok (.invokestatic index, 3)) (hf : cells + mc ≤ R.cells ∧ slots + ms ≤ R.slots) :
    vx_Run p l e R s m args below meth c H locs cells slots mc ms g rest (Qc As.toArray) XC free := by
  have hK : vx_Back l R p e below s args y 3 8 (PreOf R mc ms Pc) (PostOf Qc mc ms free) (vx_Post XC mc ms free) := vx_callBack cw.1 hM hp.1
  obtain ⟨⟨-, -, -, -, -, -, hcode, hini, hy, hlen, hl⟩, hstt⟩ := cw
  obtain ⟨hx, hb, hml, ho, -⟩ := S
  intro T hT X
  rcases vx_callS X hx (bytes := bytes) (maxL := maxL) (ret := ret) ho hl hstt hini hcode hy hK hg (hsize.trans hml.symm) (argsL := As) (rest := rest) (fun sig h => hn.trans (hlen sig h)) hstack hW (by rw [hb]; exact hdg)
    (fun vm₁ hW₁ => ⟨hf.1, hf.2, hp.2 (T.setVm vm₁) hT hW₁⟩) with ⟨v, vm₁, ⟨U', l2, c2, s2⟩, hW₁, X', ⟨g', mk, t, L, e1, e2, hq, h1, hL, h2, h3⟩, st⟩ | ⟨q, vm₁, ⟨U', l2, c2, s2⟩, hW₁, X', ⟨g', mk, t, L, E, ce, e1, e2, hq, hce, hcv, hcl, h1, hL, h2, h3⟩, st⟩
  · dsimp only [Pt.U, Pt.locs, Pt.cells, Pt.slots] at X' e1 e2 h1 h2 h3 st
    subst h1; subst h2; subst h3
    exact Or.inl ⟨v, (T.setVm vm₁).calling g' mk As.toArray, t, U', L, hT, X', hL, e1, e2, hq, st⟩
  · dsimp only [Pt.U, Pt.locs, Pt.cells, Pt.slots] at X' e1 e2 h1 h2 h3 st hcl
    subst h1; subst h2; subst h3
    exact Or.inr ⟨q, (T.setVm vm₁).calling g' mk As.toArray, t, U', L, E, ce, hT, X', hL, e1, e2, hq, hce, hcv, vx_cls hW₁ hcl, st⟩
end Runs
section Rows
variable {p : Program} {l : Launch} {e : Env} {R : Room} {s : State} {m : MethodId} {args : Array Value} {below : List Frame} {meth : Method} {c : Code} {H : Heap} {locs : List Loc} {cells slots : Nat} {Q : State → Prop}
variable {mc ms : Nat} {free : Addr → Prop} {A0 A1 : Nat → Prop} {H0 : Heap} {a : Array Value} {pc : Nat} {ls : Array Slot} {st0 rest : List Value}
theorem vx_keep {st₀ t T' : State} {L : List Loc} (h0 : st₀.heap = H) (e1 : T'.heap = t.heap) (hS : va_S A0 H0 H locs) (hA : ∀ q, q < H.size → A1 q → A0 q) (hf : ∀ q, free q → A0 q) (hL : ∀ q ∈ L, free q.base) (hF : va_F A1 st₀ t) :
    H.size ≤ T'.heap.size ∧ (∀ q : Nat, q < H.size → ¬ A1 q → T'.heap[q]? = H[q]?) ∧ va_S A0 H0 T'.heap (locs ++ L) := by
  obtain ⟨hz, hk⟩ := hF
  rw [h0] at hz hk
  exact ⟨by rw [e1]; exact hz, fun q h1 h2 => by rw [e1]; exact hk q h1 h2,
    ⟨Nat.le_trans hS.1 (by rw [e1]; exact hz), fun q h1 h2 => by rw [e1, hk q (Nat.lt_of_lt_of_le h1 hS.1) (fun z => h2 (hA q (Nat.lt_of_lt_of_le h1 hS.1) z))]; exact hS.2.1 q h1 h2, fun q hq => by
      rcases List.mem_append.mp hq with h | h
      · exact hS.2.2 q h
      · exact hf _ (hL q h)⟩⟩
theorem vx_calli {S SX : Type} {post : Int32 → S → Prop} {px : SX → Prop} {B : S → State → Prop} {BX : String → SX → State → Prop} {AX : Nat → Prop} (hr : vx_Run p l e R s m args below meth c H locs cells slots mc ms (F0 m pc ls st0) rest (va_Qi post B A1 a) (vx_X px BX AX) free) (hS : va_S A0 H0 H locs) (hA : ∀ q, q < H.size → A1 q → A0 q) (hf : ∀ q, free q → A0 q) (hAX : ∀ q, q < H.size → AX q → A0 q)
    (kx : ∀ (E : String) (ce : Cell) (q9 : Addr) (u : SX) (t : State) (H1 : Heap) (locs1 : List Loc), t.heap = H1 → s.vm.Alike t.vm → px u → BX E u t → H.size ≤ H1.size → (∀ q : Nat, q < H.size → ¬ AX q → H1[q]? = H[q]?) → va_S A0 H0 H1 locs1 → H1[q9]? = some ce → ce.vm = .none → s.vm.findClass E = some ce.cls → vx_W p l e R s m args below meth c H1 locs1 (cells + mc) (slots + ms) Q (F0 m pc ls rest) q9)
    (kk : ∀ (r : Int32) (u : S) (t : State) (H1 : Heap) (locs1 : List Loc), t.heap = H1 → s.vm.Alike t.vm → post r u → B u t → H.size ≤ H1.size → (∀ q : Nat, q < H.size → ¬ A1 q → H1[q]? = H[q]?) → va_S A0 H0 H1 locs1 → W p l e R s m args below meth c H1 locs1 (cells + mc) (slots + ms) Q (F0 m (pc + 3) ls (.int r :: rest))) : W p l e R s m args below meth c H locs cells slots Q (F0 m pc ls st0) := by
  intro T hT X
  rcases hr T hT X with ⟨v, st₀, t, T', L, h0, X', hL, e1, e2, ⟨⟨r, u, hv, hp, hb⟩, hF⟩, st⟩ | ⟨q, st₀, t, T', L, E, ce, h0, X', hL, e1, e2, ⟨u, hp, hb, hF⟩, hce, hcv, hcl, st⟩
  · cases hv
    obtain ⟨k1, k2, k3⟩ := vx_keep h0 e1 hS hA hf hL hF
    obtain ⟨t2, a1, b1⟩ := kk r u t T'.heap (locs ++ L) e1.symm (by rw [← e2]; exact X'.warmed.alike) hp hb k1 k2 k3 T' rfl X'
    exact ⟨t2, st t2 a1, b1⟩
  · obtain ⟨k1, k2, k3⟩ := vx_keep h0 e1 hS hAX hf hL hF
    obtain ⟨t2, a1, b1⟩ := kx E ce q u t T'.heap (locs ++ L) e1.symm (by rw [← e2]; exact X'.warmed.alike) hp hb k1 k2 k3 (by rw [e1]; exact hce) hcv hcl T' rfl X'
    exact ⟨t2, st.trans a1, b1⟩
theorem vx_calll {S SX : Type} {post : Int64 → S → Prop} {px : SX → Prop} {B : S → State → Prop} {BX : String → SX → State → Prop} {AX : Nat → Prop} (hr : vx_Run p l e R s m args below meth c H locs cells slots mc ms (F0 m pc ls st0) rest (va_Ql post B A1 a) (vx_X px BX AX) free) (hS : va_S A0 H0 H locs) (hA : ∀ q, q < H.size → A1 q → A0 q) (hf : ∀ q, free q → A0 q) (hAX : ∀ q, q < H.size → AX q → A0 q)
    (kx : ∀ (E : String) (ce : Cell) (q9 : Addr) (u : SX) (t : State) (H1 : Heap) (locs1 : List Loc), t.heap = H1 → s.vm.Alike t.vm → px u → BX E u t → H.size ≤ H1.size → (∀ q : Nat, q < H.size → ¬ AX q → H1[q]? = H[q]?) → va_S A0 H0 H1 locs1 → H1[q9]? = some ce → ce.vm = .none → s.vm.findClass E = some ce.cls → vx_W p l e R s m args below meth c H1 locs1 (cells + mc) (slots + ms) Q (F0 m pc ls rest) q9)
    (kk : ∀ (r : Int64) (u : S) (t : State) (H1 : Heap) (locs1 : List Loc), t.heap = H1 → s.vm.Alike t.vm → post r u → B u t → H.size ≤ H1.size → (∀ q : Nat, q < H.size → ¬ A1 q → H1[q]? = H[q]?) → va_S A0 H0 H1 locs1 → W p l e R s m args below meth c H1 locs1 (cells + mc) (slots + ms) Q (F0 m (pc + 3) ls (.long r :: rest))) : W p l e R s m args below meth c H locs cells slots Q (F0 m pc ls st0) := by
  intro T hT X
  rcases hr T hT X with ⟨v, st₀, t, T', L, h0, X', hL, e1, e2, ⟨⟨r, u, hv, hp, hb⟩, hF⟩, st⟩ | ⟨q, st₀, t, T', L, E, ce, h0, X', hL, e1, e2, ⟨u, hp, hb, hF⟩, hce, hcv, hcl, st⟩
  · cases hv
    obtain ⟨k1, k2, k3⟩ := vx_keep h0 e1 hS hA hf hL hF
    obtain ⟨t2, a1, b1⟩ := kk r u t T'.heap (locs ++ L) e1.symm (by rw [← e2]; exact X'.warmed.alike) hp hb k1 k2 k3 T' rfl X'
    exact ⟨t2, st t2 a1, b1⟩
  · obtain ⟨k1, k2, k3⟩ := vx_keep h0 e1 hS hAX hf hL hF
    obtain ⟨t2, a1, b1⟩ := kx E ce q u t T'.heap (locs ++ L) e1.symm (by rw [← e2]; exact X'.warmed.alike) hp hb k1 k2 k3 (by rw [e1]; exact hce) hcv hcl T' rfl X'
    exact ⟨t2, st.trans a1, b1⟩
theorem vx_callf {S SX : Type} {post : UInt32 → S → Prop} {px : SX → Prop} {B : S → State → Prop} {BX : String → SX → State → Prop} {AX : Nat → Prop} (hr : vx_Run p l e R s m args below meth c H locs cells slots mc ms (F0 m pc ls st0) rest (va_Qf post B A1 a) (vx_X px BX AX) free) (hS : va_S A0 H0 H locs) (hA : ∀ q, q < H.size → A1 q → A0 q) (hf : ∀ q, free q → A0 q) (hAX : ∀ q, q < H.size → AX q → A0 q)
    (kx : ∀ (E : String) (ce : Cell) (q9 : Addr) (u : SX) (t : State) (H1 : Heap) (locs1 : List Loc), t.heap = H1 → s.vm.Alike t.vm → px u → BX E u t → H.size ≤ H1.size → (∀ q : Nat, q < H.size → ¬ AX q → H1[q]? = H[q]?) → va_S A0 H0 H1 locs1 → H1[q9]? = some ce → ce.vm = .none → s.vm.findClass E = some ce.cls → vx_W p l e R s m args below meth c H1 locs1 (cells + mc) (slots + ms) Q (F0 m pc ls rest) q9)
    (kk : ∀ (r : UInt32) (u : S) (t : State) (H1 : Heap) (locs1 : List Loc), t.heap = H1 → s.vm.Alike t.vm → post r u → B u t → H.size ≤ H1.size → (∀ q : Nat, q < H.size → ¬ A1 q → H1[q]? = H[q]?) → va_S A0 H0 H1 locs1 → W p l e R s m args below meth c H1 locs1 (cells + mc) (slots + ms) Q (F0 m (pc + 3) ls (.float r :: rest))) : W p l e R s m args below meth c H locs cells slots Q (F0 m pc ls st0) := by
  intro T hT X
  rcases hr T hT X with ⟨v, st₀, t, T', L, h0, X', hL, e1, e2, ⟨⟨r, u, hv, hp, hb⟩, hF⟩, st⟩ | ⟨q, st₀, t, T', L, E, ce, h0, X', hL, e1, e2, ⟨u, hp, hb, hF⟩, hce, hcv, hcl, st⟩
  · cases hv
    obtain ⟨k1, k2, k3⟩ := vx_keep h0 e1 hS hA hf hL hF
    obtain ⟨t2, a1, b1⟩ := kk r u t T'.heap (locs ++ L) e1.symm (by rw [← e2]; exact X'.warmed.alike) hp hb k1 k2 k3 T' rfl X'
    exact ⟨t2, st t2 a1, b1⟩
  · obtain ⟨k1, k2, k3⟩ := vx_keep h0 e1 hS hAX hf hL hF
    obtain ⟨t2, a1, b1⟩ := kx E ce q u t T'.heap (locs ++ L) e1.symm (by rw [← e2]; exact X'.warmed.alike) hp hb k1 k2 k3 (by rw [e1]; exact hce) hcv hcl T' rfl X'
    exact ⟨t2, st.trans a1, b1⟩
theorem vx_calld {S SX : Type} {post : UInt64 → S → Prop} {px : SX → Prop} {B : S → State → Prop} {BX : String → SX → State → Prop} {AX : Nat → Prop} (hr : vx_Run p l e R s m args below meth c H locs cells slots mc ms (F0 m pc ls st0) rest (va_Qd post B A1 a) (vx_X px BX AX) free) (hS : va_S A0 H0 H locs) (hA : ∀ q, q < H.size → A1 q → A0 q) (hf : ∀ q, free q → A0 q) (hAX : ∀ q, q < H.size → AX q → A0 q)
    (kx : ∀ (E : String) (ce : Cell) (q9 : Addr) (u : SX) (t : State) (H1 : Heap) (locs1 : List Loc), t.heap = H1 → s.vm.Alike t.vm → px u → BX E u t → H.size ≤ H1.size → (∀ q : Nat, q < H.size → ¬ AX q → H1[q]? = H[q]?) → va_S A0 H0 H1 locs1 → H1[q9]? = some ce → ce.vm = .none → s.vm.findClass E = some ce.cls → vx_W p l e R s m args below meth c H1 locs1 (cells + mc) (slots + ms) Q (F0 m pc ls rest) q9)
    (kk : ∀ (r : UInt64) (u : S) (t : State) (H1 : Heap) (locs1 : List Loc), t.heap = H1 → s.vm.Alike t.vm → post r u → B u t → H.size ≤ H1.size → (∀ q : Nat, q < H.size → ¬ A1 q → H1[q]? = H[q]?) → va_S A0 H0 H1 locs1 → W p l e R s m args below meth c H1 locs1 (cells + mc) (slots + ms) Q (F0 m (pc + 3) ls (.double r :: rest))) : W p l e R s m args below meth c H locs cells slots Q (F0 m pc ls st0) := by
  intro T hT X
  rcases hr T hT X with ⟨v, st₀, t, T', L, h0, X', hL, e1, e2, ⟨⟨r, u, hv, hp, hb⟩, hF⟩, st⟩ | ⟨q, st₀, t, T', L, E, ce, h0, X', hL, e1, e2, ⟨u, hp, hb, hF⟩, hce, hcv, hcl, st⟩
  · cases hv
    obtain ⟨k1, k2, k3⟩ := vx_keep h0 e1 hS hA hf hL hF
    obtain ⟨t2, a1, b1⟩ := kk r u t T'.heap (locs ++ L) e1.symm (by rw [← e2]; exact X'.warmed.alike) hp hb k1 k2 k3 T' rfl X'
    exact ⟨t2, st t2 a1, b1⟩
  · obtain ⟨k1, k2, k3⟩ := vx_keep h0 e1 hS hAX hf hL hF
    obtain ⟨t2, a1, b1⟩ := kx E ce q u t T'.heap (locs ++ L) e1.symm (by rw [← e2]; exact X'.warmed.alike) hp hb k1 k2 k3 (by rw [e1]; exact hce) hcv hcl T' rfl X'
    exact ⟨t2, st.trans a1, b1⟩
theorem vx_callv {S SX : Type} {post : S → Prop} {px : SX → Prop} {B : S → State → Prop} {BX : String → SX → State → Prop} {AX : Nat → Prop} (hr : vx_Run p l e R s m args below meth c H locs cells slots mc ms (F0 m pc ls st0) rest (va_Qv post B A1 a) (vx_X px BX AX) free) (hS : va_S A0 H0 H locs) (hA : ∀ q, q < H.size → A1 q → A0 q) (hf : ∀ q, free q → A0 q) (hAX : ∀ q, q < H.size → AX q → A0 q)
    (kx : ∀ (E : String) (ce : Cell) (q9 : Addr) (u : SX) (t : State) (H1 : Heap) (locs1 : List Loc), t.heap = H1 → s.vm.Alike t.vm → px u → BX E u t → H.size ≤ H1.size → (∀ q : Nat, q < H.size → ¬ AX q → H1[q]? = H[q]?) → va_S A0 H0 H1 locs1 → H1[q9]? = some ce → ce.vm = .none → s.vm.findClass E = some ce.cls → vx_W p l e R s m args below meth c H1 locs1 (cells + mc) (slots + ms) Q (F0 m pc ls rest) q9)
    (kk : ∀ (u : S) (t : State) (H1 : Heap) (locs1 : List Loc), t.heap = H1 → s.vm.Alike t.vm → post u → B u t → H.size ≤ H1.size → (∀ q : Nat, q < H.size → ¬ A1 q → H1[q]? = H[q]?) → va_S A0 H0 H1 locs1 → W p l e R s m args below meth c H1 locs1 (cells + mc) (slots + ms) Q (F0 m (pc + 3) ls (rest))) : W p l e R s m args below meth c H locs cells slots Q (F0 m pc ls st0) := by
  intro T hT X
  rcases hr T hT X with ⟨v, st₀, t, T', L, h0, X', hL, e1, e2, ⟨⟨u, hv, hp, hb⟩, hF⟩, st⟩ | ⟨q, st₀, t, T', L, E, ce, h0, X', hL, e1, e2, ⟨u, hp, hb, hF⟩, hce, hcv, hcl, st⟩
  · cases hv
    obtain ⟨k1, k2, k3⟩ := vx_keep h0 e1 hS hA hf hL hF
    obtain ⟨t2, a1, b1⟩ := kk u t T'.heap (locs ++ L) e1.symm (by rw [← e2]; exact X'.warmed.alike) hp hb k1 k2 k3 T' rfl X'
    exact ⟨t2, st t2 a1, b1⟩
  · obtain ⟨k1, k2, k3⟩ := vx_keep h0 e1 hS hAX hf hL hF
    obtain ⟨t2, a1, b1⟩ := kx E ce q u t T'.heap (locs ++ L) e1.symm (by rw [← e2]; exact X'.warmed.alike) hp hb k1 k2 k3 (by rw [e1]; exact hce) hcv hcl T' rfl X'
    exact ⟨t2, st.trans a1, b1⟩
/-- caught by the row x of this method's table; the rows ahead don't take it -/
theorem vx_catch {own name : String} {E : String} {ce : Cell} {q : Addr} (hown : s.vm.findClass own = some m.cls) (pre : List ExceptionTableEntry) (x : ExceptionTableEntry) (suf : List ExceptionTableEntry) (hsplit : c.exceptionTable.toList = pre ++ x :: suf)
    (hpass : ∀ z ∈ pre, covers z pc = false ∨ (z.catchType ≠ 0 ∧ ∃ nm : String, (Cond.classLink own z.catchType nm).before args s = true ∧ va_Nc E nm s)) (hx : covers x pc = true) (h0 : x.catchType ≠ 0)
    (hlink : (Cond.classLink own x.catchType name).before args s = true) (hcast : (Cond.castable E name).before args s = true) (hcell : H[q]? = some ce) (hv : ce.vm = .none) (hcl : s.vm.findClass E = some ce.cls)
    (kk : W p l e R s m args below meth c H locs cells slots Q (F0 m x.handlerPc ls [.ref q])) : vx_W p l e R s m args below meth c H locs cells slots Q (F0 m pc ls rest) q := by
  intro T hT X
  have hpl : e.platform.magicAccessors = ({} : Platform).magicAccessors := by rw [X.admits.platform]
  obtain ⟨c3, c4, hc3, hc4, hasg⟩ := Cond.castable_spec hcast
  cases Option.some.inj (hc3.symm.trans hcl)
  obtain ⟨c5, hc5, hcl5⟩ := Cond.classLink_spec hown hlink e.platform hpl
  cases Option.some.inj (hc4.symm.trans hc5)
  obtain ⟨vm', X', st⟩ := X.thenCaughtThrough q (g := F0 m pc ls rest) rfl (Steps.refl _) (by rw [hT]; exact hcell) (by rw [hv]; rfl) (by obtain ⟨k9, h9, -⟩ := Vm.findClass_spec hcl; exact ⟨k9, h9⟩) pre x suf hsplit
    (fun z hz => by
      rcases hpass z hz with h | ⟨hz0, nm, hl1, hn1⟩
      · exact Or.inl h
      · obtain ⟨c6, hc6, hcl6⟩ := Cond.classLink_spec hown hl1 e.platform hpl
        obtain ⟨a8, b8, h1, h2, h3⟩ := hn1
        cases Option.some.inj (h1.symm.trans hcl)
        cases Option.some.inj (h2.symm.trans hc6)
        exact Or.inr ⟨hz0, _, hcl6, h3⟩) hx (Or.inr ⟨h0, c4, hcl5, hasg⟩)
  obtain ⟨t, a1, b1⟩ := kk (T.setVm vm') hT X'
  exact ⟨t, st.trans a1, b1⟩
end Rows
section Ends
variable {p : Program} {l : Launch} {e : Env} {R : Room} {s : State} {m : MethodId} {args : Array Value} {below : List Frame} {meth : Method} {c : Code} {H : Heap} {locs : List Loc} {cells slots : Nat} {Q : State → Prop}
variable {mc ms : Nat} {free : Addr → Prop} {A0 A1 : Nat → Prop} {H0 : Heap} {a : Array Value} {ls : Array Slot} {st0 rest : List Value}
variable {Qc : Array Value → State → Outcome → State → Prop} {XC : String → State → State → Prop}
/-- what a body that may throw owes at its end -/
def vx_MQ (below : List Frame) (Qc : Array Value → State → Outcome → State → Prop) (XC : String → State → State → Prop) (a : Array Value) (s : State) (mc ms : Nat) (free : Addr → Prop) : State → Prop := fun t =>
  ∃ o, t.status = .running ∧ Ended t below o ∧ vx_Q Qc XC mc ms free a s o t
theorem vx_ret {g : JFrame} {mc ms : Nat} (k : W p l e R s m args below meth c H locs cells slots (MQ below Qc args s mc ms free) g) : W p l e R s m args below meth c H locs cells slots (vx_MQ below Qc XC args s mc ms free) g := by
  intro T hT X
  obtain ⟨t, a1, o, b1, b2, b3, b4⟩ := k T hT X
  exact ⟨t, a1, o, b1, b2, Or.inl ⟨b3, b4⟩⟩
/-- not caught here: it goes on to the caller -/
theorem vx_widen {g : JFrame} {q : Addr} {k n : Nat} (h1 : cells ≤ k) (h2 : slots ≤ n) (kk : vx_W p l e R s m args below meth c H locs k n Q g q) : vx_W p l e R s m args below meth c H locs cells slots Q g q := fun T hT X => kk T hT (stand_widen X h1 h2)
theorem vx_out {pc : Nat} {E : String} {ce : Cell} {q : Addr} {mc ms : Nat} (hout : ∀ x ∈ c.exceptionTable.toList, covers x pc = false) (hlocks : meth.locks = false) (hcell : H[q]? = some ce) (hv : ce.vm = .none) (hcl : s.vm.findClass E = some ce.cls)
    (hx : ∀ t : State, t.heap = H → s.vm.Alike t.vm → XC E s t) (hf : ∀ z ∈ locs, free z.base) (hc : cells ≤ mc) (hs : slots ≤ ms) :
    vx_W p l e R s m args below meth c H locs cells slots (vx_MQ below Qc XC args s mc ms free) (F0 m pc ls rest) q := by
  intro T hT X
  obtain ⟨st1, hrun, hend, hW, hsm⟩ := X.leaveThrown q (g := F0 m pc ls rest) rfl rfl rfl hout hlocks
  have hcell9 : (T.setFrames (.throwing q :: below)).heap[q]? = some ce := by
    show T.heap[q]? = some ce
    rw [hT]; exact hcell
  exact ⟨_, st1, .threw q, hrun, hend, Or.inr ⟨q, rfl, E, ce, locs, hx _ hT hW.alike, hcell9, hv, hcl, hW, hsm.mono hc hs, hf⟩⟩
theorem vx_frame {U : State} {k n : Nat} (h : s.sameButNew ({ U with vm := s.vm } : State) locs k n) : s.heap.size ≤ U.heap.size ∧ ∀ q : Nat, q < s.heap.size → (∀ z ∈ locs, z.base ≠ q) → U.heap[q]? = s.heap[q]? := by
  obtain ⟨-, h2, -, -, -, h6⟩ := h
  refine ⟨h2, fun q hq hz => ?_⟩
  obtain ⟨c9, e1, e2, e3, e4⟩ := h6 q _ (Array.getElem?_eq_getElem hq)
  have hs : c9.slots = (s.heap[q]).slots := Array.ext_getElem? fun i => e4 i fun hm => hz _ hm rfl
  have h9 : c9 = s.heap[q] := by
    rw [hs] at e2
    exact e2
  have e5 : U.heap[q]? = some c9 := e1
  rw [e5, h9, Array.getElem?_eq_getElem hq]
/-- the words of a throw but the four that speak of the heap -/
def vx_no (w : Cond) : Bool := decide (w ≠ .isRef (.static Bundle.tN "UNASSIGNED_STACK" Bundle.steD)) && decide (w ≠ .isRef (.static Bundle.tN "SUPPRESSED_SENTINEL" Bundle.listD)) && decide (w ≠ .laysStatic Bundle.tN "UNASSIGNED_STACK" Bundle.steD) && decide (w ≠ .laysStatic Bundle.tN "SUPPRESSED_SENTINEL" Bundle.listD)
def vx_at0 (own : String) (ic : Nat) (X : String) (names : List String) : List Cond := (Bundle.ownAtoms0 own ic X names).filter vx_no
def vx_atS (own : String) (ic : Nat) (X : String) (names : List String) : List Cond := (Bundle.ownAtoms own ic X names).filter vx_no
/-- a word that the tables alone decide, or a good one -/
def vx_ot (w : Cond) : Bool := w.onTables || goodWord w
theorem vx_ot_at {args a' : Array Value} {s U : State} {w : Cond} (hW : s.WarmedH U.vm) (hvm : s.vm = U.vm) (hg : vx_ot w = true) (h : w.before args s = true) : w.before a' U = true := by
  simp only [vx_ot, Bool.or_eq_true] at hg
  rcases hg with hg | hg
  · exact va_tabs hg hvm h
  · exact word_at hW (good_of_word hg) h
/-- a list's words: the good ones out of the method's own list, the others by premises of their own -/
theorem vx_hat {args : Array Value} {s : State} {L B : List Cond} (h1 : ∀ w ∈ L.filter goodWord, w.before args s = true) (h2 : ∀ w ∈ L.filter (fun w => !goodWord w), w ∈ B) (h3 : ∀ w ∈ B, w.before args s = true) : ∀ w ∈ L, w.before args s = true := by
  intro w hw
  by_cases g : goodWord w = true
  · exact h1 w (List.mem_filter.mpr ⟨hw, g⟩)
  · refine h3 w (h2 w (List.mem_filter.mpr ⟨hw, ?_⟩))
    show (!goodWord w) = true
    cases hgw : goodWord w
    · rfl
    · exact absurd hgw g
theorem vx_c {args : Array Value} {s : State} {w : Cond} {B : List Cond} (h : w.before args s = true) (t : ∀ w ∈ B, w.before args s = true) : ∀ w' ∈ w :: B, w'.before args s = true := fun w' h' => (List.mem_cons.mp h').elim (fun e => by rw [e]; exact h) (t w')
theorem vx_n {args : Array Value} {s : State} : ∀ w ∈ ([] : List Cond), w.before args s = true := fun _ h => nomatch h
theorem vx_own {args : Array Value} {s : State} {L : List Cond} (h1 : ∀ w ∈ L.filter vx_no, w.before args s = true)
    (hU : (Cond.isRef (.static Bundle.tN "UNASSIGNED_STACK" Bundle.steD)).before args s = true) (hN : (Cond.isRef (.static Bundle.tN "SUPPRESSED_SENTINEL" Bundle.listD)).before args s = true)
    (lU : (Cond.laysStatic Bundle.tN "UNASSIGNED_STACK" Bundle.steD).before args s = true) (lN : (Cond.laysStatic Bundle.tN "SUPPRESSED_SENTINEL" Bundle.listD).before args s = true) : ∀ w ∈ L, w.before args s = true := by
  intro w hw
  by_cases e1 : w = .isRef (.static Bundle.tN "UNASSIGNED_STACK" Bundle.steD)
  · rw [e1]; exact hU
  · by_cases e2 : w = .isRef (.static Bundle.tN "SUPPRESSED_SENTINEL" Bundle.listD)
    · rw [e2]; exact hN
    · by_cases e3 : w = .laysStatic Bundle.tN "UNASSIGNED_STACK" Bundle.steD
      · rw [e3]; exact lU
      · by_cases e4 : w = .laysStatic Bundle.tN "SUPPRESSED_SENTINEL" Bundle.listD
        · rw [e4]; exact lN
        · exact h1 w (List.mem_filter.mpr ⟨hw, by unfold vx_no; rw [decide_eq_true e1, decide_eq_true e2, decide_eq_true e3, decide_eq_true e4]; rfl⟩)
/-- where a static field lies, its class's statics cell in H -/
def vx_L (C n d : String) (A : Nat → Prop) (U : State) (H : Heap) : Prop := ∃ (c : ClassId) (k : Class) (i : Nat) (f : Field) (a : Nat) (cell : Cell), U.vm.findClass C = some c ∧ U.fieldFound? C n d = some (c, k, i, f) ∧ f.isStatic = true ∧ k.statics = some a ∧ H[a]? = some cell ∧ cell.vm.isStatics = true ∧ cell.cls = c ∧ f.slot < cell.slots.size ∧ k.staticTypes[f.slot]? = some f.type ∧ ¬ A a
theorem vx_L.moved {C n d : String} {A : Nat → Prop} {u U : State} {H : Heap} (hvm : u.vm.Alike U.vm) (h : vx_L C n d A u H) : vx_L C n d A U H := by
  obtain ⟨c, k, i, f, a, cell, h1, h2, h3, h4, h5, h6, h7, h8, h9, h10⟩ := h
  obtain ⟨k', hi', he⟩ := State.fieldFound?_setVm hvm h2
  exact ⟨c, k', i, f, a, cell, by rw [hvm.findClass]; exact h1, hi', h3, by rw [he]; exact h4, h5, h6, h7, h8, by rw [he]; exact h9, h10⟩
theorem vx_L.kept {C n d : String} {A : Nat → Prop} {U : State} {H H1 : Heap} (h : vx_L C n d A U H) (hq : ∀ a : Nat, a < H.size → ¬ A a → H1[a]? = H[a]?) : vx_L C n d A U H1 := by
  obtain ⟨c, k, i, f, a, cell, h1, h2, h3, h4, h5, h6, h7, h8, h9, h10⟩ := h
  exact ⟨c, k, i, f, a, cell, h1, h2, h3, h4, by rw [hq a (Array.getElem?_eq_some_iff.mp h5).1 h10]; exact h5, h6, h7, h8, h9, h10⟩
theorem vx_L.narrow {C n d : String} {A B : Nat → Prop} {U : State} {H : Heap} (h : vx_L C n d A U H) (hAB : ∀ q, B q → A q) : vx_L C n d B U H := by
  obtain ⟨c, k, i, f, a, cell, h1, h2, h3, h4, h5, h6, h7, h8, h9, h10⟩ := h
  exact ⟨c, k, i, f, a, cell, h1, h2, h3, h4, h5, h6, h7, h8, h9, fun z => h10 (hAB _ z)⟩
theorem vx_L.word {C n d : String} {A : Nat → Prop} {s : State} {args : Array Value} (h : vx_L C n d A s s.heap) : (Cond.laysStatic C n d).before args s = true := by
  obtain ⟨c, k, i, f, a, cell, h1, h2, h3, h4, h5, h6, h7, h8, h9, -⟩ := h
  show (Cond.laysStatic C n d).holds args s none s [] = true
  exact Cond.laysStatic_of h1 h2 h3 h4 h5 h6 h7 h8 h9
/-- .. and what it holds: null or some reference -/
def vx_Zq (C n d : String) (A : Nat → Prop) (U : State) (H : Heap) : Prop := va_Zq C n d A U H ∧ vx_L C n d A U H
theorem vx_Zq.moved {C n d : String} {A : Nat → Prop} {u U : State} {H : Heap} (hvm : u.vm.Alike U.vm) (h : vx_Zq C n d A u H) : vx_Zq C n d A U H := ⟨va_Zq.moved hvm h.1, vx_L.moved hvm h.2⟩
theorem vx_Zq.kept {C n d : String} {A : Nat → Prop} {U : State} {H H1 : Heap} (h : vx_Zq C n d A U H) (hq : ∀ a : Nat, a < H.size → ¬ A a → H1[a]? = H[a]?) : vx_Zq C n d A U H1 := ⟨va_Zq.kept h.1 hq, vx_L.kept h.2 hq⟩
theorem vx_Zq.narrow {C n d : String} {A B : Nat → Prop} {U : State} {H : Heap} (h : vx_Zq C n d A U H) (hAB : ∀ q, B q → A q) : vx_Zq C n d B U H := ⟨va_Zq.narrow h.1 hAB, vx_L.narrow h.2 hAB⟩
theorem vx_Zqof {args : Array Value} {s : State} {C n d : String} {A : Nat → Prop} (hl : (Cond.laysStatic C n d).before args s = true) (hini : (Cond.initialized C).before args s = true) (h : (Cond.isRef (.static C n d)).before args s = true) (hA : ∀ a : Nat, a < s.heap.size → ¬ A a) : vx_Zq C n d A s s.heap := by
  refine ⟨va_Zqof hl hini h hA, ?_⟩
  obtain ⟨c, k, i, f, a, cell, h1, h2, h3, h4, h5, h6, h7, h8, h9⟩ := Cond.laysStatic_spec hl
  exact ⟨c, k, i, f, a, cell, h1, h2, h3, h4, h5, h6, h7, h8, h9, hA a (Array.getElem?_eq_some_iff.mp h5).1⟩
theorem vx_isRef {C n d : String} {v : Value} {A : Nat → Prop} {s : State} {args : Array Value} (h : va_Z C n d v A s s.heap) (hv : v.isRef = true) : (Cond.isRef (.static C n d)).before args s = true := by
  obtain ⟨cf, kf, fi, f, a, cell, h1, h2, h3, h4, h5, h6, h7, -⟩ := h
  have he : (Term.static C n d).eval args s none [] s = some v := by
    simp [Term.eval, State.fieldNamed?, h1, h2, h4, h5, h6, h7]
  simp only [Cond.before, Cond.holds, Cond.value, he]
  cases v <;> simp_all [Value.isRef]
theorem vx_isRefq {C n d : String} {A : Nat → Prop} {s : State} {args : Array Value} (h : va_Zq C n d A s s.heap) : (Cond.isRef (.static C n d)).before args s = true := by
  rcases h with h | ⟨t, h⟩
  · exact vx_isRef h rfl
  · exact vx_isRef h rfl
/-- the same frame, seen from here: as if the method were called anew in this heap -/
theorem vx_rebase {T : State} (X : Stand p l e R s m args below meth c T locs cells slots) {R' : Room} (hf : R'.frames ≤ R.frames) (hl : R'.locals ≤ R.locals) (hc : cells + R'.cells ≤ R.cells) (hs : slots + R'.slots ≤ R.slots) :
    Stand p l e R' ((T.setVm s.vm).setFrames (.invoking m args :: below)) m args below meth c T [] 0 0 := by
  have htop : (T.setVm s.vm).topJava?.isSome := X.here.top
  have hF : ((T.setVm s.vm).setFrames (.invoking m args :: below)).frames = .invoking m args :: below := State.frames_setFrames _ (State.cur_lt_of_top htop)
  obtain ⟨g₀, hg0⟩ := Option.isSome_iff_exists.mp htop
  obtain ⟨r, hr⟩ := State.topJava?_eq_some.mp hg0
  have hl9 : e.platform.stackLimits (T.setVm s.vm).me = e.platform.stackLimits s.me := X.limits
  have hb9 : (T.setVm s.vm).me.stackBytes = s.me.stackBytes := X.bytes
  refine ⟨X.admits, X.cas, X.clock, hF, ?_, X.hears, X.method, X.code, X.here, X.tail, X.warmed, ?_, ?_, ?_⟩
  · have h := X.room
    have hU : ((T.setVm s.vm).setFrames (.invoking m args :: below)).localsInUse = s.localsInUse := by
      rw [State.localsInUse_invoking hF (meth := meth) (c := c) X.method X.code, State.localsInUse_invoking X.frames X.method X.code]
    simp only [State.hasRoom, Bool.and_eq_true, decide_eq_true_eq] at h ⊢
    obtain ⟨⟨⟨⟨h1, h2, h3, h4, h5, h6⟩, h7⟩, h8⟩, h9⟩ := h
    rw [X.frames, List.length_cons] at h2 h3
    have q1 := X.heapSize
    have q2 := X.used
    simp only [hF, hU, List.length_cons, State.stackLimits_setFrames, State.stackBytes_setFrames, hl9, hb9]
    refine ⟨⟨⟨⟨by omega, by omega, by omega, by omega, by omega, h6⟩, ?_⟩, ?_⟩, X.book⟩
    · show T.heap.size + R'.cells ≤ e.platform.maxCells
      omega
    · show T.slotsUsed + R'.slots ≤ e.platform.maxSlots
      omega
  · rw [State.stackLimits_setFrames]; rfl
  · rw [State.stackBytes_setFrames]; rfl
  · refine ⟨?_, Nat.le_refl _, Nat.le_refl _, ?_, ?_, fun a c9 h9 => ⟨c9, h9, rfl, rfl, fun _ _ => rfl⟩⟩
    · obtain ⟨t, ht, -⟩ := State.frames_cons hr
      show T.setVm s.vm = { ((T.setVm s.vm).setFrames (.invoking m args :: below)).setFrames (T.setVm s.vm).frames with heap := T.heap, slotsUsed := T.slotsUsed }
      rw [State.setFrames_setFrames, State.setFrames_self ht]
      rfl
    · show T.slotsUsed = T.slotsUsed + ((T.heap.toList.drop T.heap.size).map (·.slots.size)).sum
      rw [List.drop_eq_nil_of_le (Nat.le_of_eq Array.length_toList)]
      rfl
    · show ((T.heap.toList.drop T.heap.size).map (·.slots.size)).sum ≤ 0
      rw [List.drop_eq_nil_of_le (Nat.le_of_eq Array.length_toList)]
      exact Nat.le_refl _
/-- 'throw new E()': new; dup; invokespecial; athrow -/
theorem vx_throw0 {cc : ByteArray} {pc : Nat} (hexec : p.tables.exec = Jvm.exec) (hb : c.code = cc) (hl : l.stackTraces = false) {own cls : String} {names : List String} {ik ic mc ms : Nat} {A : Nat → Prop}
    (hown : s.vm.findClass own = some m.cls) (hcls : Bundle.fit cls = true) (hnames : ∀ n ∈ names, Bundle.fit n = true)
    (hk : (Cond.classLink own ik cls).before args s = true) (hini : (Cond.initialized cls).before args s = true) (hat : ∀ w ∈ vx_at0 own ic cls names, w.before args s = true)
    (hgood : ∀ w ∈ Cond.classLink own ik cls :: Cond.initialized cls :: vx_at0 own ic cls names, vx_ot w = true)
    (hU : vx_Zq Bundle.tN "UNASSIGNED_STACK" Bundle.steD A s s.heap) (hN : vx_Zq Bundle.tN "SUPPRESSED_SENTINEL" Bundle.listD A s s.heap) (hS : va_S A s.heap H locs) (hsize : ls.size = c.maxLocals)
    (d0 : decode cc pc = .ok (.new ik, 3)) (d3 : decode cc (pc + 3) = .ok (.dup, 1)) (d4 : decode cc (pc + 4) = .ok (.invokespecial ic, 3)) (d7 : decode cc (pc + 7) = .ok (.athrow, 1))
    (hout : ∀ x ∈ c.exceptionTable.toList, covers x (pc + 7) = false)
    (hRframes : names.length + 3 < R.frames) (hRlocals : (rest.map fun v => v.category).sum + (13 * (names.length + 1) + 42) ≤ R.locals) (hRcells : cells + 1 ≤ R.cells) (hRslots : slots + 6 ≤ R.slots) (hlocks : meth.locks = false)
    (hx : ∀ t : State, s.vm.Alike t.vm → H.size ≤ t.heap.size → (∀ q : Nat, q < H.size → t.heap[q]? = H[q]?) → XC cls s t)
    (hf : ∀ z ∈ locs, free z.base) (hc : cells + 1 ≤ mc) (hs : slots + 6 ≤ ms) :
    W p l e R s m args below meth c H locs cells slots (vx_MQ below Qc XC args s mc ms free) (F0 m pc ls rest) := by
  intro T hT X
  have htr : e.platform.stackTraces = false := (show e.platform.stackTraces = l.stackTraces by rw [X.admits.platform]).trans hl
  have Y := vx_rebase X (R' := { frames := R.frames, locals := R.locals, cells := 1, slots := 6 }) (Nat.le_refl _) (Nat.le_refl _) hRcells hRslots
  obtain ⟨s', hA⟩ : ∃ z, z = (T.setVm s.vm).setFrames (.invoking m args :: below) := ⟨_, rfl⟩
  rw [← hA] at Y
  have hvm : s'.vm = s.vm := by rw [hA]; rfl
  have hhp : s'.heap = H := by rw [hA]; exact hT
  have hW0 : s.WarmedH s'.vm := by rw [hvm]; exact State.WarmedH.refl s
  have hat' : ∀ w ∈ vx_at0 own ic cls names, w.before args s' = true := fun w hw => vx_ot_at hW0 hvm.symm (hgood w (List.mem_cons_of_mem _ (List.mem_cons_of_mem _ hw))) (hat w hw)
  have hk' : (Cond.classLink own ik cls).before args s' = true := vx_ot_at hW0 hvm.symm (hgood _ List.mem_cons_self) hk
  have hini' : (Cond.initialized cls).before args s' = true := vx_ot_at hW0 hvm.symm (hgood _ (List.mem_cons_of_mem _ List.mem_cons_self)) hini
  have hU' : vx_Zq Bundle.tN "UNASSIGNED_STACK" Bundle.steD A s' s'.heap := by rw [hhp]; exact vx_Zq.moved hW0.alike (hU.kept hS.2.1)
  have hN' : vx_Zq Bundle.tN "SUPPRESSED_SENTINEL" Bundle.listD A s' s'.heap := by rw [hhp]; exact vx_Zq.moved hW0.alike (hN.kept hS.2.1)
  have h : ∀ w ∈ Bundle.ownAtoms0 own ic cls names, w.before args s' = true := vx_own hat' (vx_isRefq hU'.1) (vx_isRefq hN'.1) hU'.2.word hN'.2.word
  have hown' : s'.vm.findClass own = some m.cls := by rw [hvm]; exact hown
  have hins : (Cond.instantiable cls 6).before args s' = true := h _ (by simp [Bundle.ownAtoms0])
  obtain ⟨vm₁, cX, kX, hfX, hkX, -, -, X₁, st1⟩ := Y.newCold hexec (own := own) (C := cls) (index := ik) (n := 6) hown' hk' hins hini'
    (g := F0 m pc ls rest) rfl (by rw [hb]; exact d0) (Nat.le_refl _) (Nat.le_refl _)
  generalize hT1 : (T.setVm vm₁).pushCell { cls := cX, slots := kX.instanceTypes.map defaultValue, vm := .none } = T1 at X₁ st1
  have hcat : (Value.ref T.heap.size).category = 1 := rfl
  have hcellA : T1.heap[T.heap.size]? = some (freshCell cX kX) := by rw [← hT1]; exact State.heap_pushCell_size _ _
  have d3' : decode c.code (pc + 3) = .ok (.dup, 1) := by rw [hb]; exact d3
  obtain ⟨U, hsteps, hrun, hend, hW, hsame, ce, hce, hO⟩ := X₁.ctorThrow0 hexec htr (own := own) (cls := cls) (names := names) (ic := ic) hown' hcls hnames h (fun x hx => nomatch hx) hfX hkX hcellA (by rw [hhp, hT]; exact Nat.le_refl _)
    (g := { method := m, pc := pc + 4, locals := ls, stack := .ref T.heap.size :: .ref T.heap.size :: rest, locked := none }) rfl hsize rfl rfl (rest := rest) rfl
    (by rw [hb]; exact d4) (by rw [hb]; exact d7) hout hRframes (by simp only [List.map_cons, List.sum_cons, hcat]; omega) hlocks
  obtain ⟨f1, f2⟩ := vx_frame hsame
  rw [hhp] at f1 f2
  have hWs : s.WarmedH U.vm := State.WarmedH.trans hW0 hW
  have hcl : s.vm.findClass cls = some ce.cls := by
    have h9 := hO.cls
    rw [hvm] at h9
    exact h9
  have hall : s.sameButNew ({ U with vm := s.vm } : State) locs mc ms := by
    subst hA
    obtain ⟨e1, e2⟩ := hsame
    rw [State.setFrames_setFrames] at e1
    have h2 : (T.setVm s.vm).sameButNew ({ U with vm := s.vm } : State) [] (0 + 1) (0 + 6) := ⟨e1, e2⟩
    have h3 := X.same.trans h2
    rw [List.append_nil] at h3
    exact h3.mono hc hs
  refine ⟨U, ?_, .threw T.heap.size, hrun, hend, Or.inr ⟨T.heap.size, rfl, cls, ce, locs, hx U hWs.alike f1 (fun q hq => f2 q hq (fun z hz => nomatch hz)), hce, hO.vm, hcl, hWs, hall, hf⟩⟩
  refine st1 _ ?_
  show Steps p.tables e below (T1.setTop { method := m, pc := pc + 3, locals := ls, stack := .ref T.heap.size :: rest, locked := none }) _
  jvm_step X₁.here [X₁.here.top, hexec, d3', Value.category]
  exact hsteps
/-- 'throw new E("text")': new; dup; ldc; invokespecial; athrow -/
theorem vx_throwS {cc : ByteArray} {pc : Nat} (hexec : p.tables.exec = Jvm.exec) (hb : c.code = cc) (hl : l.stackTraces = false) {own cls text : String} {names : List String} {ik is ic mc ms sa : Nat} {A : Nat → Prop}
    (hown : s.vm.findClass own = some m.cls) (hcls : Bundle.fit cls = true) (hnames : ∀ n ∈ names, Bundle.fit n = true)
    (hk : (Cond.classLink own ik cls).before args s = true) (hini : (Cond.initialized cls).before args s = true) (hstr : vk_R own is text sa s) (hat : ∀ w ∈ vx_atS own ic cls names, w.before args s = true)
    (hgood : ∀ w ∈ Cond.classLink own ik cls :: Cond.initialized cls :: vx_atS own ic cls names, vx_ot w = true)
    (hU : vx_Zq Bundle.tN "UNASSIGNED_STACK" Bundle.steD A s s.heap) (hN : vx_Zq Bundle.tN "SUPPRESSED_SENTINEL" Bundle.listD A s s.heap) (hS : va_S A s.heap H locs) (hsize : ls.size = c.maxLocals)
    (d0 : decode cc pc = .ok (.new ik, 3)) (d3 : decode cc (pc + 3) = .ok (.dup, 1)) (d4 : decode cc (pc + 4) = .ok (.ldc is, 2)) (d6 : decode cc (pc + 6) = .ok (.invokespecial ic, 3)) (d9 : decode cc (pc + 9) = .ok (.athrow, 1))
    (hout : ∀ x ∈ c.exceptionTable.toList, covers x (pc + 9) = false)
    (hRframes : names.length + 3 < R.frames) (hRlocals : (rest.map fun v => v.category).sum + (13 * (names.length + 1) + 43) ≤ R.locals) (hRcells : cells + 1 ≤ R.cells) (hRslots : slots + 6 ≤ R.slots) (hlocks : meth.locks = false)
    (hx : ∀ t : State, s.vm.Alike t.vm → H.size ≤ t.heap.size → (∀ q : Nat, q < H.size → t.heap[q]? = H[q]?) → XC cls s t)
    (hf : ∀ z ∈ locs, free z.base) (hc : cells + 1 ≤ mc) (hs : slots + 6 ≤ ms) :
    W p l e R s m args below meth c H locs cells slots (vx_MQ below Qc XC args s mc ms free) (F0 m pc ls rest) := by
  intro T hT X
  have htr : e.platform.stackTraces = false := (show e.platform.stackTraces = l.stackTraces by rw [X.admits.platform]).trans hl
  have Y := vx_rebase X (R' := { frames := R.frames, locals := R.locals, cells := 1, slots := 6 }) (Nat.le_refl _) (Nat.le_refl _) hRcells hRslots
  obtain ⟨s', hA⟩ : ∃ z, z = (T.setVm s.vm).setFrames (.invoking m args :: below) := ⟨_, rfl⟩
  rw [← hA] at Y
  have hvm : s'.vm = s.vm := by rw [hA]; rfl
  have hhp : s'.heap = H := by rw [hA]; exact hT
  have hW0 : s.WarmedH s'.vm := by rw [hvm]; exact State.WarmedH.refl s
  have hat' : ∀ w ∈ vx_atS own ic cls names, w.before args s' = true := fun w hw => vx_ot_at hW0 hvm.symm (hgood w (List.mem_cons_of_mem _ (List.mem_cons_of_mem _ hw))) (hat w hw)
  have hk' : (Cond.classLink own ik cls).before args s' = true := vx_ot_at hW0 hvm.symm (hgood _ List.mem_cons_self) hk
  have hini' : (Cond.initialized cls).before args s' = true := vx_ot_at hW0 hvm.symm (hgood _ (List.mem_cons_of_mem _ List.mem_cons_self)) hini
  have hU' : vx_Zq Bundle.tN "UNASSIGNED_STACK" Bundle.steD A s' s'.heap := by rw [hhp]; exact vx_Zq.moved hW0.alike (hU.kept hS.2.1)
  have hN' : vx_Zq Bundle.tN "SUPPRESSED_SENTINEL" Bundle.listD A s' s'.heap := by rw [hhp]; exact vx_Zq.moved hW0.alike (hN.kept hS.2.1)
  have h : ∀ w ∈ Bundle.ownAtoms own ic cls names, w.before args s' = true := vx_own hat' (vx_isRefq hU'.1) (vx_isRefq hN'.1) hU'.2.word hN'.2.word
  have hown' : s'.vm.findClass own = some m.cls := by rw [hvm]; exact hown
  have hins : (Cond.instantiable cls 6).before args s' = true := h _ (by simp [Bundle.ownAtoms])
  obtain ⟨vm₁, cX, kX, hfX, hkX, -, -, X₁, st1⟩ := Y.newCold hexec (own := own) (C := cls) (index := ik) (n := 6) hown' hk' hins hini'
    (g := F0 m pc ls rest) rfl (by rw [hb]; exact d0) (Nat.le_refl _) (Nat.le_refl _)
  generalize hT1 : (T.setVm vm₁).pushCell { cls := cX, slots := kX.instanceTypes.map defaultValue, vm := .none } = T1 at X₁ st1
  have hcat : (Value.ref T.heap.size).category = 1 := rfl
  have hcellA : T1.heap[T.heap.size]? = some (freshCell cX kX) := by rw [← hT1]; exact State.heap_pushCell_size _ _
  have d3' : decode c.code (pc + 3) = .ok (.dup, 1) := by rw [hb]; exact d3
  have d4' : decode c.code (pc + 4) = .ok (.ldc is, 2) := by rw [hb]; exact d4
  have hstr' : vk_R own is text sa s' := vk_R.warm hW0 hstr
  obtain ⟨U, hsteps, hrun, hend, hW, hsame, ce, hce, hO⟩ := X₁.ctorThrowS hexec htr (own := own) (cls := cls) (names := names) (ic := ic) hown' hcls hnames h (fun x hx => nomatch hx) hfX hkX hcellA (by rw [hhp, hT]; exact Nat.le_refl _) (msg := .ref sa) rfl
    (g := { method := m, pc := pc + 6, locals := ls, stack := .ref sa :: .ref T.heap.size :: .ref T.heap.size :: rest, locked := none }) rfl hsize rfl rfl (rest := rest) rfl
    (by rw [hb]; exact d6) (by rw [hb]; exact d9) hout hRframes (by simp only [List.map_cons, List.sum_cons, hcat]; omega) hlocks
  obtain ⟨f1, f2⟩ := vx_frame hsame
  rw [hhp] at f1 f2
  have hWs : s.WarmedH U.vm := State.WarmedH.trans hW0 hW
  have hcl : s.vm.findClass cls = some ce.cls := by
    have h9 := hO.cls
    rw [hvm] at h9
    exact h9
  have hall : s.sameButNew ({ U with vm := s.vm } : State) locs mc ms := by
    subst hA
    obtain ⟨e1, e2⟩ := hsame
    rw [State.setFrames_setFrames] at e1
    have h2 : (T.setVm s.vm).sameButNew ({ U with vm := s.vm } : State) [] (0 + 1) (0 + 6) := ⟨e1, e2⟩
    have h3 := X.same.trans h2
    rw [List.append_nil] at h3
    exact h3.mono hc hs
  refine ⟨U, ?_, .threw T.heap.size, hrun, hend, Or.inr ⟨T.heap.size, rfl, cls, ce, locs, hx U hWs.alike f1 (fun q hq => f2 q hq (fun z hz => nomatch hz)), hce, hO.vm, hcl, hWs, hall, hf⟩⟩
  refine st1 _ ?_
  show Steps p.tables e below (T1.setTop { method := m, pc := pc + 3, locals := ls, stack := .ref T.heap.size :: rest, locked := none }) _
  jvm_step X₁.here [X₁.here.top, hexec, d3', Value.category]
  exact X₁.ldcString hexec (own := own) (text := text) (index := is) (a := sa) hown' hstr'.1 hstr'.2
    (g := { method := m, pc := pc + 4, locals := ls, stack := .ref T.heap.size :: .ref T.heap.size :: rest, locked := none }) rfl d4' _ hsteps
/-- 'throw new E("text")', the text by a wide index -/
theorem vx_throwSW {cc : ByteArray} {pc : Nat} (hexec : p.tables.exec = Jvm.exec) (hb : c.code = cc) (hl : l.stackTraces = false) {own cls text : String} {names : List String} {ik is ic mc ms sa : Nat} {A : Nat → Prop}
    (hown : s.vm.findClass own = some m.cls) (hcls : Bundle.fit cls = true) (hnames : ∀ n ∈ names, Bundle.fit n = true)
    (hk : (Cond.classLink own ik cls).before args s = true) (hini : (Cond.initialized cls).before args s = true) (hstr : vk_R own is text sa s) (hat : ∀ w ∈ vx_atS own ic cls names, w.before args s = true)
    (hgood : ∀ w ∈ Cond.classLink own ik cls :: Cond.initialized cls :: vx_atS own ic cls names, vx_ot w = true)
    (hU : vx_Zq Bundle.tN "UNASSIGNED_STACK" Bundle.steD A s s.heap) (hN : vx_Zq Bundle.tN "SUPPRESSED_SENTINEL" Bundle.listD A s s.heap) (hS : va_S A s.heap H locs) (hsize : ls.size = c.maxLocals)
    (d0 : decode cc pc = .ok (.new ik, 3)) (d3 : decode cc (pc + 3) = .ok (.dup, 1)) (d4 : decode cc (pc + 4) = .ok (.ldc_w is, 3)) (d7 : decode cc (pc + 7) = .ok (.invokespecial ic, 3)) (d10 : decode cc (pc + 10) = .ok (.athrow, 1))
    (hout : ∀ x ∈ c.exceptionTable.toList, covers x (pc + 10) = false)
    (hRframes : names.length + 3 < R.frames) (hRlocals : (rest.map fun v => v.category).sum + (13 * (names.length + 1) + 43) ≤ R.locals) (hRcells : cells + 1 ≤ R.cells) (hRslots : slots + 6 ≤ R.slots) (hlocks : meth.locks = false)
    (hx : ∀ t : State, s.vm.Alike t.vm → H.size ≤ t.heap.size → (∀ q : Nat, q < H.size → t.heap[q]? = H[q]?) → XC cls s t)
    (hf : ∀ z ∈ locs, free z.base) (hc : cells + 1 ≤ mc) (hs : slots + 6 ≤ ms) :
    W p l e R s m args below meth c H locs cells slots (vx_MQ below Qc XC args s mc ms free) (F0 m pc ls rest) := by
  intro T hT X
  have htr : e.platform.stackTraces = false := (show e.platform.stackTraces = l.stackTraces by rw [X.admits.platform]).trans hl
  have Y := vx_rebase X (R' := { frames := R.frames, locals := R.locals, cells := 1, slots := 6 }) (Nat.le_refl _) (Nat.le_refl _) hRcells hRslots
  obtain ⟨s', hA⟩ : ∃ z, z = (T.setVm s.vm).setFrames (.invoking m args :: below) := ⟨_, rfl⟩
  rw [← hA] at Y
  have hvm : s'.vm = s.vm := by rw [hA]; rfl
  have hhp : s'.heap = H := by rw [hA]; exact hT
  have hW0 : s.WarmedH s'.vm := by rw [hvm]; exact State.WarmedH.refl s
  have hat' : ∀ w ∈ vx_atS own ic cls names, w.before args s' = true := fun w hw => vx_ot_at hW0 hvm.symm (hgood w (List.mem_cons_of_mem _ (List.mem_cons_of_mem _ hw))) (hat w hw)
  have hk' : (Cond.classLink own ik cls).before args s' = true := vx_ot_at hW0 hvm.symm (hgood _ List.mem_cons_self) hk
  have hini' : (Cond.initialized cls).before args s' = true := vx_ot_at hW0 hvm.symm (hgood _ (List.mem_cons_of_mem _ List.mem_cons_self)) hini
  have hU' : vx_Zq Bundle.tN "UNASSIGNED_STACK" Bundle.steD A s' s'.heap := by rw [hhp]; exact vx_Zq.moved hW0.alike (hU.kept hS.2.1)
  have hN' : vx_Zq Bundle.tN "SUPPRESSED_SENTINEL" Bundle.listD A s' s'.heap := by rw [hhp]; exact vx_Zq.moved hW0.alike (hN.kept hS.2.1)
  have h : ∀ w ∈ Bundle.ownAtoms own ic cls names, w.before args s' = true := vx_own hat' (vx_isRefq hU'.1) (vx_isRefq hN'.1) hU'.2.word hN'.2.word
  have hown' : s'.vm.findClass own = some m.cls := by rw [hvm]; exact hown
  have hins : (Cond.instantiable cls 6).before args s' = true := h _ (by simp [Bundle.ownAtoms])
  obtain ⟨vm₁, cX, kX, hfX, hkX, -, -, X₁, st1⟩ := Y.newCold hexec (own := own) (C := cls) (index := ik) (n := 6) hown' hk' hins hini'
    (g := F0 m pc ls rest) rfl (by rw [hb]; exact d0) (Nat.le_refl _) (Nat.le_refl _)
  generalize hT1 : (T.setVm vm₁).pushCell { cls := cX, slots := kX.instanceTypes.map defaultValue, vm := .none } = T1 at X₁ st1
  have hcat : (Value.ref T.heap.size).category = 1 := rfl
  have hcellA : T1.heap[T.heap.size]? = some (freshCell cX kX) := by rw [← hT1]; exact State.heap_pushCell_size _ _
  have d3' : decode c.code (pc + 3) = .ok (.dup, 1) := by rw [hb]; exact d3
  have d4' : decode c.code (pc + 4) = .ok (.ldc_w is, 3) := by rw [hb]; exact d4
  have hstr' : vk_R own is text sa s' := vk_R.warm hW0 hstr
  obtain ⟨U, hsteps, hrun, hend, hW, hsame, ce, hce, hO⟩ := X₁.ctorThrowS hexec htr (own := own) (cls := cls) (names := names) (ic := ic) hown' hcls hnames h (fun x hx => nomatch hx) hfX hkX hcellA (by rw [hhp, hT]; exact Nat.le_refl _) (msg := .ref sa) rfl
    (g := { method := m, pc := pc + 7, locals := ls, stack := .ref sa :: .ref T.heap.size :: .ref T.heap.size :: rest, locked := none }) rfl hsize rfl rfl (rest := rest) rfl
    (by rw [hb]; exact d7) (by rw [hb]; exact d10) hout hRframes (by simp only [List.map_cons, List.sum_cons, hcat]; omega) hlocks
  obtain ⟨f1, f2⟩ := vx_frame hsame
  rw [hhp] at f1 f2
  have hWs : s.WarmedH U.vm := State.WarmedH.trans hW0 hW
  have hcl : s.vm.findClass cls = some ce.cls := by
    have h9 := hO.cls
    rw [hvm] at h9
    exact h9
  have hall : s.sameButNew ({ U with vm := s.vm } : State) locs mc ms := by
    subst hA
    obtain ⟨e1, e2⟩ := hsame
    rw [State.setFrames_setFrames] at e1
    have h2 : (T.setVm s.vm).sameButNew ({ U with vm := s.vm } : State) [] (0 + 1) (0 + 6) := ⟨e1, e2⟩
    have h3 := X.same.trans h2
    rw [List.append_nil] at h3
    exact h3.mono hc hs
  refine ⟨U, ?_, .threw T.heap.size, hrun, hend, Or.inr ⟨T.heap.size, rfl, cls, ce, locs, hx U hWs.alike f1 (fun q hq => f2 q hq (fun z hz => nomatch hz)), hce, hO.vm, hcl, hWs, hall, hf⟩⟩
  refine st1 _ ?_
  show Steps p.tables e below (T1.setTop { method := m, pc := pc + 3, locals := ls, stack := .ref T.heap.size :: rest, locked := none }) _
  jvm_step X₁.here [X₁.here.top, hexec, d3', Value.category]
  exact X₁.ldcStringW hexec (own := own) (text := text) (index := is) (a := sa) hown' hstr'.1 hstr'.2
    (g := { method := m, pc := pc + 4, locals := ls, stack := .ref T.heap.size :: .ref T.heap.size :: rest, locked := none }) rfl d4' _ hsteps
end Ends
section Bodies
variable {l : Launch}
theorem vx_ofW {y : MethodName} {ws ws' : List Cond} {rm : Room} {Pc : Array Value → State → Prop} {Qc : Array Value → State → Outcome → State → Prop} {XC : String → State → State → Prop} {mc ms : Nat} {free : Addr → Prop} {cc : ByteArray} {maxL : Nat} {ret : Option FieldType}
    (hy : plainName y.cls = true) (hw : ws = Cond.code y cc maxL ret :: ws')
    (body : ∀ p e s m args below meth c s₁, BodyLoose p l y (headSpec ws rm) cc maxL ret e s m args below meth c s₁ → c.maxLocals = maxL → (∀ x ∈ c.exceptionTable.toList, False) → Pc args s →
      W p l e (headSpec ws rm).room s m args below meth c s.heap [] 0 0 (vx_MQ below Qc XC args s mc ms free) (entryFrame m args maxL)) : vx_Met l y ws rm Pc Qc XC mc ms free := by
  refine MetFree.of_bodyS (code := cc) (maxLocals := maxL) (ret := ret) hy ?_ ?_
  · intro args s m h hn
    obtain ⟨meth, c, h1, h2, h3, h4, h5, h6, -, -⟩ := Cond.code_spec hn (atoms_spec (ws := ws) h _ (by rw [hw]; exact List.mem_cons_self))
    exact ⟨meth, c, h1, h2, h3, h4, h5, h6⟩
  · intro p e s m args below meth c s₁ B hml hP _
    have hh0 : s₁.heap = s.heap := by rw [B.state]; rfl
    have ht : ∀ x ∈ c.exceptionTable.toList, False := by
      obtain ⟨meth9, c9, h1, h2, -, -, -, -, h7, -⟩ := Cond.code_spec B.named (atoms_spec (ws := ws) B.pre _ (by rw [hw]; exact List.mem_cons_self))
      cases Option.some.inj (h1.symm.trans B.method)
      cases Option.some.inj (h2.symm.trans (Stand.of_body B).code)
      intro x hx
      rw [Array.isEmpty_iff.mp h7] at hx
      cases hx
    obtain ⟨t, a1, o, b1, b2, b3⟩ := body p e s m args below meth c s₁ B hml ht hP s₁ hh0 (Stand.of_body B)
    exact ⟨t, o, a1, b1, b2, b3⟩
/-- the table of a body with handlers -/
theorem vx_table {p : Program} {x y : MethodName} {S : Spec} {cc bytes : ByteArray} {maxL maxL' : Nat} {ret ret' : Option FieldType} {e : Env} {s s₁ : State} {m : MethodId} {args : Array Value} {below : List Frame} {meth : Method} {c : Code} {hh : List (Nat × Nat × Nat × Nat)}
    (B : BodyLoose p l y S cc maxL ret e s m args below meth c s₁) (h : (Cond.codeWith y bytes maxL' ret' hh).before args s = true) : c.exceptionTable.toList = tableOf hh := by
  obtain ⟨m9, meth9, c9, hn9, h1, h2, -, -, h6, -⟩ := Cond.codeWith_spec h
  cases Option.some.inj (hn9.symm.trans B.named)
  cases Option.some.inj (h1.symm.trans B.method)
  cases Option.some.inj (h2.symm.trans (Stand.of_body B).code)
  rw [← h6, table_eq]
end Bodies
end VXA
/-! ===== END ===== -/
/-! ===== BEGIN a static call of a method with an exception table ===== -/
section VXS
variable {p : Program} {l : Launch} {e : Env} {R : Room} {s : State} {m : MethodId} {args : Array Value} {below : List Frame} {meth : Method} {c : Code} {T : State} {H : Heap} {locs : List Loc} {cells slots : Nat}
abbrev vx_CSW (R : Room) (s : State) (args : Array Value) (own : String) (index : Nat) (y : MethodName) (bytes : ByteArray) (maxL : Nat) (ret : Option FieldType) (hh : List (Nat × Nat × Nat × Nat)) (ws : List Cond) (rm : Room) (mc ms n : Nat) : Prop :=
  (rm.cells = mc ∧ rm.slots = ms ∧ rm.frames + 1 ≤ R.frames ∧ 8 + (maxL + 11) + rm.locals ≤ R.locals ∧ (∀ w ∈ ws, ∀ (a' : Array Value) (U : State), s.WarmedH U.vm → w.before a' U = true) ∧ Cond.codeWith y bytes maxL ret hh ∈ ws) ∧
  (Cond.codeWith y bytes maxL ret hh).before args s = true ∧ (Cond.initialized y.cls).before args s = true ∧ (y.cls ≠ "java/lang/invoke/MethodHandle" ∧ y.cls ≠ "java/lang/invoke/VarHandle") ∧
  (∀ sig, parseMethodDescriptor y.desc = some sig → n = sig.parameters.length) ∧ (Cond.methodLink own index y).before args s = true ∧ (Cond.static y).before args s = true
theorem vx_cwSW {own : String} {index maxL mc ms : Nat} {y : MethodName} {bytes : ByteArray} {ret : Option FieldType} {hh : List (Nat × Nat × Nat × Nat)} {Ts ws ws' : List Cond} {rm : Room} (n : Nat) (ht : ∀ w ∈ Ts, w.before args s = true) (hT : GoodIn Ts (va_wsS own index y ws)) (hw : ws = Cond.codeWith y bytes maxL ret hh :: ws') (hrc : rm.cells = mc) (hrs : rm.slots = ms)
    (hd : y.cls ≠ "java/lang/invoke/MethodHandle" ∧ y.cls ≠ "java/lang/invoke/VarHandle" ∧ (parseMethodDescriptor y.desc).map (fun d => d.parameters.length) = some n) (hR : rm.frames + 1 ≤ R.frames ∧ 8 + (maxL + 11) + rm.locals ≤ R.locals) :
    vx_CSW R s args own index y bytes maxL ret hh ws rm mc ms n := by
  have ok : ∀ w ∈ va_wsS own index y ws, w.before args s = true := fun w h => ht w (hT w h).1
  have hG : GoodIn Ts ws := fun w h => hT w (by unfold va_wsS; exact List.mem_append_right _ h)
  have hc : Cond.codeWith y bytes maxL ret hh ∈ ws := by rw [hw]; exact List.mem_cons_self
  refine ⟨⟨hrc, hrs, hR.1, hR.2, pay_in ht hG, hc⟩, ht _ (hG _ hc).1, ok _ (by simp [va_wsS]), ⟨hd.1, hd.2.1⟩, fun sig h => ?_, ok _ (by simp [va_wsS]), ok _ (by simp [va_wsS])⟩
  have h2 := hd.2.2
  rw [h] at h2
  exact (Option.some.inj h2).symm
theorem vx_callSW (X : Stand p l e R s m args below meth c T locs cells slots) (hexec : p.tables.exec = Jvm.exec) {own : String} {index : Nat} {y : MethodName} {bytes : ByteArray} {maxL : Nat} {ret : Option FieldType} {hh : List (Nat × Nat × Nat × Nat)}
    (hown : s.vm.findClass own = some m.cls) (hlink : (Cond.methodLink own index y).before args s = true) (hstat : (Cond.static y).before args s = true) (hinit : (Cond.initialized y.cls).before args s = true)
    (hcode : (Cond.codeWith y bytes maxL ret hh).before args s = true) (hy : y.cls ≠ "java/lang/invoke/MethodHandle" ∧ y.cls ≠ "java/lang/invoke/VarHandle")
    {W9 : Nat} {Pre : Pt → Array Value → Prop} {Post : Pt → Array Value → Option Value → Pt → Prop} (hK : Back l R p e below s args y 3 W9 Pre Post)
    {g : JFrame} (hg : g.method = m) (hsize : g.locals.size = c.maxLocals) {argsL rest : List Value} (hlen : ∀ sig, parseMethodDescriptor y.desc = some sig → argsL.length = sig.parameters.length)
    (hstack : g.stack = argsL.reverse ++ rest) (hW : 2 * g.monitorRoom + (rest.map fun v => v.category).sum ≤ W9) (hdg : decode c.code g.pc = .ok (.invokestatic index, 3))
    (hpre : ∀ vm₁, s.WarmedH vm₁ → Pre ⟨T.setVm vm₁, locs, cells, slots⟩ argsL.toArray) :
    ∃ (v : Option Value) (vm₁ : Vm) (B : Pt), s.WarmedH vm₁ ∧ Stand p l e R s m args below meth c B.U B.locs B.cells B.slots ∧ Post ⟨T.setVm vm₁, locs, cells, slots⟩ argsL.toArray v B ∧
      ∀ target, Steps p.tables e below (B.U.setTop { g with pc := g.pc + 3, stack := v.toList ++ rest }) target → Steps p.tables e below (T.setTop g) target := by
  obtain ⟨mk, methM, cM, hnamed, hmethM, -, -, -, -, -, -, hsigM⟩ := Cond.codeWith_spec hcode
  have hstatic : methM.isStatic = true := Cond.static_spec hnamed hmethM hstat
  obtain ⟨kP, hkP, -⟩ := className_of_methodNamed hnamed
  have hinitP : kP.init = .initialized := Cond.initialized_spec (findClass_of_methodNamed hnamed) hkP hinit
  obtain ⟨vm₁, X₁, hstep₁⟩ := X.invokestatic hexec hown hlink hnamed hmethM hstatic hkP hinitP hy (g := g) hg (argsL := argsL) (rest := rest) (hlen _ hsigM) hstack hdg
  obtain ⟨v, B, X', hpost, hsteps⟩ := hK m meth c ⟨T.setVm vm₁, locs, cells, slots⟩ { g with stack := rest } (.invokestatic index) mk argsL.toArray X₁ hg hsize hdg hW (X₁.named hnamed) (hpre vm₁ X₁.warmed)
  exact ⟨v, vm₁, B, X₁.warmed, X', hpost, fun target h => hstep₁ _ fun acts => by rw [doInvoke_state]; exact hsteps.trans h⟩
theorem vx_runSW {y : MethodName} {bytes cc : ByteArray} {maxL nL mc ms n index : Nat} {ret : Option FieldType} {hh : List (Nat × Nat × Nat × Nat)} {ws : List Cond} {rm : Room} {Pc : Array Value → State → Prop} {Qc : Array Value → State → Outcome → State → Prop} {free : Addr → Prop} {Ts : List Cond} {own : String} {As rest : List Value} {g : JFrame}
    (S : CallFix p m c cc nL s args Ts own) (hM : Met l y ws rm Pc Qc mc ms free) (cw : vx_CSW R s args own index y bytes maxL ret hh ws rm mc ms n) (hp : PreS s H Pc As)
    (hg : g.method = m) (hn : As.length = n) (hsize : g.locals.size = nL) (hstack : g.stack = As.reverse ++ rest) (hW : 2 * g.monitorRoom + (rest.map fun v => v.category).sum ≤ 8) (hdg : decode cc g.pc = .ok (.invokestatic index, 3)) (hf : cells + mc ≤ R.cells ∧ slots + ms ≤ R.slots) :
    va_Run p l e R s m args below meth c H locs cells slots mc ms g rest (Qc As.toArray) (free) := by
  obtain ⟨⟨hrc, hrs, hfr, hlo, hws, hcw⟩, hcode, hini, hy, hlen, hl, hstt⟩ := cw
  have hK : Back l R p e below s args y 3 8 (PreOf R mc ms Pc) (PostOf Qc mc ms free) := va_backW (hh := hh) (bytes := bytes) (maxL := maxL) (ret := ret) hM hp.1 hrc hrs hfr hlo hws hcw (fun a' U hW => word_at hW (Or.inl (by first | rfl | simp [Cond.onTables, Cond.keeps, Cond.steady])) hini)
  obtain ⟨hx, hb, hml, ho, -⟩ := S
  intro T hT X
  obtain ⟨v, vm₁, ⟨U', l2, c2, s2⟩, hW₁, X', ⟨g', mk, t, L, e1, e2, hq, h1, hL, h2, h3⟩, st⟩ := vx_callSW X hx (hh := hh) (bytes := bytes) (maxL := maxL) (ret := ret) ho hl hstt hini hcode hy hK hg (hsize.trans hml.symm) (argsL := As) (rest := rest) (fun sig h => hn.trans (hlen sig h)) hstack hW (by rw [hb]; exact hdg)
    (fun vm₁ hW₁ => ⟨hf.1, hf.2, hp.2 (T.setVm vm₁) hT hW₁⟩)
  dsimp only [Pt.U, Pt.locs, Pt.cells, Pt.slots] at X' e1 e2 h1 h2 h3 st
  subst h1; subst h2; subst h3
  exact ⟨v, (T.setVm vm₁).calling g' mk As.toArray, t, U', L, hT, X', hL, e1, e2, hq, st⟩
/-- not caught here, past rows that name other classes: it goes on to the caller -/
theorem vx_outP {p : Program} {l : Launch} {e : Env} {R : Room} {s : State} {m : MethodId} {args : Array Value} {below : List Frame} {meth : Method} {c : Code} {H : Heap} {locs : List Loc} {cells slots : Nat} {free : Addr → Prop} {ls : Array Slot} {rest : List Value} {Qc : Array Value → State → Outcome → State → Prop} {XC : String → State → State → Prop}
    {pc : Nat} {own E : String} {ce : Cell} {q : Addr} {mc ms : Nat} (hown : s.vm.findClass own = some m.cls) (hlocks : meth.locks = false)
    (hpass : ∀ z ∈ c.exceptionTable.toList, covers z pc = false ∨ (z.catchType ≠ 0 ∧ ∃ nm : String, (Cond.classLink own z.catchType nm).before args s = true ∧ va_Nc E nm s)) (hcell : H[q]? = some ce) (hv : ce.vm = .none) (hcl : s.vm.findClass E = some ce.cls)
    (hx : ∀ t : State, t.heap = H → s.vm.Alike t.vm → XC E s t) (hf : ∀ z ∈ locs, free z.base) (hc : cells ≤ mc) (hs : slots ≤ ms) :
    vx_W p l e R s m args below meth c H locs cells slots (vx_MQ below Qc XC args s mc ms free) (F0 m pc ls rest) q := by
  intro T hT X
  have hpl : e.platform.magicAccessors = ({} : Platform).magicAccessors := by rw [X.admits.platform]
  obtain ⟨vm', hW', X', st⟩ := X.outThrough hlocks q (g := F0 m pc ls rest) rfl rfl rfl (cell := ce) (by rw [hT]; exact hcell) (by rw [hv]; rfl)
    (by obtain ⟨k9, h9, -⟩ := Vm.findClass_spec hcl; exact ⟨k9, h9⟩) (fun z hz => by
      rcases hpass z hz with h | ⟨hz0, nm, hl1, hn1⟩
      · exact Or.inl h
      · obtain ⟨c6, hc6, hcl6⟩ := Cond.classLink_spec hown hl1 e.platform hpl
        obtain ⟨a8, b8, h1, h2, h3⟩ := hn1
        cases Option.some.inj (h1.symm.trans hcl)
        cases Option.some.inj (h2.symm.trans hc6)
        exact Or.inr ⟨hz0, _, hcl6, h3⟩)
  obtain ⟨g₀, hfr⟩ := X'.frames_eq
  have hcell9 : ((T.setVm vm').setFrames (.throwing q :: below)).heap[q]? = some ce := by
    show T.heap[q]? = some ce
    rw [hT]; exact hcell
  have hend : Ended ((T.setVm vm').setFrames (.throwing q :: below)) below (.threw q) := State.frames_setFrames _ (State.cur_lt_of_frames hfr)
  refine ⟨(T.setVm vm').setFrames (.throwing q :: below), ?_, .threw q, X'.here.running, hend, Or.inr ⟨q, rfl, E, ce, locs, hx _ hT (X'.ends _).1.alike, hcell9, hv, hcl, (X'.ends _).1, (X'.ends _).2.mono hc hs, hf⟩⟩
  rw [X.pushThrowing_eq]
  exact st
/-- a thing of a world lies in the heap -/
theorem vx_lt {D : va_G} {cl : List vw_C} {ws : va_W} {H1 : Heap} (h : va_P D cl ws H1) {k : Nat} {q : Nat × va_E} (hk : ws[k]? = some q) : q.1 < H1.size := (h k q hk).lt
end VXS
/-! ===== END ===== -/
/-! ===== BEGIN methods with a table of their own: called by a name, returning or throwing ===== -/
section VXH
/-! vx_backW, vx_callVX, vx_callSX, vx_callVW, vx_runVW, vx_runVX, vx_runSX, vx_ofWH follow the same proofs as their sisters above (Free/Laws.lean, Shelf42/LK1.lean); vx_outP calls Shelf42/NT130.lean (outThrough). -/
section
variable {l : Launch} {R : Room} {p : Program} {e : Env} {below : List Frame} {s : State} {sargs : Array Value} {y : MethodName} {len W9 : Nat}
theorem vx_backW {ws : List Cond} {rm : Room} {Pc : Array Value → State → Prop} {Qc : Array Value → State → Outcome → State → Prop} {XC : String → State → State → Prop} {mc ms : Nat} {free : Addr → Prop} {bytes : ByteArray} {maxL : Nat} {ret : Option FieldType} {hh : List (Nat × Nat × Nat × Nat)}
    (hM : vx_Met l y ws rm Pc Qc XC mc ms free) (hblind : FrameBlind Pc) (hrc : rm.cells = mc) (hrs : rm.slots = ms)
    (hframes : rm.frames + 1 ≤ R.frames) (hlocals : W9 + (maxL + 11) + rm.locals ≤ R.locals)
    (hws : ∀ w ∈ ws, ∀ a' U, s.WarmedH U.vm → w.before a' U = true) (hcode : Cond.codeWith y bytes maxL ret hh ∈ ws) (hinit : ∀ a' U, s.WarmedH U.vm → (Cond.initialized y.cls).before a' U = true) :
    vx_Back l R p e below s sargs y len W9 (PreOf R mc ms Pc) (PostOf Qc mc ms free) (vx_Post XC mc ms free) := by
  intro m meth c A g ig mk a X hg hsize hdg hW hn hp
  have h1 : (headSpec ws rm).pre.before a A.U = true := atoms_intro fun w hw => hws w hw _ _ X.warmed
  have h2 : (Cond.codeWith y bytes maxL ret hh).before a A.U = true := hws _ hcode _ _ X.warmed
  have h3 : (Cond.initialized y.cls).before a A.U = true := hinit _ _ X.warmed
  have h4 : A.cells + (headSpec ws rm).room.cells ≤ R.cells := by rw [show (headSpec ws rm).room.cells = mc from hrc]; exact hp.1
  have h5 : A.slots + (headSpec ws rm).room.slots ≤ R.slots := by rw [show (headSpec ws rm).room.slots = ms from hrs]; exact hp.2.1
  have hPc : Pc a (A.U.calling g mk a) := hblind _ _ _ _ hp.2.2
  obtain ⟨U, Ls, c0, s0⟩ := A
  dsimp only [Pt.U, Pt.locs, Pt.cells, Pt.slots] at h1 h2 h3 h4 h5 X hn hPc ⊢
  obtain ⟨m9, methY, cY, hn9, hmY, hcY, -, hlY, -⟩ := Cond.codeWith_spec h2
  cases Option.some.inj (hn9.symm.trans hn)
  obtain ⟨kY, hkY, -⟩ := className_of_methodNamed hn
  have hinitY : kY.init = .initialized := Cond.initialized_spec (findClass_of_methodNamed hn) hkY h3
  have h : At U g.method c below := by rw [hg]; exact X.here
  have hlocals9 : W9 + (maxL + 11) + (headSpec ws rm).room.locals ≤ R.locals := hlocals
  have happ : (headSpec ws rm).appliesLoose y e.platform (U.calling g mk a) = true :=
    Spec.appliesLoose_calling (g := g) h hdg hn hkY hinitY
      (X.room_calling (g := g) (R' := (headSpec ws rm).room) hsize hmY hcY hframes (by rw [hlY]; omega) h4 h5) h1
  obtain ⟨mid, hmid⟩ := h.above
  have hfr : (U.setTop g).frames = (.java g :: mid) ++ below := by rw [State.frames_setTop' g h.top, hmid]; rfl
  obtain ⟨o, s₂, hsteps, -, hend, hq⟩ := Steps.callFree hM p X.admits X.cas X.clock (acts := []) hfr happ hPc trivial
  have hq' : vx_Q Qc XC mc ms free a (U.calling g mk a) o s₂ := hq
  rw [State.frames_setTop' g h.top] at hend
  obtain ⟨g₀, hg0⟩ := Option.isSome_iff_exists.mp h.top
  obtain ⟨r, hr⟩ := State.topJava?_eq_some.mp hg0
  have hr' : (({ U with heap := s₂.heap, slotsUsed := s₂.slotsUsed } : State).setVm s₂.vm).frames = .java g₀ :: r := hr
  rcases hq' with ⟨hqc, L, hfe, hL⟩ | ⟨q, rfl, E, ce, L, hx, hce, hcv, hcl, hW₂, hsm, hL⟩
  · obtain ⟨⟨v, rfl⟩, hW₂, e2, q2, q3, q4, q5, q6⟩ := id hfe
    have e3 : s₂ = ({ (U.calling g mk a).setFrames s₂.frames with heap := s₂.heap, slotsUsed := s₂.slotsUsed } : State).setVm s₂.vm := by
      have : s₂ = ({ s₂ with vm := (U.calling g mk a).vm } : State).setVm s₂.vm := rfl
      rw [e2] at this
      exact this
    obtain ⟨c₂, i₂, len₂, hc₂, hd₂, hf₂⟩ := hend
    have hW' : U.WarmedH s₂.vm := hW₂
    have hcc : c₂ = c := by
      have h1 : s₂.code? g.method = U.code? g.method := by
        rw [State.code?_eq, State.code?_eq, hW'.alike.method?]
      exact Option.some.inj (hc₂.symm.trans (h1.trans h.code))
    subst hcc
    have hlen : len₂ = len := by rw [hdg] at hd₂; cases hd₂; rfl
    subst hlen
    have hs₂ : s₂ = (({ U with heap := s₂.heap, slotsUsed := s₂.slotsUsed } : State).setVm s₂.vm).setTop { g with pc := g.pc + len₂, stack := v.toList ++ g.stack } := by
      refine e3.trans ?_
      rw [hf₂, State.calling_eq h.top, State.setFrames_setFrames, State.setTop_of_frames _ hr', hr]
      rfl
    have hsame : U.sameButNew ({ U with heap := s₂.heap, slotsUsed := s₂.slotsUsed } : State) L mc ms := by
      refine ⟨?_, q2, q3, q4, q5, q6⟩
      obtain ⟨t, ht, -⟩ := State.frames_cons hr
      show ({ U with heap := s₂.heap, slotsUsed := s₂.slotsUsed } : State) = { U.setFrames U.frames with heap := s₂.heap, slotsUsed := s₂.slotsUsed }
      rw [State.setFrames_self ht]
    subst hg
    refine Or.inl ⟨v, ⟨(({ U with heap := s₂.heap, slotsUsed := s₂.slotsUsed } : State).setVm s₂.vm), Ls ++ L, c0 + mc, s0 + ms⟩,
      ⟨X.admits, X.cas, X.clock, X.frames, X.room, X.hears, X.method, X.code, (X.here.setHeapUsed s₂.heap s₂.slotsUsed).setVm hW'.alike, X.tail, State.WarmedH.trans X.warmed hW', X.limits, X.bytes, X.same.trans (hsame.setVm s.vm)⟩,
      ⟨g, mk, s₂, L, rfl, rfl, hqc, rfl, hL, rfl, rfl⟩, ?_⟩
    show Steps p.tables e below _ ((({ U with heap := s₂.heap, slotsUsed := s₂.slotsUsed } : State).setVm s₂.vm).setTop { g with pc := g.pc + len₂, stack := v.toList ++ g.stack })
    rw [← hs₂]
    exact hsteps
  · obtain ⟨e2, q2, q3, q4, q5, q6⟩ := id hsm
    have e3 : s₂ = ({ (U.calling g mk a).setFrames s₂.frames with heap := s₂.heap, slotsUsed := s₂.slotsUsed } : State).setVm s₂.vm := by
      have : s₂ = ({ s₂ with vm := (U.calling g mk a).vm } : State).setVm s₂.vm := rfl
      rw [e2] at this
      exact this
    have hf₂ : s₂.frames = .throwing q :: .java g :: U.frames.tail := hend
    have hW' : U.WarmedH s₂.vm := hW₂
    have hs₂ : s₂ = ((({ U with heap := s₂.heap, slotsUsed := s₂.slotsUsed } : State).setVm s₂.vm).setTop g).pushFrame (.throwing q) := by
      refine e3.trans ?_
      rw [hf₂, State.calling_eq h.top, State.setFrames_setFrames, State.pushFrame, State.frames_setTop _ hr', State.setTop_of_frames _ hr', State.setFrames_setFrames, hr]
      rfl
    have hsame : U.sameButNew ({ U with heap := s₂.heap, slotsUsed := s₂.slotsUsed } : State) L mc ms := by
      refine ⟨?_, q2, q3, q4, q5, q6⟩
      obtain ⟨t, ht, -⟩ := State.frames_cons hr
      show ({ U with heap := s₂.heap, slotsUsed := s₂.slotsUsed } : State) = { U.setFrames U.frames with heap := s₂.heap, slotsUsed := s₂.slotsUsed }
      rw [State.setFrames_self ht]
    subst hg
    refine Or.inr ⟨q, ⟨(({ U with heap := s₂.heap, slotsUsed := s₂.slotsUsed } : State).setVm s₂.vm), Ls ++ L, c0 + mc, s0 + ms⟩,
      ⟨X.admits, X.cas, X.clock, X.frames, X.room, X.hears, X.method, X.code, (X.here.setHeapUsed s₂.heap s₂.slotsUsed).setVm hW'.alike, X.tail, State.WarmedH.trans X.warmed hW', X.limits, X.bytes, X.same.trans (hsame.setVm s.vm)⟩,
      ⟨g, mk, s₂, L, E, ce, rfl, rfl, hx, hce, hcv, hcl, rfl, hL, rfl, rfl⟩, ?_⟩
    show Steps p.tables e below _ (((({ U with heap := s₂.heap, slotsUsed := s₂.slotsUsed } : State).setVm s₂.vm).setTop g).pushFrame (.throwing q))
    rw [← hs₂]
    exact hsteps
end
variable {p : Program} {l : Launch} {e : Env} {R : Room} {s : State} {m : MethodId} {args : Array Value} {below : List Frame} {meth : Method} {c : Code} {T : State} {H : Heap} {locs : List Loc} {cells slots : Nat}
theorem vx_callVX (X : Stand p l e R s m args below meth c T locs cells slots) (hexec : p.tables.exec = Jvm.exec) {own C : String} {index : Nat} {y : MethodName} {bytes : ByteArray} {maxL : Nat} {ret : Option FieldType} {hh : List (Nat × Nat × Nat × Nat)}
    (hown : s.vm.findClass own = some m.cls) (hlink : (Cond.methodLink own index y).before args s = true) (hinst : (Cond.instanceMethod y).before args s = true) (hsel : (Cond.selects C y y).before args s = true)
    (hcode : (Cond.codeWith y bytes maxL ret hh).before args s = true) (hy : y.cls ≠ "java/lang/invoke/MethodHandle" ∧ y.cls ≠ "java/lang/invoke/VarHandle")
    {W9 : Nat} {Pre : Pt → Array Value → Prop} {Post : Pt → Array Value → Option Value → Pt → Prop} {PostX : Pt → Array Value → Addr → Pt → Prop} (hK : vx_Back l R p e below s args y 3 W9 Pre Post PostX)
    {b : Addr} {cellB : Cell} (hcell : T.heap[b]? = some cellB) (hobj : cellB.vm.isStatics = false) (hcls : s.vm.findClass C = some cellB.cls)
    {g : JFrame} (hg : g.method = m) (hsize : g.locals.size = c.maxLocals) {argsL rest : List Value} (hlen : ∀ sig, parseMethodDescriptor y.desc = some sig → argsL.length = sig.parameters.length)
    (hstack : g.stack = argsL.reverse ++ .ref b :: rest) (hW : 2 * g.monitorRoom + (rest.map fun v => v.category).sum ≤ W9) (hdg : decode c.code g.pc = .ok (.invokevirtual index, 3))
    (hpre : ∀ vm₁, s.WarmedH vm₁ → Pre ⟨T.setVm vm₁, locs, cells, slots⟩ (Value.ref b :: argsL).toArray) :
    (∃ (v : Option Value) (vm₁ : Vm) (B : Pt), s.WarmedH vm₁ ∧ Stand p l e R s m args below meth c B.U B.locs B.cells B.slots ∧ Post ⟨T.setVm vm₁, locs, cells, slots⟩ (Value.ref b :: argsL).toArray v B ∧
      ∀ target, Steps p.tables e below (B.U.setTop { g with pc := g.pc + 3, stack := v.toList ++ rest }) target → Steps p.tables e below (T.setTop g) target) ∨
    (∃ (q : Addr) (vm₁ : Vm) (B : Pt), s.WarmedH vm₁ ∧ Stand p l e R s m args below meth c B.U B.locs B.cells B.slots ∧ PostX ⟨T.setVm vm₁, locs, cells, slots⟩ (Value.ref b :: argsL).toArray q B ∧
      Steps p.tables e below (T.setTop g) ((B.U.setTop { g with stack := rest }).pushFrame (.throwing q))) := by
  obtain ⟨mk, methM, hnamed, hmethM, hstM, habM⟩ := Cond.instanceMethod_spec hinst
  obtain ⟨m8, methM', cM, hn8, hmethM', -, -, -, -, -, -, hsigM⟩ := Cond.codeWith_spec hcode
  cases Option.some.inj (hn8.symm.trans hnamed)
  cases hmethM.symm.trans hmethM'
  obtain ⟨c2, r2, m2, q1, q2, q3, q4, kP, hkP, hkPi⟩ := Cond.selects_spec hsel
  cases hcls.symm.trans q1
  cases (State.methodFound?_of_named hnamed hy).symm.trans q2
  cases hnamed.symm.trans q3
  have hselP : selectMethod e.platform s.vm cellB.cls mk = .method mk := by rw [Launch.admits_selectMethod X.admits]; exact q4
  obtain ⟨vm₁, X₁, hstep₁⟩ := X.invokevirtual hexec hown hlink hnamed hmethM hstM hkP hkPi hy (a := b) (cell := cellB) hcell
    (fun z h => by rw [h] at hobj; cases hobj) hselP hmethM habM hkP hkPi (g := g) hg (argsL := argsL) (rest := rest) (hlen _ hsigM) hstack hdg
  rcases hK m meth c ⟨T.setVm vm₁, locs, cells, slots⟩ { g with stack := rest } (.invokevirtual index) mk (Value.ref b :: argsL).toArray X₁ hg hsize hdg hW (X₁.named hnamed) (hpre vm₁ X₁.warmed) with ⟨v, B, X', hpost, hsteps⟩ | ⟨q, B, X', hpost, hsteps⟩
  · exact Or.inl ⟨v, vm₁, B, X₁.warmed, X', hpost, fun target h => hstep₁ _ fun acts => by rw [doInvoke_state]; exact hsteps.trans h⟩
  · exact Or.inr ⟨q, vm₁, B, X₁.warmed, X', hpost, hstep₁ _ fun acts => by rw [doInvoke_state]; exact hsteps⟩
theorem vx_callSX (X : Stand p l e R s m args below meth c T locs cells slots) (hexec : p.tables.exec = Jvm.exec) {own : String} {index : Nat} {y : MethodName} {bytes : ByteArray} {maxL : Nat} {ret : Option FieldType} {hh : List (Nat × Nat × Nat × Nat)}
    (hown : s.vm.findClass own = some m.cls) (hlink : (Cond.methodLink own index y).before args s = true) (hstat : (Cond.static y).before args s = true) (hinit : (Cond.initialized y.cls).before args s = true)
    (hcode : (Cond.codeWith y bytes maxL ret hh).before args s = true) (hy : y.cls ≠ "java/lang/invoke/MethodHandle" ∧ y.cls ≠ "java/lang/invoke/VarHandle")
    {W9 : Nat} {Pre : Pt → Array Value → Prop} {Post : Pt → Array Value → Option Value → Pt → Prop} {PostX : Pt → Array Value → Addr → Pt → Prop} (hK : vx_Back l R p e below s args y 3 W9 Pre Post PostX)
    {g : JFrame} (hg : g.method = m) (hsize : g.locals.size = c.maxLocals) {argsL rest : List Value} (hlen : ∀ sig, parseMethodDescriptor y.desc = some sig → argsL.length = sig.parameters.length)
    (hstack : g.stack = argsL.reverse ++ rest) (hW : 2 * g.monitorRoom + (rest.map fun v => v.category).sum ≤ W9) (hdg : decode c.code g.pc = .ok (.invokestatic index, 3))
    (hpre : ∀ vm₁, s.WarmedH vm₁ → Pre ⟨T.setVm vm₁, locs, cells, slots⟩ argsL.toArray) :
    (∃ (v : Option Value) (vm₁ : Vm) (B : Pt), s.WarmedH vm₁ ∧ Stand p l e R s m args below meth c B.U B.locs B.cells B.slots ∧ Post ⟨T.setVm vm₁, locs, cells, slots⟩ argsL.toArray v B ∧
      ∀ target, Steps p.tables e below (B.U.setTop { g with pc := g.pc + 3, stack := v.toList ++ rest }) target → Steps p.tables e below (T.setTop g) target) ∨
    (∃ (q : Addr) (vm₁ : Vm) (B : Pt), s.WarmedH vm₁ ∧ Stand p l e R s m args below meth c B.U B.locs B.cells B.slots ∧ PostX ⟨T.setVm vm₁, locs, cells, slots⟩ argsL.toArray q B ∧
      Steps p.tables e below (T.setTop g) ((B.U.setTop { g with stack := rest }).pushFrame (.throwing q))) := by
  obtain ⟨mk, methM, cM, hnamed, hmethM, -, -, -, -, -, -, hsigM⟩ := Cond.codeWith_spec hcode
  have hstatic : methM.isStatic = true := Cond.static_spec hnamed hmethM hstat
  obtain ⟨kP, hkP, -⟩ := className_of_methodNamed hnamed
  have hinitP : kP.init = .initialized := Cond.initialized_spec (findClass_of_methodNamed hnamed) hkP hinit
  obtain ⟨vm₁, X₁, hstep₁⟩ := X.invokestatic hexec hown hlink hnamed hmethM hstatic hkP hinitP hy (g := g) hg (argsL := argsL) (rest := rest) (hlen _ hsigM) hstack hdg
  rcases hK m meth c ⟨T.setVm vm₁, locs, cells, slots⟩ { g with stack := rest } (.invokestatic index) mk argsL.toArray X₁ hg hsize hdg hW (X₁.named hnamed) (hpre vm₁ X₁.warmed) with ⟨v, B, X', hpost, hsteps⟩ | ⟨q, B, X', hpost, hsteps⟩
  · exact Or.inl ⟨v, vm₁, B, X₁.warmed, X', hpost, fun target h => hstep₁ _ fun acts => by rw [doInvoke_state]; exact hsteps.trans h⟩
  · exact Or.inr ⟨q, vm₁, B, X₁.warmed, X', hpost, hstep₁ _ fun acts => by rw [doInvoke_state]; exact hsteps⟩
theorem vx_callVW (X : Stand p l e R s m args below meth c T locs cells slots) (hexec : p.tables.exec = Jvm.exec) {own C : String} {index : Nat} {y : MethodName} {bytes : ByteArray} {maxL : Nat} {ret : Option FieldType} {hh : List (Nat × Nat × Nat × Nat)}
    (hown : s.vm.findClass own = some m.cls) (hlink : (Cond.methodLink own index y).before args s = true) (hinst : (Cond.instanceMethod y).before args s = true) (hsel : (Cond.selects C y y).before args s = true)
    (hcode : (Cond.codeWith y bytes maxL ret hh).before args s = true) (hy : y.cls ≠ "java/lang/invoke/MethodHandle" ∧ y.cls ≠ "java/lang/invoke/VarHandle")
    {W9 : Nat} {Pre : Pt → Array Value → Prop} {Post : Pt → Array Value → Option Value → Pt → Prop} (hK : Back l R p e below s args y 3 W9 Pre Post)
    {b : Addr} {cellB : Cell} (hcell : T.heap[b]? = some cellB) (hobj : cellB.vm.isStatics = false) (hcls : s.vm.findClass C = some cellB.cls)
    {g : JFrame} (hg : g.method = m) (hsize : g.locals.size = c.maxLocals) {argsL rest : List Value} (hlen : ∀ sig, parseMethodDescriptor y.desc = some sig → argsL.length = sig.parameters.length)
    (hstack : g.stack = argsL.reverse ++ .ref b :: rest) (hW : 2 * g.monitorRoom + (rest.map fun v => v.category).sum ≤ W9) (hdg : decode c.code g.pc = .ok (.invokevirtual index, 3))
    (hpre : ∀ vm₁, s.WarmedH vm₁ → Pre ⟨T.setVm vm₁, locs, cells, slots⟩ (Value.ref b :: argsL).toArray) :
    ∃ (v : Option Value) (vm₁ : Vm) (B : Pt), s.WarmedH vm₁ ∧ Stand p l e R s m args below meth c B.U B.locs B.cells B.slots ∧ Post ⟨T.setVm vm₁, locs, cells, slots⟩ (Value.ref b :: argsL).toArray v B ∧
      ∀ target, Steps p.tables e below (B.U.setTop { g with pc := g.pc + 3, stack := v.toList ++ rest }) target → Steps p.tables e below (T.setTop g) target := by
  obtain ⟨mk, methM, hnamed, hmethM, hstM, habM⟩ := Cond.instanceMethod_spec hinst
  obtain ⟨m8, methM', cM, hn8, hmethM', -, -, -, -, -, -, hsigM⟩ := Cond.codeWith_spec hcode
  cases Option.some.inj (hn8.symm.trans hnamed)
  cases hmethM.symm.trans hmethM'
  obtain ⟨c2, r2, m2, q1, q2, q3, q4, kP, hkP, hkPi⟩ := Cond.selects_spec hsel
  cases hcls.symm.trans q1
  cases (State.methodFound?_of_named hnamed hy).symm.trans q2
  cases hnamed.symm.trans q3
  have hselP : selectMethod e.platform s.vm cellB.cls mk = .method mk := by rw [Launch.admits_selectMethod X.admits]; exact q4
  obtain ⟨vm₁, X₁, hstep₁⟩ := X.invokevirtual hexec hown hlink hnamed hmethM hstM hkP hkPi hy (a := b) (cell := cellB) hcell
    (fun z h => by rw [h] at hobj; cases hobj) hselP hmethM habM hkP hkPi (g := g) hg (argsL := argsL) (rest := rest) (hlen _ hsigM) hstack hdg
  obtain ⟨v, B, X', hpost, hsteps⟩ := hK m meth c ⟨T.setVm vm₁, locs, cells, slots⟩ { g with stack := rest } (.invokevirtual index) mk (Value.ref b :: argsL).toArray X₁ hg hsize hdg hW (X₁.named hnamed) (hpre vm₁ X₁.warmed)
  exact ⟨v, vm₁, B, X₁.warmed, X', hpost, fun target h => hstep₁ _ fun acts => by rw [doInvoke_state]; exact hsteps.trans h⟩
abbrev vx_CVW (R : Room) (s : State) (args : Array Value) (own C : String) (index : Nat) (y : MethodName) (bytes : ByteArray) (maxL : Nat) (ret : Option FieldType) (hh : List (Nat × Nat × Nat × Nat)) (ws : List Cond) (rm : Room) (mc ms n : Nat) : Prop :=
  (rm.cells = mc ∧ rm.slots = ms ∧ rm.frames + 1 ≤ R.frames ∧ 8 + (maxL + 11) + rm.locals ≤ R.locals ∧ (∀ w ∈ ws, ∀ (a' : Array Value) (U : State), s.WarmedH U.vm → w.before a' U = true) ∧ Cond.codeWith y bytes maxL ret hh ∈ ws) ∧
  (Cond.codeWith y bytes maxL ret hh).before args s = true ∧ (Cond.initialized y.cls).before args s = true ∧ (y.cls ≠ "java/lang/invoke/MethodHandle" ∧ y.cls ≠ "java/lang/invoke/VarHandle") ∧
  (∀ sig, parseMethodDescriptor y.desc = some sig → n = sig.parameters.length) ∧ (Cond.methodLink own index y).before args s = true ∧ (Cond.instanceMethod y).before args s = true ∧ (Cond.selects C y y).before args s = true
theorem vx_cwVW {own C : String} {index maxL mc ms : Nat} {y : MethodName} {bytes : ByteArray} {ret : Option FieldType} {hh : List (Nat × Nat × Nat × Nat)} {Ts ws ws' : List Cond} {rm : Room} (n : Nat) (ht : ∀ w ∈ Ts, w.before args s = true) (hT : GoodIn Ts (wsV own index C y ws)) (hw : ws = Cond.codeWith y bytes maxL ret hh :: ws') (hrc : rm.cells = mc) (hrs : rm.slots = ms)
    (hd : y.cls = C ∧ y.cls ≠ "java/lang/invoke/MethodHandle" ∧ y.cls ≠ "java/lang/invoke/VarHandle" ∧ (parseMethodDescriptor y.desc).map (fun d => d.parameters.length) = some n) (hR : rm.frames + 1 ≤ R.frames ∧ 8 + (maxL + 11) + rm.locals ≤ R.locals) :
    vx_CVW R s args own C index y bytes maxL ret hh ws rm mc ms n := by
  obtain ⟨hC, hd⟩ := hd
  subst hC
  have ok : ∀ w ∈ wsV own index y.cls y ws, w.before args s = true := fun w h => ht w (hT w h).1
  have hG : GoodIn Ts ws := fun w h => hT w (by unfold wsV; exact List.mem_append_right _ h)
  have hc : Cond.codeWith y bytes maxL ret hh ∈ ws := by rw [hw]; exact List.mem_cons_self
  refine ⟨⟨hrc, hrs, hR.1, hR.2, pay_in ht hG, hc⟩, ht _ (hG _ hc).1, ok _ (by simp [wsV]), ⟨hd.1, hd.2.1⟩, fun sig h => ?_, ok _ (by simp [wsV]), ok _ (by simp [wsV]), ok _ (by simp [wsV])⟩
  have h2 := hd.2.2
  rw [h] at h2
  exact (Option.some.inj h2).symm
theorem vx_runVW {y : MethodName} {bytes cc : ByteArray} {maxL nL mc ms n index : Nat} {ret : Option FieldType} {hh : List (Nat × Nat × Nat × Nat)} {ws : List Cond} {rm : Room} {Pc : Array Value → State → Prop} {Qc : Array Value → State → Outcome → State → Prop} {free : Addr → Prop} {Ts : List Cond} {own C : String} {b : Addr} {As rest : List Value} {g : JFrame}
    (S : CallFix p m c cc nL s args Ts own) (hM : Met l y ws rm Pc Qc mc ms free) (cw : vx_CVW R s args own C index y bytes maxL ret hh ws rm mc ms n) (hp : PreV s H C b Pc As)
    (hg : g.method = m) (hn : As.length = n) (hsize : g.locals.size = nL) (hstack : g.stack = As.reverse ++ .ref b :: rest) (hW : 2 * g.monitorRoom + (rest.map fun v => v.category).sum ≤ 8) (hdg : decode cc g.pc = .ok (.invokevirtual index, 3)) (hf : cells + mc ≤ R.cells ∧ slots + ms ≤ R.slots) :
    va_Run p l e R s m args below meth c H locs cells slots mc ms g rest (Qc (Value.ref b :: As).toArray) free := by
  obtain ⟨⟨hrc, hrs, hfr, hlo, hws, hcw⟩, hcode, hini, hy, hlen, hl, hin, hse⟩ := cw
  have hK : Back l R p e below s args y 3 8 (PreOf R mc ms Pc) (PostOf Qc mc ms free) := va_backW (hh := hh) (bytes := bytes) (maxL := maxL) (ret := ret) hM hp.1 hrc hrs hfr hlo hws hcw (fun a' U hW => word_at hW (Or.inl (by first | rfl | simp [Cond.onTables, Cond.keeps, Cond.steady])) hini)
  obtain ⟨hx, hb, hml, ho, -⟩ := S
  obtain ⟨-, ⟨cellB, hcB, hoB, hclB⟩, hPc⟩ := hp
  intro T hT X
  obtain ⟨v, vm₁, ⟨U', l2, c2, s2⟩, hW₁, X', ⟨g', mk, t, L, e1, e2, hq, h1, hL, h2, h3⟩, st⟩ := vx_callVW X hx (C := C) (hh := hh) (bytes := bytes) (maxL := maxL) (ret := ret) ho hl hin hse hcode hy hK (by rw [hT]; exact hcB) hoB hclB hg (hsize.trans hml.symm) (argsL := As) (rest := rest) (fun sig h => hn.trans (hlen sig h)) hstack hW (by rw [hb]; exact hdg)
    (fun vm₁ hW₁ => ⟨hf.1, hf.2, hPc (T.setVm vm₁) hT hW₁⟩)
  dsimp only [Pt.U, Pt.locs, Pt.cells, Pt.slots] at X' e1 e2 h1 h2 h3 st
  subst h1; subst h2; subst h3
  exact ⟨v, (T.setVm vm₁).calling g' mk (Value.ref b :: As).toArray, t, U', L, hT, X', hL, e1, e2, hq, st⟩
section
variable {y : MethodName} {bytes cc : ByteArray} {maxL nL mc ms n index : Nat} {ret : Option FieldType} {ws : List Cond} {rm : Room} {Pc : Array Value → State → Prop} {Qc : Array Value → State → Outcome → State → Prop} {XC : String → State → State → Prop} {free : Addr → Prop} {Ts : List Cond} {own C : String} {b : Addr} {As rest : List Value} {g : JFrame}
theorem vx_runVX {hh : List (Nat × Nat × Nat × Nat)} (S : CallFix p m c cc nL s args Ts own) (hM : vx_Met l y ws rm Pc Qc XC mc ms free) (cw : vx_CVW R s args own C index y bytes maxL ret hh ws rm mc ms n) (hp : PreV s H C b Pc As)
    (hg : g.method = m) (hn : As.length = n) (hsize : g.locals.size = nL) (hstack : g.stack = As.reverse ++ .ref b :: rest) (hW : 2 * g.monitorRoom + (rest.map fun v => v.category).sum ≤ 8) (hdg : decode cc g.pc = .ok (.invokevirtual index, 3)) (hf : cells + mc ≤ R.cells ∧ slots + ms ≤ R.slots) :
    vx_Run p l e R s m args below meth c H locs cells slots mc ms g rest (Qc (Value.ref b :: As).toArray) XC free := by
  obtain ⟨⟨hrc, hrs, hfr, hlo, hws, hcw⟩, hcode, hini, hy, hlen, hl, hin, hse⟩ := cw
  have hK : vx_Back l R p e below s args y 3 8 (PreOf R mc ms Pc) (PostOf Qc mc ms free) (vx_Post XC mc ms free) := vx_backW (hh := hh) (bytes := bytes) (maxL := maxL) (ret := ret) hM hp.1 hrc hrs hfr hlo hws hcw (fun a' U hW => word_at hW (Or.inl (by first | rfl | simp [Cond.onTables, Cond.keeps, Cond.steady])) hini)
  obtain ⟨hx, hb, hml, ho, -⟩ := S
  obtain ⟨-, ⟨cellB, hcB, hoB, hclB⟩, hPc⟩ := hp
  intro T hT X
  rcases vx_callVX X hx (C := C) (hh := hh) (bytes := bytes) (maxL := maxL) (ret := ret) ho hl hin hse hcode hy hK (by rw [hT]; exact hcB) hoB hclB hg (hsize.trans hml.symm) (argsL := As) (rest := rest) (fun sig h => hn.trans (hlen sig h)) hstack hW (by rw [hb]; exact hdg)
    (fun vm₁ hW₁ => ⟨hf.1, hf.2, hPc (T.setVm vm₁) hT hW₁⟩) with ⟨v, vm₁, ⟨U', l2, c2, s2⟩, hW₁, X', ⟨g', mk, t, L, e1, e2, hq, h1, hL, h2, h3⟩, st⟩ | ⟨q, vm₁, ⟨U', l2, c2, s2⟩, hW₁, X', ⟨g', mk, t, L, E, ce, e1, e2, hq, hce, hcv, hcl, h1, hL, h2, h3⟩, st⟩
  · dsimp only [Pt.U, Pt.locs, Pt.cells, Pt.slots] at X' e1 e2 h1 h2 h3 st
    subst h1; subst h2; subst h3
    exact Or.inl ⟨v, (T.setVm vm₁).calling g' mk (Value.ref b :: As).toArray, t, U', L, hT, X', hL, e1, e2, hq, st⟩
  · dsimp only [Pt.U, Pt.locs, Pt.cells, Pt.slots] at X' e1 e2 h1 h2 h3 st hcl
    subst h1; subst h2; subst h3
    exact Or.inr ⟨q, (T.setVm vm₁).calling g' mk (Value.ref b :: As).toArray, t, U', L, E, ce, hT, X', hL, e1, e2, hq, hce, hcv, vx_cls hW₁ hcl, st⟩
theorem vx_runSX {hh : List (Nat × Nat × Nat × Nat)} (S : CallFix p m c cc nL s args Ts own) (hM : vx_Met l y ws rm Pc Qc XC mc ms free) (cw : vx_CSW R s args own index y bytes maxL ret hh ws rm mc ms n) (hp : PreS s H Pc As)
    (hg : g.method = m) (hn : As.length = n) (hsize : g.locals.size = nL) (hstack : g.stack = As.reverse ++ rest) (hW : 2 * g.monitorRoom + (rest.map fun v => v.category).sum ≤ 8) (hdg : decode cc g.pc = .ok (.invokestatic index, 3)) (hf : cells + mc ≤ R.cells ∧ slots + ms ≤ R.slots) :
    vx_Run p l e R s m args below meth c H locs cells slots mc ms g rest (Qc As.toArray) XC free := by
  obtain ⟨⟨hrc, hrs, hfr, hlo, hws, hcw⟩, hcode, hini, hy, hlen, hl, hstt⟩ := cw
  have hK : vx_Back l R p e below s args y 3 8 (PreOf R mc ms Pc) (PostOf Qc mc ms free) (vx_Post XC mc ms free) := vx_backW (hh := hh) (bytes := bytes) (maxL := maxL) (ret := ret) hM hp.1 hrc hrs hfr hlo hws hcw (fun a' U hW => word_at hW (Or.inl (by first | rfl | simp [Cond.onTables, Cond.keeps, Cond.steady])) hini)
  obtain ⟨hx, hb, hml, ho, -⟩ := S
  intro T hT X
  rcases vx_callSX X hx (hh := hh) (bytes := bytes) (maxL := maxL) (ret := ret) ho hl hstt hini hcode hy hK hg (hsize.trans hml.symm) (argsL := As) (rest := rest) (fun sig h => hn.trans (hlen sig h)) hstack hW (by rw [hb]; exact hdg)
    (fun vm₁ hW₁ => ⟨hf.1, hf.2, hp.2 (T.setVm vm₁) hT hW₁⟩) with ⟨v, vm₁, ⟨U', l2, c2, s2⟩, hW₁, X', ⟨g', mk, t, L, e1, e2, hq, h1, hL, h2, h3⟩, st⟩ | ⟨q, vm₁, ⟨U', l2, c2, s2⟩, hW₁, X', ⟨g', mk, t, L, E, ce, e1, e2, hq, hce, hcv, hcl, h1, hL, h2, h3⟩, st⟩
  · dsimp only [Pt.U, Pt.locs, Pt.cells, Pt.slots] at X' e1 e2 h1 h2 h3 st
    subst h1; subst h2; subst h3
    exact Or.inl ⟨v, (T.setVm vm₁).calling g' mk As.toArray, t, U', L, hT, X', hL, e1, e2, hq, st⟩
  · dsimp only [Pt.U, Pt.locs, Pt.cells, Pt.slots] at X' e1 e2 h1 h2 h3 st hcl
    subst h1; subst h2; subst h3
    exact Or.inr ⟨q, (T.setVm vm₁).calling g' mk As.toArray, t, U', L, E, ce, hT, X', hL, e1, e2, hq, hce, hcv, vx_cls hW₁ hcl, st⟩
end
end VXH
theorem vx_ofWH {l : Launch} {y : MethodName} {ws ws' : List Cond} {rm : Room} {Pc : Array Value → State → Prop} {Qc : Array Value → State → Outcome → State → Prop} {XC : String → State → State → Prop} {mc ms : Nat} {free : Addr → Prop} {cc : ByteArray} {maxL : Nat} {ret : Option FieldType} {hh : List (Nat × Nat × Nat × Nat)}
    (hy : plainName y.cls = true) (hw : ws = Cond.codeWith y cc maxL ret hh :: ws')
    (body : ∀ p e s m args below meth c s₁, BodyLoose p l y (headSpec ws rm) cc maxL ret e s m args below meth c s₁ → c.maxLocals = maxL → Pc args s →
      W p l e (headSpec ws rm).room s m args below meth c s.heap [] 0 0 (vx_MQ below Qc XC args s mc ms free) (entryFrame m args maxL)) : vx_Met l y ws rm Pc Qc XC mc ms free := by
  refine MetFree.of_bodyS (code := cc) (maxLocals := maxL) (ret := ret) hy ?_ ?_
  · intro args s m h hn
    obtain ⟨m9, meth, c, hn9, h1, h2, h3, h4, -, h5, h6, -⟩ := Cond.codeWith_spec (atoms_spec (ws := ws) h _ (by rw [hw]; exact List.mem_cons_self))
    cases hn.symm.trans hn9
    exact ⟨meth, c, h1, h2, h3, h4, h5, h6⟩
  · intro p e s m args below meth c s₁ B hml hP _
    have hh0 : s₁.heap = s.heap := by rw [B.state]; rfl
    obtain ⟨t, a1, o, b1, b2, b3⟩ := body p e s m args below meth c s₁ B hml hP s₁ hh0 (Stand.of_body B)
    exact ⟨t, o, a1, b1, b2, b3⟩
/-! ===== END ===== -/

/-! names, out of the printed text -/
def RX0 : String := "StripeTasks$History"
def TX0 : u_T := fun k => match k with
  | 0 => ("StripeTasks$History", "states", "[LStripeTasks$State;", true)
  | 1 => ("StripeTasks$History", "oldest", "I", false)
  | _ => ("StripeTasks$History", "size", "I", false)
def tyX0 : Nat → FieldType := fun k => match k with
  | 0 => .array (.object "StripeTasks$State")
  | 1 => .int
  | _ => .int
abbrev wsX00 : List Cond := u_ws RX0 TX0 3
theorem nmX0 : ∀ a, a < 3 → ∀ b, b < 3 → a ≠ b → (TX0 a).2.1 ≠ (TX0 b).2.1 := by decide +kernel
theorem tyX0_ok : ∀ k, k < 3 → parseFieldDescriptor (TX0 k).2.2.1 = some (tyX0 k) := by decide +kernel
abbrev cX0_init : ByteArray := prog_2_method_1_code
def yX0_init : MethodName := ⟨RX0, "<init>", "()V"⟩
abbrev cX0_forgetAll : ByteArray := prog_2_method_2_code
def yX0_forgetAll : MethodName := ⟨RX0, "forgetAll", "()V"⟩
abbrev cX0_remember : ByteArray := prog_2_method_3_code
def yX0_remember : MethodName := ⟨RX0, "remember", "(LStripeTasks$State;)V"⟩
abbrev cX0_takeBack : ByteArray := prog_2_method_4_code
def yX0_takeBack : MethodName := ⟨RX0, "takeBack", "(LStripeTasks$State;)I"⟩
abbrev cX0_placeOf : ByteArray := prog_2_method_5_code
def yX0_placeOf : MethodName := ⟨RX0, "placeOf", "(I)I"⟩
def RX1 : String := "StripeTasks$State"
def TX1 : u_T := fun k => match k with
  | 0 => ("StripeTasks$State", "tasks", "[LStripeTasks$Task;", true)
  | 1 => ("StripeTasks$State", "bad", "[Z", true)
  | 2 => ("StripeTasks$State", "settings", "[I", true)
  | 3 => ("StripeTasks$State", "count", "I", false)
  | 4 => ("StripeTasks$State", "ticks", "I", false)
  | 5 => ("StripeTasks$State", "works", "I", false)
  | 6 => ("StripeTasks$State", "jobTask", "I", false)
  | 7 => ("StripeTasks$State", "jobFirst", "I", false)
  | 8 => ("StripeTasks$State", "jobTicks", "I", false)
  | 9 => ("StripeTasks$State", "jobsDone", "I", false)
  | _ => ("StripeTasks$State", "jobsLost", "I", false)
def tyX1 : Nat → FieldType := fun k => match k with
  | 0 => .array (.object "StripeTasks$Task")
  | 1 => .array .boolean
  | 2 => .array .int
  | 3 => .int
  | 4 => .int
  | 5 => .int
  | 6 => .int
  | 7 => .int
  | 8 => .int
  | 9 => .int
  | _ => .int
abbrev wsX10 : List Cond := u_ws RX1 TX1 11
theorem nmX1 : ∀ a, a < 11 → ∀ b, b < 11 → a ≠ b → (TX1 a).2.1 ≠ (TX1 b).2.1 := by decide +kernel
theorem tyX1_ok : ∀ k, k < 11 → parseFieldDescriptor (TX1 k).2.2.1 = some (tyX1 k) := by decide +kernel
abbrev cX1_init : ByteArray := prog_3_method_1_code
def yX1_init : MethodName := ⟨RX1, "<init>", "()V"⟩
abbrev cX1_reset : ByteArray := prog_3_method_2_code
def yX1_reset : MethodName := ⟨RX1, "reset", "()V"⟩
abbrev cX1_copyFrom : ByteArray := prog_3_method_3_code
def yX1_copyFrom : MethodName := ⟨RX1, "copyFrom", "(LStripeTasks$State;)V"⟩
abbrev cX1_hasTask : ByteArray := prog_3_method_4_code
def yX1_hasTask : MethodName := ⟨RX1, "hasTask", "(I)Z"⟩
abbrev cX1_taskNumbered : ByteArray := prog_3_method_5_code
def yX1_taskNumbered : MethodName := ⟨RX1, "taskNumbered", "(I)LStripeTasks$Task;"⟩
abbrev cX1_hasRoomForTask : ByteArray := prog_3_method_6_code
def yX1_hasRoomForTask : MethodName := ⟨RX1, "hasRoomForTask", "()Z"⟩
abbrev cX1_addTask : ByteArray := prog_3_method_7_code
def yX1_addTask : MethodName := ⟨RX1, "addTask", "(II)I"⟩
abbrev cX1_canStop : ByteArray := prog_3_method_8_code
def yX1_canStop : MethodName := ⟨RX1, "canStop", "(I)Z"⟩
abbrev cX1_stopTask : ByteArray := prog_3_method_9_code
def yX1_stopTask : MethodName := ⟨RX1, "stopTask", "(I)I"⟩
abbrev cX1_isTaskInStatus : ByteArray := prog_3_method_10_code
def yX1_isTaskInStatus : MethodName := ⟨RX1, "isTaskInStatus", "(II)Z"⟩
abbrev cX1_isTaskAtValue : ByteArray := prog_3_method_11_code
def yX1_isTaskAtValue : MethodName := ⟨RX1, "isTaskAtValue", "(II)Z"⟩
abbrev cX1_countRunning : ByteArray := prog_3_method_12_code
def yX1_countRunning : MethodName := ⟨RX1, "countRunning", "()I"⟩
abbrev cX1_isBad : ByteArray := prog_3_method_13_code
def yX1_isBad : MethodName := ⟨RX1, "isBad", "(I)Z"⟩
abbrev cX1_isGood : ByteArray := prog_3_method_14_code
def yX1_isGood : MethodName := ⟨RX1, "isGood", "(I)Z"⟩
abbrev cX1_countBad : ByteArray := prog_3_method_15_code
def yX1_countBad : MethodName := ⟨RX1, "countBad", "()I"⟩
abbrev cX1_takerOf : ByteArray := prog_3_method_16_code
def yX1_takerOf : MethodName := ⟨RX1, "takerOf", "(I)I"⟩
abbrev cX1_moverTo : ByteArray := prog_3_method_17_code
def yX1_moverTo : MethodName := ⟨RX1, "moverTo", "(I)I"⟩
abbrev cX1_isFree : ByteArray := prog_3_method_18_code
def yX1_isFree : MethodName := ⟨RX1, "isFree", "(I)Z"⟩
abbrev cX1_countFree : ByteArray := prog_3_method_19_code
def yX1_countFree : MethodName := ⟨RX1, "countFree", "()I"⟩
abbrev cX1_freeRowFrom : ByteArray := prog_3_method_20_code
def yX1_freeRowFrom : MethodName := ⟨RX1, "freeRowFrom", "(I)I"⟩
abbrev cX1_longestFreeRow : ByteArray := prog_3_method_21_code
def yX1_longestFreeRow : MethodName := ⟨RX1, "longestFreeRow", "()I"⟩
abbrev cX1_shortestGap : ByteArray := prog_3_method_22_code
def yX1_shortestGap : MethodName := ⟨RX1, "shortestGap", "(I)I"⟩
abbrev cX1_easiestWindow : ByteArray := prog_3_method_23_code
def yX1_easiestWindow : MethodName := ⟨RX1, "easiestWindow", "(I)I"⟩
abbrev cX1_canBeMadeFree : ByteArray := prog_3_method_24_code
def yX1_canBeMadeFree : MethodName := ⟨RX1, "canBeMadeFree", "(II)Z"⟩
abbrev cX1_widthInTheWay : ByteArray := prog_3_method_25_code
def yX1_widthInTheWay : MethodName := ⟨RX1, "widthInTheWay", "(II)I"⟩
abbrev cX1_victimOf : ByteArray := prog_3_method_26_code
def yX1_victimOf : MethodName := ⟨RX1, "victimOf", "(I)I"⟩
abbrev cX1_makeBad : ByteArray := prog_3_method_27_code
def yX1_makeBad : MethodName := ⟨RX1, "makeBad", "(I)I"⟩
abbrev cX1_makeGood : ByteArray := prog_3_method_28_code
def yX1_makeGood : MethodName := ⟨RX1, "makeGood", "(I)I"⟩
abbrev cX1_isIdle : ByteArray := prog_3_method_29_code
def yX1_isIdle : MethodName := ⟨RX1, "isIdle", "()Z"⟩
abbrev cX1_jobOwner : ByteArray := prog_3_method_30_code
def yX1_jobOwner : MethodName := ⟨RX1, "jobOwner", "()LStripeTasks$Task;"⟩
abbrev cX1_canBring : ByteArray := prog_3_method_31_code
def yX1_canBring : MethodName := ⟨RX1, "canBring", "(II)Z"⟩
abbrev cX1_startJob : ByteArray := prog_3_method_32_code
def yX1_startJob : MethodName := ⟨RX1, "startJob", "(II)I"⟩
abbrev cX1_endJob : ByteArray := prog_3_method_33_code
def yX1_endJob : MethodName := ⟨RX1, "endJob", "()V"⟩
abbrev cX1_ticksUntilIdle : ByteArray := prog_3_method_34_code
def yX1_ticksUntilIdle : MethodName := ⟨RX1, "ticksUntilIdle", "()I"⟩
abbrev cX1_passTicks : ByteArray := prog_3_method_35_code
def yX1_passTicks : MethodName := ⟨RX1, "passTicks", "(I)I"⟩
abbrev cX1_passTick : ByteArray := prog_3_method_36_code
def yX1_passTick : MethodName := ⟨RX1, "passTick", "()V"⟩
abbrev cX1_advanceJob : ByteArray := prog_3_method_37_code
def yX1_advanceJob : MethodName := ⟨RX1, "advanceJob", "()V"⟩
def RX2 : String := "StripeTasks$Task"
def TX2 : u_T := fun k => match k with
  | 0 => ("StripeTasks$Task", "width", "I", false)
  | 1 => ("StripeTasks$Task", "value", "I", false)
  | 2 => ("StripeTasks$Task", "saved", "I", false)
  | 3 => ("StripeTasks$Task", "worked", "I", false)
  | 4 => ("StripeTasks$Task", "unsaved", "I", false)
  | 5 => ("StripeTasks$Task", "status", "I", false)
  | _ => ("StripeTasks$Task", "first", "I", false)
def tyX2 : Nat → FieldType := fun k => match k with
  | 0 => .int
  | 1 => .int
  | 2 => .int
  | 3 => .int
  | 4 => .int
  | 5 => .int
  | _ => .int
abbrev wsX20 : List Cond := u_ws RX2 TX2 7
theorem nmX2 : ∀ a, a < 7 → ∀ b, b < 7 → a ≠ b → (TX2 a).2.1 ≠ (TX2 b).2.1 := by decide +kernel
theorem tyX2_ok : ∀ k, k < 7 → parseFieldDescriptor (TX2 k).2.2.1 = some (tyX2 k) := by decide +kernel
abbrev cX2_init : ByteArray := prog_4_method_1_code
def yX2_init : MethodName := ⟨RX2, "<init>", "()V"⟩
abbrev cX2_begin : ByteArray := prog_4_method_2_code
def yX2_begin : MethodName := ⟨RX2, "begin", "(II)V"⟩
abbrev cX2_copyFrom : ByteArray := prog_4_method_3_code
def yX2_copyFrom : MethodName := ⟨RX2, "copyFrom", "(LStripeTasks$Task;)V"⟩
abbrev cX2_takes : ByteArray := prog_4_method_4_code
def yX2_takes : MethodName := ⟨RX2, "takes", "(I)Z"⟩
abbrev cX2_takesOneOf : ByteArray := prog_4_method_5_code
def yX2_takesOneOf : MethodName := ⟨RX2, "takesOneOf", "(II)Z"⟩
abbrev cX2_switchOff : ByteArray := prog_4_method_6_code
def yX2_switchOff : MethodName := ⟨RX2, "switchOff", "()V"⟩
abbrev cX2_work : ByteArray := prog_4_method_7_code
def yX2_work : MethodName := ⟨RX2, "work", "()V"⟩
abbrev cX2_saveValue : ByteArray := prog_4_method_8_code
def yX2_saveValue : MethodName := ⟨RX2, "saveValue", "()V"⟩
abbrev cX2_fallBack : ByteArray := prog_4_method_9_code
def yX2_fallBack : MethodName := ⟨RX2, "fallBack", "()V"⟩
def RX3 : String := "StripeTasks$Text"
def TX3 : u_T := fun k => match k with
  | 0 => ("StripeTasks$Text", "characters", "[C", true)
  | 1 => ("StripeTasks$Text", "length", "I", false)
  | 2 => ("StripeTasks$Text", "at", "I", false)
  | 3 => ("StripeTasks$Text", "wrong", "Z", false)
  | 4 => ("StripeTasks$Text", "letter", "I", false)
  | 5 => ("StripeTasks$Text", "first", "I", false)
  | _ => ("StripeTasks$Text", "second", "I", false)
def tyX3 : Nat → FieldType := fun k => match k with
  | 0 => .array .char
  | 1 => .int
  | 2 => .int
  | 3 => .boolean
  | 4 => .int
  | 5 => .int
  | _ => .int
abbrev wsX30 : List Cond := u_ws RX3 TX3 7
theorem nmX3 : ∀ a, a < 7 → ∀ b, b < 7 → a ≠ b → (TX3 a).2.1 ≠ (TX3 b).2.1 := by decide +kernel
theorem tyX3_ok : ∀ k, k < 7 → parseFieldDescriptor (TX3 k).2.2.1 = some (tyX3 k) := by decide +kernel
abbrev cX3_init : ByteArray := prog_5_method_1_code
def yX3_init : MethodName := ⟨RX3, "<init>", "()V"⟩
abbrev cX3_isFull : ByteArray := prog_5_method_2_code
def yX3_isFull : MethodName := ⟨RX3, "isFull", "()Z"⟩
abbrev cX3_put : ByteArray := prog_5_method_3_code
def yX3_put : MethodName := ⟨RX3, "put", "(C)I"⟩
abbrev cX3_makeEmpty : ByteArray := prog_5_method_4_code
def yX3_makeEmpty : MethodName := ⟨RX3, "makeEmpty", "()I"⟩
abbrev cX3_firstError : ByteArray := prog_5_method_5_code
def yX3_firstError : MethodName := ⟨RX3, "firstError", "()I"⟩
abbrev cX3_beginReading : ByteArray := prog_5_method_6_code
def yX3_beginReading : MethodName := ⟨RX3, "beginReading", "()V"⟩
abbrev cX3_readCommand : ByteArray := prog_5_method_7_code
def yX3_readCommand : MethodName := ⟨RX3, "readCommand", "()Z"⟩
abbrev cX3_readNumber : ByteArray := prog_5_method_8_code
def yX3_readNumber : MethodName := ⟨RX3, "readNumber", "(III)I"⟩
abbrev cX3_digitAt : ByteArray := prog_5_method_9_code
def yX3_digitAt : MethodName := ⟨RX3, "digitAt", "(I)I"⟩
abbrev cX3_isInText : ByteArray := prog_5_method_10_code
def yX3_isInText : MethodName := ⟨RX3, "isInText", "(I)Z"⟩
def RX4 : String := "StripeTasks"
def TX4 : u_T := fun k => match k with
  | 0 => ("StripeTasks", "text", "LStripeTasks$Text;", true)
  | 1 => ("StripeTasks", "now", "LStripeTasks$State;", true)
  | 2 => ("StripeTasks", "trial", "LStripeTasks$State;", true)
  | 3 => ("StripeTasks", "history", "LStripeTasks$History;", true)
  | 4 => ("StripeTasks", "slots", "[LStripeTasks$State;", true)
  | _ => ("StripeTasks", "slotFilled", "[Z", true)
def tyX4 : Nat → FieldType := fun k => match k with
  | 0 => .object "StripeTasks$Text"
  | 1 => .object "StripeTasks$State"
  | 2 => .object "StripeTasks$State"
  | 3 => .object "StripeTasks$History"
  | 4 => .array (.object "StripeTasks$State")
  | _ => .array .boolean
abbrev wsX40 : List Cond := u_ws RX4 TX4 6
theorem nmX4 : ∀ a, a < 6 → ∀ b, b < 6 → a ≠ b → (TX4 a).2.1 ≠ (TX4 b).2.1 := by decide +kernel
theorem tyX4_ok : ∀ k, k < 6 → parseFieldDescriptor (TX4 k).2.2.1 = some (tyX4 k) := by decide +kernel
abbrev cX4_init : ByteArray := prog_1_method_1_code
def yX4_init : MethodName := ⟨RX4, "<init>", "()V"⟩
abbrev cX4_append : ByteArray := prog_1_method_2_code
def yX4_append : MethodName := ⟨RX4, "append", "(I)I"⟩
abbrev cX4_clearText : ByteArray := prog_1_method_3_code
def yX4_clearText : MethodName := ⟨RX4, "clearText", "()I"⟩
abbrev cX4_errorPosition : ByteArray := prog_1_method_4_code
def yX4_errorPosition : MethodName := ⟨RX4, "errorPosition", "()I"⟩
abbrev cX4_load : ByteArray := prog_1_method_5_code
def yX4_load : MethodName := ⟨RX4, "load", "()I"⟩
abbrev cX4_about : ByteArray := prog_1_method_6_code
def yX4_about : MethodName := ⟨RX4, "about", "(I)I"⟩
abbrev cX4_task : ByteArray := prog_1_method_7_code
def yX4_task : MethodName := ⟨RX4, "task", "(II)I"⟩
abbrev cX4_stripe : ByteArray := prog_1_method_8_code
def yX4_stripe : MethodName := ⟨RX4, "stripe", "(II)I"⟩
abbrev cX4_job : ByteArray := prog_1_method_9_code
def yX4_job : MethodName := ⟨RX4, "job", "(I)I"⟩
abbrev cX4_setting : ByteArray := prog_1_method_10_code
def yX4_setting : MethodName := ⟨RX4, "setting", "(I)I"⟩
abbrev cX4_add : ByteArray := prog_1_method_11_code
def yX4_add : MethodName := ⟨RX4, "add", "(II)I"⟩
abbrev cX4_bring : ByteArray := prog_1_method_12_code
def yX4_bring : MethodName := ⟨RX4, "bring", "(II)I"⟩
abbrev cX4_stop : ByteArray := prog_1_method_13_code
def yX4_stop : MethodName := ⟨RX4, "stop", "(I)I"⟩
abbrev cX4_turnBad : ByteArray := prog_1_method_14_code
def yX4_turnBad : MethodName := ⟨RX4, "turnBad", "(I)I"⟩
abbrev cX4_mend : ByteArray := prog_1_method_15_code
def yX4_mend : MethodName := ⟨RX4, "mend", "(I)I"⟩
abbrev cX4_run : ByteArray := prog_1_method_16_code
def yX4_run : MethodName := ⟨RX4, "run", "(I)I"⟩
abbrev cX4_set : ByteArray := prog_1_method_17_code
def yX4_set : MethodName := ⟨RX4, "set", "(II)I"⟩
abbrev cX4_undo : ByteArray := prog_1_method_18_code
def yX4_undo : MethodName := ⟨RX4, "undo", "()I"⟩
abbrev cX4_bestGap : ByteArray := prog_1_method_19_code
def yX4_bestGap : MethodName := ⟨RX4, "bestGap", "(I)I"⟩
abbrev cX4_window : ByteArray := prog_1_method_20_code
def yX4_window : MethodName := ⟨RX4, "window", "(II)I"⟩
abbrev cX4_idleIn : ByteArray := prog_1_method_21_code
def yX4_idleIn : MethodName := ⟨RX4, "idleIn", "()I"⟩
abbrev cX4_coming : ByteArray := prog_1_method_22_code
def yX4_coming : MethodName := ⟨RX4, "coming", "(III)I"⟩
abbrev cX4_lost : ByteArray := prog_1_method_23_code
def yX4_lost : MethodName := ⟨RX4, "lost", "(I)I"⟩
abbrev cX4_runScript : ByteArray := prog_1_method_24_code
def yX4_runScript : MethodName := ⟨RX4, "runScript", "(IJ)I"⟩
abbrev cX4_simulate : ByteArray := prog_1_method_25_code
def yX4_simulate : MethodName := ⟨RX4, "simulate", "(JI)I"⟩
abbrev cX4_save : ByteArray := prog_1_method_26_code
def yX4_save : MethodName := ⟨RX4, "save", "(I)I"⟩
abbrev cX4_restore : ByteArray := prog_1_method_27_code
def yX4_restore : MethodName := ⟨RX4, "restore", "(I)I"⟩
abbrev cX4_isBetween : ByteArray := prog_1_method_28_code
def yX4_isBetween : MethodName := ⟨RX4, "isBetween", "(III)Z"⟩
abbrev cX4_isStripe : ByteArray := prog_1_method_29_code
def yX4_isStripe : MethodName := ⟨RX4, "isStripe", "(I)Z"⟩
abbrev cX4_isWidth : ByteArray := prog_1_method_30_code
def yX4_isWidth : MethodName := ⟨RX4, "isWidth", "(I)Z"⟩
abbrev cX4_isValue : ByteArray := prog_1_method_31_code
def yX4_isValue : MethodName := ⟨RX4, "isValue", "(I)Z"⟩
abbrev cX4_isSetting : ByteArray := prog_1_method_32_code
def yX4_isSetting : MethodName := ⟨RX4, "isSetting", "(I)Z"⟩
abbrev cX4_obeyTextCommand : ByteArray := prog_1_method_33_code
def yX4_obeyTextCommand : MethodName := ⟨RX4, "obeyTextCommand", "(LStripeTasks$State;III)Z"⟩
abbrev cX4_tryToMakeBad : ByteArray := prog_1_method_34_code
def yX4_tryToMakeBad : MethodName := ⟨RX4, "tryToMakeBad", "(LStripeTasks$State;I)Z"⟩
abbrev cX4_withoutLastGroups : ByteArray := prog_1_method_35_code
def yX4_withoutLastGroups : MethodName := ⟨RX4, "withoutLastGroups", "(JI)J"⟩
abbrev cX4_obeyGroup : ByteArray := prog_1_method_36_code
def yX4_obeyGroup : MethodName := ⟨RX4, "obeyGroup", "(LStripeTasks$State;I)Z"⟩
abbrev cX4_takeTurn : ByteArray := prog_1_method_37_code
def yX4_takeTurn : MethodName := ⟨RX4, "takeTurn", "(LStripeTasks$State;I)V"⟩
def RX5 : String := "StripeTasksModel"
def TX5 : u_T := fun k => match k with
  | 0 => ("StripeTasksModel", "refusal", "I", false)
  | 1 => ("StripeTasksModel", "text", "[I", true)
  | 2 => ("StripeTasksModel", "size", "I", false)
  | 3 => ("StripeTasksModel", "now", "[I", true)
  | 4 => ("StripeTasksModel", "trial", "[I", true)
  | 5 => ("StripeTasksModel", "diary", "[I", true)
  | 6 => ("StripeTasksModel", "acts", "I", false)
  | 7 => ("StripeTasksModel", "kept", "[I", true)
  | 8 => ("StripeTasksModel", "isKept", "[Z", true)
  | 9 => ("StripeTasksModel", "spot", "I", false)
  | _ => ("StripeTasksModel", "out", "I", false)
def tyX5 : Nat → FieldType := fun k => match k with
  | 0 => .int
  | 1 => .array .int
  | 2 => .int
  | 3 => .array .int
  | 4 => .array .int
  | 5 => .array .int
  | 6 => .int
  | 7 => .array .int
  | 8 => .array .boolean
  | 9 => .int
  | _ => .int
abbrev wsX50 : List Cond := u_ws RX5 TX5 11
theorem nmX5 : ∀ a, a < 11 → ∀ b, b < 11 → a ≠ b → (TX5 a).2.1 ≠ (TX5 b).2.1 := by decide +kernel
theorem tyX5_ok : ∀ k, k < 11 → parseFieldDescriptor (TX5 k).2.2.1 = some (tyX5 k) := by decide +kernel
abbrev cX5_init : ByteArray := prog_7_method_1_code
def yX5_init : MethodName := ⟨RX5, "<init>", "()V"⟩
abbrev cX5_thrown : ByteArray := prog_7_method_2_code
def yX5_thrown : MethodName := ⟨RX5, "thrown", "()I"⟩
abbrev cX5_refused : ByteArray := prog_7_method_3_code
def yX5_refused : MethodName := ⟨RX5, "refused", "(I)Z"⟩
abbrev cX5_in : ByteArray := prog_7_method_4_code
def yX5_in : MethodName := ⟨RX5, "in", "(JJJ)Z"⟩
abbrev cX5_copyState : ByteArray := prog_7_method_5_code
def yX5_copyState : MethodName := ⟨RX5, "copyState", "([II[II)V"⟩
abbrev cX5_clear : ByteArray := prog_7_method_6_code
def yX5_clear : MethodName := ⟨RX5, "clear", "([I)V"⟩
abbrev cX5_isTask : ByteArray := prog_7_method_7_code
def yX5_isTask : MethodName := ⟨RX5, "isTask", "([II)Z"⟩
abbrev cX5_isStripe : ByteArray := prog_7_method_8_code
def yX5_isStripe : MethodName := ⟨RX5, "isStripe", "(I)Z"⟩
abbrev cX5_of : ByteArray := prog_7_method_9_code
def yX5_of : MethodName := ⟨RX5, "of", "([III)I"⟩
abbrev cX5_lay : ByteArray := prog_7_method_10_code
def yX5_lay : MethodName := ⟨RX5, "lay", "([IIII)V"⟩
abbrev cX5_taker : ByteArray := prog_7_method_11_code
def yX5_taker : MethodName := ⟨RX5, "taker", "([II)I"⟩
abbrev cX5_isMove : ByteArray := prog_7_method_12_code
def yX5_isMove : MethodName := ⟨RX5, "isMove", "([I)Z"⟩
abbrev cX5_comer : ByteArray := prog_7_method_13_code
def yX5_comer : MethodName := ⟨RX5, "comer", "([II)I"⟩
abbrev cX5_isFree : ByteArray := prog_7_method_14_code
def yX5_isFree : MethodName := ⟨RX5, "isFree", "([II)Z"⟩
abbrev cX5_freeFrom : ByteArray := prog_7_method_15_code
def yX5_freeFrom : MethodName := ⟨RX5, "freeFrom", "([II)I"⟩
abbrev cX5_canBring : ByteArray := prog_7_method_16_code
def yX5_canBring : MethodName := ⟨RX5, "canBring", "([III)Z"⟩
abbrev cX5_bringOn : ByteArray := prog_7_method_17_code
def yX5_bringOn : MethodName := ⟨RX5, "bringOn", "([III)I"⟩
abbrev cX5_finish : ByteArray := prog_7_method_18_code
def yX5_finish : MethodName := ⟨RX5, "finish", "([I)V"⟩
abbrev cX5_loadOn : ByteArray := prog_7_method_19_code
def yX5_loadOn : MethodName := ⟨RX5, "loadOn", "([I)V"⟩
abbrev cX5_tickOn : ByteArray := prog_7_method_20_code
def yX5_tickOn : MethodName := ⟨RX5, "tickOn", "([I)V"⟩
abbrev cX5_runOn : ByteArray := prog_7_method_21_code
def yX5_runOn : MethodName := ⟨RX5, "runOn", "([II)I"⟩
abbrev cX5_dropJob : ByteArray := prog_7_method_22_code
def yX5_dropJob : MethodName := ⟨RX5, "dropJob", "([I)V"⟩
abbrev cX5_hurt : ByteArray := prog_7_method_23_code
def yX5_hurt : MethodName := ⟨RX5, "hurt", "([II)I"⟩
abbrev cX5_turnOn : ByteArray := prog_7_method_24_code
def yX5_turnOn : MethodName := ⟨RX5, "turnOn", "([II)I"⟩
abbrev cX5_mendOn : ByteArray := prog_7_method_25_code
def yX5_mendOn : MethodName := ⟨RX5, "mendOn", "([II)I"⟩
abbrev cX5_addOn : ByteArray := prog_7_method_26_code
def yX5_addOn : MethodName := ⟨RX5, "addOn", "([III)I"⟩
abbrev cX5_canStop : ByteArray := prog_7_method_27_code
def yX5_canStop : MethodName := ⟨RX5, "canStop", "([II)Z"⟩
abbrev cX5_stopOn : ByteArray := prog_7_method_28_code
def yX5_stopOn : MethodName := ⟨RX5, "stopOn", "([II)I"⟩
abbrev cX5_isSetting : ByteArray := prog_7_method_29_code
def yX5_isSetting : MethodName := ⟨RX5, "isSetting", "(II)Z"⟩
abbrev cX5_running : ByteArray := prog_7_method_30_code
def yX5_running : MethodName := ⟨RX5, "running", "([I)I"⟩
abbrev cX5_idle : ByteArray := prog_7_method_31_code
def yX5_idle : MethodName := ⟨RX5, "idle", "([I)I"⟩
abbrev cX5_append : ByteArray := prog_7_method_32_code
def yX5_append : MethodName := ⟨RX5, "append", "(I)I"⟩
abbrev cX5_clearText : ByteArray := prog_7_method_33_code
def yX5_clearText : MethodName := ⟨RX5, "clearText", "()I"⟩
abbrev cX5_figures : ByteArray := prog_7_method_34_code
def yX5_figures : MethodName := ⟨RX5, "figures", "(IIII)I"⟩
abbrev cX5_done : ByteArray := prog_7_method_35_code
def yX5_done : MethodName := ⟨RX5, "done", "(Z)Z"⟩
abbrev cX5_readCommand : ByteArray := prog_7_method_36_code
def yX5_readCommand : MethodName := ⟨RX5, "readCommand", "([I)Z"⟩
abbrev cX5_readText : ByteArray := prog_7_method_37_code
def yX5_readText : MethodName := ⟨RX5, "readText", "([I)I"⟩
abbrev cX5_errorPosition : ByteArray := prog_7_method_38_code
def yX5_errorPosition : MethodName := ⟨RX5, "errorPosition", "()I"⟩
abbrev cX5_load : ByteArray := prog_7_method_39_code
def yX5_load : MethodName := ⟨RX5, "load", "()I"⟩
abbrev cX5_about : ByteArray := prog_7_method_40_code
def yX5_about : MethodName := ⟨RX5, "about", "(I)I"⟩
abbrev cX5_task : ByteArray := prog_7_method_41_code
def yX5_task : MethodName := ⟨RX5, "task", "(II)I"⟩
abbrev cX5_stripe : ByteArray := prog_7_method_42_code
def yX5_stripe : MethodName := ⟨RX5, "stripe", "(II)I"⟩
abbrev cX5_job : ByteArray := prog_7_method_43_code
def yX5_job : MethodName := ⟨RX5, "job", "(I)I"⟩
abbrev cX5_setting : ByteArray := prog_7_method_44_code
def yX5_setting : MethodName := ⟨RX5, "setting", "(I)I"⟩
abbrev cX5_remember : ByteArray := prog_7_method_45_code
def yX5_remember : MethodName := ⟨RX5, "remember", "()V"⟩
abbrev cX5_add : ByteArray := prog_7_method_46_code
def yX5_add : MethodName := ⟨RX5, "add", "(II)I"⟩
abbrev cX5_bring : ByteArray := prog_7_method_47_code
def yX5_bring : MethodName := ⟨RX5, "bring", "(II)I"⟩
abbrev cX5_stop : ByteArray := prog_7_method_48_code
def yX5_stop : MethodName := ⟨RX5, "stop", "(I)I"⟩
abbrev cX5_turnBad : ByteArray := prog_7_method_49_code
def yX5_turnBad : MethodName := ⟨RX5, "turnBad", "(I)I"⟩
abbrev cX5_mend : ByteArray := prog_7_method_50_code
def yX5_mend : MethodName := ⟨RX5, "mend", "(I)I"⟩
abbrev cX5_run : ByteArray := prog_7_method_51_code
def yX5_run : MethodName := ⟨RX5, "run", "(I)I"⟩
abbrev cX5_set : ByteArray := prog_7_method_52_code
def yX5_set : MethodName := ⟨RX5, "set", "(II)I"⟩
abbrev cX5_undo : ByteArray := prog_7_method_53_code
def yX5_undo : MethodName := ⟨RX5, "undo", "()I"⟩
abbrev cX5_bestGap : ByteArray := prog_7_method_54_code
def yX5_bestGap : MethodName := ⟨RX5, "bestGap", "(I)I"⟩
abbrev cX5_inWay : ByteArray := prog_7_method_55_code
def yX5_inWay : MethodName := ⟨RX5, "inWay", "([III)I"⟩
abbrev cX5_window : ByteArray := prog_7_method_56_code
def yX5_window : MethodName := ⟨RX5, "window", "(II)I"⟩
abbrev cX5_idleIn : ByteArray := prog_7_method_57_code
def yX5_idleIn : MethodName := ⟨RX5, "idleIn", "()I"⟩
abbrev cX5_coming : ByteArray := prog_7_method_58_code
def yX5_coming : MethodName := ⟨RX5, "coming", "(III)I"⟩
abbrev cX5_lost : ByteArray := prog_7_method_59_code
def yX5_lost : MethodName := ⟨RX5, "lost", "(I)I"⟩
abbrev cX5_command : ByteArray := prog_7_method_60_code
def yX5_command : MethodName := ⟨RX5, "command", "(II)Z"⟩
abbrev cX5_runScript : ByteArray := prog_7_method_61_code
def yX5_runScript : MethodName := ⟨RX5, "runScript", "(IJ)I"⟩
abbrev cX5_turn : ByteArray := prog_7_method_62_code
def yX5_turn : MethodName := ⟨RX5, "turn", "([II)V"⟩
abbrev cX5_simulate : ByteArray := prog_7_method_63_code
def yX5_simulate : MethodName := ⟨RX5, "simulate", "(JI)I"⟩
abbrev cX5_save : ByteArray := prog_7_method_64_code
def yX5_save : MethodName := ⟨RX5, "save", "(I)I"⟩
abbrev cX5_restore : ByteArray := prog_7_method_65_code
def yX5_restore : MethodName := ⟨RX5, "restore", "(I)I"⟩
def RL : String := "StripeTasksLaw"
abbrev cL_append : ByteArray := method_3_code
def yL_append : MethodName := ⟨RL, "append", "(LStripeTasks;I[J)I"⟩
abbrev cL_load : ByteArray := method_4_code
def yL_load : MethodName := ⟨RL, "load", "(LStripeTasks;[J)I"⟩
abbrev cL_about : ByteArray := method_5_code
def yL_about : MethodName := ⟨RL, "about", "(LStripeTasks;I[J)I"⟩
abbrev cL_task : ByteArray := method_6_code
def yL_task : MethodName := ⟨RL, "task", "(LStripeTasks;II[J)I"⟩
abbrev cL_stripe : ByteArray := method_7_code
def yL_stripe : MethodName := ⟨RL, "stripe", "(LStripeTasks;II[J)I"⟩
abbrev cL_job : ByteArray := method_8_code
def yL_job : MethodName := ⟨RL, "job", "(LStripeTasks;I[J)I"⟩
abbrev cL_setting : ByteArray := method_9_code
def yL_setting : MethodName := ⟨RL, "setting", "(LStripeTasks;I[J)I"⟩
abbrev cL_add : ByteArray := method_10_code
def yL_add : MethodName := ⟨RL, "add", "(LStripeTasks;II[J)I"⟩
abbrev cL_bring : ByteArray := method_11_code
def yL_bring : MethodName := ⟨RL, "bring", "(LStripeTasks;II[J)I"⟩
abbrev cL_stop : ByteArray := method_12_code
def yL_stop : MethodName := ⟨RL, "stop", "(LStripeTasks;I[J)I"⟩
abbrev cL_turnBad : ByteArray := method_13_code
def yL_turnBad : MethodName := ⟨RL, "turnBad", "(LStripeTasks;I[J)I"⟩
abbrev cL_mend : ByteArray := method_14_code
def yL_mend : MethodName := ⟨RL, "mend", "(LStripeTasks;I[J)I"⟩
abbrev cL_run : ByteArray := method_15_code
def yL_run : MethodName := ⟨RL, "run", "(LStripeTasks;I[J)I"⟩
abbrev cL_set : ByteArray := method_16_code
def yL_set : MethodName := ⟨RL, "set", "(LStripeTasks;II[J)I"⟩
abbrev cL_undo : ByteArray := method_17_code
def yL_undo : MethodName := ⟨RL, "undo", "(LStripeTasks;[J)I"⟩
abbrev cL_bestGap : ByteArray := method_18_code
def yL_bestGap : MethodName := ⟨RL, "bestGap", "(LStripeTasks;I[J)I"⟩
abbrev cL_window : ByteArray := method_19_code
def yL_window : MethodName := ⟨RL, "window", "(LStripeTasks;II[J)I"⟩
abbrev cL_coming : ByteArray := method_20_code
def yL_coming : MethodName := ⟨RL, "coming", "(LStripeTasks;III[J)I"⟩
abbrev cL_lost : ByteArray := method_21_code
def yL_lost : MethodName := ⟨RL, "lost", "(LStripeTasks;I[J)I"⟩
abbrev cL_runScript : ByteArray := method_22_code
def yL_runScript : MethodName := ⟨RL, "runScript", "(LStripeTasks;IJ[J)I"⟩
abbrev cL_simulate : ByteArray := method_23_code
def yL_simulate : MethodName := ⟨RL, "simulate", "(LStripeTasks;JI[J)I"⟩
abbrev cL_save : ByteArray := method_24_code
def yL_save : MethodName := ⟨RL, "save", "(LStripeTasks;I[J)I"⟩
abbrev cL_restore : ByteArray := method_25_code
def yL_restore : MethodName := ⟨RL, "restore", "(LStripeTasks;I[J)I"⟩
abbrev cL_law : ByteArray := code
def yL_law : MethodName := ⟨RL, "law", "([I)Z"⟩
abbrev vwCl : List vw_C := [(RX0, TX0, 3), (RX1, TX1, 11), (RX2, TX2, 7), (RX3, TX3, 7), (RX4, TX4, 6), (RX5, TX5, 11)]
end
section
/-! THE MACHINE, SEEN FROM A METHOD: the good words of the tables; the world as a list of cells whose numbers are read from one memory; the judgement z_V of a method's state, and its rows -/
def gw : List Cond := lw_tbl.filter goodWord
theorem gw_at {w : Cond} (i : Nat) (h : lw_tbl[i]? = some w) (g : goodWord w = true) : w ∈ gw := List.mem_filter.mpr ⟨List.mem_of_getElem? h, g⟩
theorem gw_good : ∀ w ∈ gw, w ∈ gw ∧ ((w.onTables && w.keeps) = true ∨ ∃ ty, w = .arrayClass ty) := fun w h => ⟨h, good_of_word (List.mem_filter.mp h).2⟩
theorem gw_cons {w : Cond} (h : w ∈ gw) : GoodIn gw (w :: gw) := fun v hv => (List.mem_cons.mp hv).elim (fun e => by rw [e]; exact gw_good w h) (gw_good v)
def z_isN : Cond → Bool
  | .methodLinkNest .. => true
  | .fieldLinkNest .. => true
  | .castable .. => true
  | .declares .. => true
  | _ => false
def z_nst : List Cond := lw_tbl.filter z_isN
theorem z_nst_at {w : Cond} (i : Nat) (h : lw_tbl[i]? = some w) (g : z_isN w = true) : w ∈ z_nst := List.mem_filter.mpr ⟨List.mem_of_getElem? h, g⟩
/-- a world: its cells, each as a function of its numbers -/
abbrev zG : Type := List (Nat × ((Nat → Int32) → va_E))
abbrev zI : Type := Nat → Nat → Int32
/-- what is fixed for a run: where the tables have the classes and their fields; the array classes; the first new address; the static arrays' addresses; the script: its address, length and numbers -/
abbrev zE : Type := va_G × (Nat → ClassId) × Nat × (Nat → Nat) × Nat × Nat × (Nat → Int32)
def z_A (E : zE) : Nat → Prop := fun q => E.2.2.1 ≤ q
def z_tys (E : zE) : List (ClassId × FieldType) := [(E.2.1 0, .int), (E.2.1 1, .boolean), (E.2.1 2, .char), (E.2.1 3, .long), (E.2.1 4, .object RX2), (E.2.1 5, .object RX1)]
def z_ncs : List (String × String) := [("java/lang/IllegalStateException", "java/lang/IllegalArgumentException"), ("java/lang/IndexOutOfBoundsException", "java/lang/IllegalArgumentException"), ("java/lang/IllegalArgumentException", "java/lang/IllegalStateException"), ("java/lang/IndexOutOfBoundsException", "java/lang/IllegalStateException"), ("java/lang/IllegalArgumentException", "java/lang/IndexOutOfBoundsException"), ("java/lang/IllegalStateException", "java/lang/IndexOutOfBoundsException")]
/-- what the tables say, beyond the good words -/
def z_U (E : zE) (U : State) : Prop := va_K E.1 vwCl (z_tys E) U ∧ (∀ w ∈ z_nst, va_Nw w U) ∧ (va_AO RX2 U ∧ va_AO RX1 U) ∧ ∀ q ∈ z_ncs, va_Nc q.1 q.2 U
def z_s0 (j : Nat) : Int32 := if j = 0 then 3 else if j = 1 then 2 else 10
def z_s1 (j : Nat) : Int32 := if j = 0 then 1 else if j = 1 then 0 else 1
def z_s2 (j : Nat) : Int32 := if j = 0 then 9 else if j = 1 then 20 else 99
def z_sa (n : String) (a : Nat) (f : Nat → Int32) (E : zE) (U : State) (H : Heap) : Prop := va_Z "StripeTasks" n "[I" (.ref a) (z_A E) U H ∧ va_T .int a 3 (fun j => .int (f j)) (z_A E) U H
/-- the script -/
def z_sx (E : zE) (U : State) (H : Heap) : Prop := va_X E.2.2.2.2.1 E.2.2.2.2.2.1 E.2.2.2.2.2.2 U H ∧ ¬ z_A E E.2.2.2.2.1
theorem z_sx.step {E : zE} {u U : State} {H H1 : Heap} (hvm : u.vm.Alike U.vm) (hq : ∀ a : Nat, a < H.size → ¬ z_A E a → H1[a]? = H[a]?) (h : z_sx E u H) : z_sx E U H1 := by
  obtain ⟨h1, h2⟩ := h
  have hl : E.2.2.2.2.1 < H.size := by
    obtain ⟨scr, e1, -⟩ := h1
    exact (Array.getElem?_eq_some_iff.mp e1).1
  exact ⟨(h1.kept (hq _ hl h2)).moved hvm, h2⟩
/-- the statics -/
def z_St (E : zE) (U : State) (H : Heap) : Prop :=
  z_sa "FIRST_SETTINGS" (E.2.2.2.1 0) z_s0 E U H ∧ z_sa "LEAST_SETTINGS" (E.2.2.2.1 1) z_s1 E U H ∧ z_sa "MOST_SETTINGS" (E.2.2.2.1 2) z_s2 E U H ∧
  vx_Zq Bundle.tN "UNASSIGNED_STACK" Bundle.steD (z_A E) U H ∧ vx_Zq Bundle.tN "SUPPRESSED_SENTINEL" Bundle.listD (z_A E) U H ∧ z_sx E U H
theorem z_sa.step {n : String} {a : Nat} {f : Nat → Int32} {E : zE} {u U : State} {H H1 : Heap} (hvm : u.vm.Alike U.vm) (hq : ∀ a : Nat, a < H.size → ¬ z_A E a → H1[a]? = H[a]?) (h : z_sa n a f E u H) : z_sa n a f E U H1 := ⟨va_Z.kept (va_Z.moved hvm h.1) hq, va_T.kept (va_T.moved hvm h.2) hq⟩
theorem z_St.step {E : zE} {u U : State} {H H1 : Heap} (hvm : u.vm.Alike U.vm) (hq : ∀ a : Nat, a < H.size → ¬ z_A E a → H1[a]? = H[a]?) (h : z_St E u H) : z_St E U H1 :=
  ⟨h.1.step hvm hq, h.2.1.step hvm hq, h.2.2.1.step hvm hq, vx_Zq.kept (vx_Zq.moved hvm h.2.2.2.1) hq, vx_Zq.kept (vx_Zq.moved hvm h.2.2.2.2.1) hq, h.2.2.2.2.2.step hvm hq⟩
theorem z_nw_ont {w : Cond} (h : w ∈ z_nst) : w.onTables = true := by
  have h2 := (List.mem_filter.mp h).2
  cases w <;> first | rfl | (simp [z_isN] at h2; done)
theorem z_nw_warm {w : Cond} {s U : State} (hW : s.WarmedH U.vm) (h : w ∈ z_nst) (hz : va_Nw w s) : va_Nw w U := by
  have h2 := (List.mem_filter.mp h).2
  cases w <;> first | exact va_Nw.warmM hW hz | exact va_Nw.warmF hW hz | exact va_Nw.warmC hW hz | exact va_Nw.warmD hW hz | (simp [z_isN] at h2; done)
theorem z_U.warm {E : zE} {s U : State} (hW : s.WarmedH U.vm) (h : z_U E s) : z_U E U :=
  ⟨va_K.moved hW.alike h.1, fun w hw => z_nw_warm hW hw (h.2.1 w hw), ⟨va_AO.moved hW.alike h.2.2.1.1, va_AO.moved hW.alike h.2.2.1.2⟩, fun q hq => va_Nc.moved hW.alike (h.2.2.2 q hq)⟩
theorem z_U.same {E : zE} {u U : State} (e : u.vm = U.vm) (h : z_U E u) : z_U E U := by
  have ha : u.vm.Alike U.vm := e ▸ Vm.Alike.refl u.vm
  exact ⟨va_K.moved ha h.1, fun w hw => va_Nw.same (z_nw_ont hw) e (h.2.1 w hw), ⟨va_AO.moved ha h.2.2.1.1, va_AO.moved ha h.2.2.1.2⟩, fun q hq => va_Nc.moved ha (h.2.2.2 q hq)⟩
/-- the world in the heap -/
def z_W (E : zE) (G : zG) (I : zI) (sz : Nat) (H : Heap) : Prop :=
  H.size = sz ∧ E.2.2.1 ≤ sz ∧ (∀ x ∈ G, va_at E.1 vwCl (x.1, x.2 (I x.1)) H ∧ E.2.2.1 ≤ x.1) ∧ (G.map Prod.fst).Nodup
/-- what a method's end is asked for: an answer, or the class of what it throws -/
abbrev zQ : Type := (Option Value ⊕ String) → zG → zI → Nat → Prop
def z_Qc (E : zE) (Q : zQ) : Array Value → State → Outcome → State → Prop := fun _ st o t => (∃ (v : Option Value) (G : zG) (I : zI) (sz : Nat), o = .returned v ∧ Q (.inl v) G I sz ∧ z_W E G I sz t.heap) ∧ va_F (z_A E) st t
def z_Xc (E : zE) (Q : zQ) : String → State → State → Prop := fun X st t => (∃ (G : zG) (I : zI) (sz : Nat), Q (.inr X) G I sz ∧ z_W E G I sz t.heap) ∧ va_F (z_A E) st t
/-- a method, for its rows: name, code, locals, answer, handlers -/
abbrev zM : Type := MethodName × ByteArray × Nat × Option FieldType × List (Nat × Nat × Nat × Nat)
/-- its room: depth of calls, new cells, their slots -/
def z_rm (d mc ms : Nat) : Room := { frames := d, cells := mc, slots := ms, locals := 38 * d }
def z_C (E : zE) (M : zM) (p : Program) (l : Launch) (s : State) (m : MethodId) (args : Array Value) (meth : Method) (c : Code) : Prop :=
  p.tables.exec = Jvm.exec ∧ c.code = M.2.1 ∧ meth.sig.returnType = M.2.2.2.1 ∧ c.maxLocals = M.2.2.1 ∧ s.vm.findClass M.1.cls = some m.cls ∧ (∀ w ∈ gw, w.before args s = true) ∧ meth.locks = false ∧ meth.name = M.1.name ∧ c.exceptionTable.toList = tableOf M.2.2.2.2 ∧ z_U E s ∧ (E.2.2.1 ≤ s.heap.size ∧ z_St E s s.heap) ∧ l.stackTraces = false
def z_pr : Nat → List (Option Value) → List (Nat × Value)
  | _, [] => []
  | i, none :: r => z_pr (i + 1) r
  | i, some v :: r => (i, v) :: z_pr (i + 1) r
def z_L (ls : Array Slot) (nL : Nat) (lv : List (Option Value)) : Prop := lv_has ls nL (z_pr 0 lv)
/-- THE JUDGEMENT: from this state (world G, memory I, the next address sz, at pc with locals lv and operands st) the method comes to an end that Q allows -/
def z_V (E : zE) (l : Launch) (M : zM) (R : Room) (mc ms : Nat) (Q : zQ) (k n : Nat) (G : zG) (I : zI) (sz : Nat) (pc : Nat) (lv : List (Option Value)) (st : List Value) : Prop :=
  ∀ (p : Program) (e : Env) (s : State) (m : MethodId) (args : Array Value) (below : List Frame) (meth : Method) (c : Code), z_C E M p l s m args meth c →
  ∀ (H : Heap) (locs : List Loc) (ls : Array Slot), z_W E G I sz H → va_S (z_A E) s.heap H locs → z_L ls M.2.2.1 lv →
    W p l e R s m args below meth c H locs k n (vx_MQ below (z_Qc E Q) (z_Xc E Q) args s mc ms (z_A E)) (F0 m pc ls st)
theorem z_pr_mem : ∀ (lv : List (Option Value)) (i : Nat) (q : Nat × Value), q ∈ z_pr i lv ↔ ∃ j, lv[j]? = some (some q.2) ∧ q.1 = i + j
  | [], i, q => by simp [z_pr]
  | none :: r, i, q => by
    simp only [z_pr]
    rw [z_pr_mem r (i + 1) q]
    constructor
    · rintro ⟨j, h1, h2⟩
      exact ⟨j + 1, by simpa using h1, by omega⟩
    · rintro ⟨j, h1, h2⟩
      cases j with
      | zero => simp at h1
      | succ j => exact ⟨j, by simpa using h1, by omega⟩
  | some v :: r, i, q => by
    simp only [z_pr, List.mem_cons]
    rw [z_pr_mem r (i + 1) q]
    constructor
    · rintro (h | ⟨j, h1, h2⟩)
      · exact ⟨0, by rw [h]; rfl, by rw [h]; rfl⟩
      · exact ⟨j + 1, by simpa using h1, by omega⟩
    · rintro ⟨j, h1, h2⟩
      cases j with
      | zero =>
        left
        have h3 : v = q.2 := by simpa using h1
        rw [h3]
        exact Prod.ext h2 rfl
      | succ j => exact Or.inr ⟨j, by simpa using h1, by omega⟩
theorem z_L.get {ls : Array Slot} {nL : Nat} {lv : List (Option Value)} (h : z_L ls nL lv) {i : Nat} {v : Value} (hi : lv[i]? = some (some v)) : ls[i]? = some (.val v) :=
  h.2.2 (i, v) ((z_pr_mem lv 0 (i, v)).mpr ⟨i, hi, by omega⟩)
/-- of one slot, or nothing -/
def z_c1 : Option Value → Bool
  | some (.long _) => false
  | some (.double _) => false
  | _ => true
theorem z_c1_cat {v : Value} (h : z_c1 (some v) = true) : v.category = 1 := by
  cases v <;> first | rfl | (simp [z_c1] at h; done)
/-- the locals behind the storing of a value of one slot -/
theorem z_L.set1 {ls : Array Slot} {nL : Nat} {lv : List (Option Value)} {i : Nat} {v : Value} (hi : i < lv.length) (hc : ∀ j o, j + 1 = i → lv[j]? = some o → z_c1 o = true) (h : lv_has ls nL ((i, v) :: (z_pr 0 lv).filter (fun q => !(q.1 == i) && !(q.1 + 1 == i && q.2.category == 2)))) : z_L ls nL (lv.set i (some v)) := by
  refine ⟨h.1, h.2.1, fun q hq => ?_⟩
  obtain ⟨j, h1, h2⟩ := (z_pr_mem _ 0 q).mp hq
  have h2 : q.1 = j := by omega
  by_cases hj : j = i
  · subst hj
    rw [List.getElem?_set_self hi] at h1
    have h3 : v = q.2 := by simpa using h1
    have : q = (j, v) := by rw [h3]; exact Prod.ext h2 rfl
    rw [this]
    exact h.2.2 (j, v) List.mem_cons_self
  · rw [List.getElem?_set_ne (Ne.symm hj)] at h1
    refine h.2.2 q (List.mem_cons_of_mem _ (List.mem_filter.mpr ⟨(z_pr_mem _ 0 q).mpr ⟨j, h1, by omega⟩, ?_⟩))
    simp only [Bool.and_eq_true, Bool.not_eq_true', beq_eq_false_iff_ne, ne_eq, Bool.and_eq_false_iff]
    refine ⟨by omega, ?_⟩
    by_cases h4 : q.1 + 1 = i
    · right
      have := z_c1_cat (hc j _ (by omega) h1)
      omega
    · exact Or.inl h4
theorem z_L.set2 {ls : Array Slot} {nL : Nat} {lv : List (Option Value)} {i : Nat} {v : Value} (hi : i + 1 < lv.length) (hc : ∀ j o, j + 1 = i → lv[j]? = some o → z_c1 o = true) (h : lv_has ls nL ((i, v) :: (z_pr 0 lv).filter (fun q => !(q.1 == i) && (!(q.1 == i + 1) && !(q.1 + 1 == i && q.2.category == 2))))) : z_L ls nL ((lv.set i (some v)).set (i + 1) none) := by
  refine ⟨h.1, h.2.1, fun q hq => ?_⟩
  obtain ⟨j, h1, h2⟩ := (z_pr_mem _ 0 q).mp hq
  have h2 : q.1 = j := by omega
  by_cases hj1 : j = i + 1
  · subst hj1
    rw [List.getElem?_set_self (by rw [List.length_set]; exact hi)] at h1
    simp at h1
  · rw [List.getElem?_set_ne (Ne.symm hj1)] at h1
    by_cases hj : j = i
    · subst hj
      rw [List.getElem?_set_self (by omega)] at h1
      have h3 : v = q.2 := by simpa using h1
      have : q = (j, v) := by rw [h3]; exact Prod.ext h2 rfl
      rw [this]
      exact h.2.2 (j, v) List.mem_cons_self
    · rw [List.getElem?_set_ne (Ne.symm hj)] at h1
      refine h.2.2 q (List.mem_cons_of_mem _ (List.mem_filter.mpr ⟨(z_pr_mem _ 0 q).mpr ⟨j, h1, by omega⟩, ?_⟩))
      simp only [Bool.and_eq_true, Bool.not_eq_true', beq_eq_false_iff_ne, ne_eq, Bool.and_eq_false_iff]
      refine ⟨by omega, by omega, ?_⟩
      by_cases h4 : q.1 + 1 = i
      · right
        have := z_c1_cat (hc j _ (by omega) h1)
        omega
      · exact Or.inl h4
theorem z_L.nil {ls : Array Slot} {nL : Nat} {lv lv' : List (Option Value)} (h : z_L ls nL lv) (hs : ∀ (j : Nat) (v : Value), lv'[j]? = some (some v) → lv[j]? = some (some v)) : z_L ls nL lv' :=
  ⟨h.1, h.2.1, fun q hq => by
    obtain ⟨j, h1, h2⟩ := (z_pr_mem _ 0 q).mp hq
    exact h.2.2 q ((z_pr_mem _ 0 q).mpr ⟨j, hs j _ h1, h2⟩)⟩
end
section
/-! THE ROWS of the judgement for instructions that touch locals and operands alone (written by wip/whole/gen_rows.py) -/

section ZROWS
variable {E : zE} {l : Launch} {y : MethodName} {cc : ByteArray} {nL : Nat} {ret : Option FieldType} {hh : List (Nat × Nat × Nat × Nat)} {R : Room} {mc ms : Nat} {Q : zQ} {k n : Nat} {G : zG} {I : zI} {sz pc : Nat} {lv : List (Option Value)} {st : List Value}
theorem v_iconst {i : Int} {x : Int32} {pc' : Nat} (hd : decode cc pc = .ok (.iconst i, 1)) (hx : Int32.ofInt i = x) (hp : pc + 1 = pc') (h : z_V E l (y, cc, nL, ret, hh) R mc ms Q k n G I sz pc' lv (.int x :: st)) : z_V E l (y, cc, nL, ret, hh) R mc ms Q k n G I sz pc lv (st) := by
  subst hp
  exact fun p e s m args below meth c C H locs ls hW hS hL => lv_iconst C.1 C.2.1 hd hx (h p e s m args below meth c C H locs ls hW hS hL)
theorem v_bipush {i : Int} {x : Int32} {pc' : Nat} (hd : decode cc pc = .ok (.bipush i, 2)) (hx : (Int8.ofInt i).toInt32 = x) (hp : pc + 2 = pc') (h : z_V E l (y, cc, nL, ret, hh) R mc ms Q k n G I sz pc' lv (.int x :: st)) : z_V E l (y, cc, nL, ret, hh) R mc ms Q k n G I sz pc lv (st) := by
  subst hp
  exact fun p e s m args below meth c C H locs ls hW hS hL => lv_bipush C.1 C.2.1 hd hx (h p e s m args below meth c C H locs ls hW hS hL)
theorem v_sipush {i : Int} {x : Int32} {pc' : Nat} (hd : decode cc pc = .ok (.sipush i, 3)) (hx : (Int16.ofInt i).toInt32 = x) (hp : pc + 3 = pc') (h : z_V E l (y, cc, nL, ret, hh) R mc ms Q k n G I sz pc' lv (.int x :: st)) : z_V E l (y, cc, nL, ret, hh) R mc ms Q k n G I sz pc lv (st) := by
  subst hp
  exact fun p e s m args below meth c C H locs ls hW hS hL => lv_sipush C.1 C.2.1 hd hx (h p e s m args below meth c C H locs ls hW hS hL)
theorem v_lconst {i : Fin 2} {x : Int64} {pc' : Nat} (hd : decode cc pc = .ok (.lconst i, 1)) (hx : Int64.ofNat (i : Nat) = x) (hp : pc + 1 = pc') (h : z_V E l (y, cc, nL, ret, hh) R mc ms Q k n G I sz pc' lv (.long x :: st)) : z_V E l (y, cc, nL, ret, hh) R mc ms Q k n G I sz pc lv (st) := by
  subst hp
  exact fun p e s m args below meth c C H locs ls hW hS hL => lv_lconst C.1 C.2.1 hd hx (h p e s m args below meth c C H locs ls hW hS hL)
theorem v_null  {pc' : Nat} (hd : decode cc pc = .ok (.aconst_null, 1))  (hp : pc + 1 = pc') (h : z_V E l (y, cc, nL, ret, hh) R mc ms Q k n G I sz pc' lv (.null :: st)) : z_V E l (y, cc, nL, ret, hh) R mc ms Q k n G I sz pc lv (st) := by
  subst hp
  exact fun p e s m args below meth c C H locs ls hW hS hL => lv_null C.1 C.2.1 hd  (h p e s m args below meth c C H locs ls hW hS hL)
theorem v_ldc2 {i : Nat} {x : Int64} {pc' : Nat} (hd : decode cc pc = .ok (.ldc2_w i, 3)) (hx : Cond.constantLong y.cls i x ∈ gw) (hp : pc + 3 = pc') (h : z_V E l (y, cc, nL, ret, hh) R mc ms Q k n G I sz pc' lv (.long x :: st)) : z_V E l (y, cc, nL, ret, hh) R mc ms Q k n G I sz pc lv (st) := by
  subst hp
  exact fun p e s m args below meth c C H locs ls hW hS hL => lv_ldc2 C.1 C.2.1 C.2.2.2.2.1 (C.2.2.2.2.2.1 _ hx) hd  (h p e s m args below meth c C H locs ls hW hS hL)
theorem v_iload_n {q : Fin 4} {x : Int32} {pc' : Nat} (hd : decode cc pc = .ok (.iload_n q, 1)) (hl : lv[(q : Nat)]? = some (some (.int x))) (hp : pc + 1 = pc') (h : z_V E l (y, cc, nL, ret, hh) R mc ms Q k n G I sz pc' lv (.int x :: st)) : z_V E l (y, cc, nL, ret, hh) R mc ms Q k n G I sz pc lv (st) := by
  subst hp
  exact fun p e s m args below meth c C H locs ls hW hS hL => lv_iload_n C.1 C.2.1 hd rfl (hL.get hl) (h p e s m args below meth c C H locs ls hW hS hL)
theorem v_iload {i : Nat} {x : Int32} {pc' : Nat} (hd : decode cc pc = .ok (.iload i, 2)) (hl : lv[i]? = some (some (.int x))) (hp : pc + 2 = pc') (h : z_V E l (y, cc, nL, ret, hh) R mc ms Q k n G I sz pc' lv (.int x :: st)) : z_V E l (y, cc, nL, ret, hh) R mc ms Q k n G I sz pc lv (st) := by
  subst hp
  exact fun p e s m args below meth c C H locs ls hW hS hL => lv_iload C.1 C.2.1 hd (hL.get hl) (h p e s m args below meth c C H locs ls hW hS hL)
theorem v_lload_n {q : Fin 4} {x : Int64} {pc' : Nat} (hd : decode cc pc = .ok (.lload_n q, 1)) (hl : lv[(q : Nat)]? = some (some (.long x))) (hp : pc + 1 = pc') (h : z_V E l (y, cc, nL, ret, hh) R mc ms Q k n G I sz pc' lv (.long x :: st)) : z_V E l (y, cc, nL, ret, hh) R mc ms Q k n G I sz pc lv (st) := by
  subst hp
  exact fun p e s m args below meth c C H locs ls hW hS hL => lv_lload_n C.1 C.2.1 hd rfl (hL.get hl) (h p e s m args below meth c C H locs ls hW hS hL)
theorem v_lload {i : Nat} {x : Int64} {pc' : Nat} (hd : decode cc pc = .ok (.lload i, 2)) (hl : lv[i]? = some (some (.long x))) (hp : pc + 2 = pc') (h : z_V E l (y, cc, nL, ret, hh) R mc ms Q k n G I sz pc' lv (.long x :: st)) : z_V E l (y, cc, nL, ret, hh) R mc ms Q k n G I sz pc lv (st) := by
  subst hp
  exact fun p e s m args below meth c C H locs ls hW hS hL => lv_lload C.1 C.2.1 hd (hL.get hl) (h p e s m args below meth c C H locs ls hW hS hL)
theorem v_aload_n {q : Fin 4} {x : Nat} {pc' : Nat} (hd : decode cc pc = .ok (.aload_n q, 1)) (hl : lv[(q : Nat)]? = some (some (.ref x))) (hp : pc + 1 = pc') (h : z_V E l (y, cc, nL, ret, hh) R mc ms Q k n G I sz pc' lv (.ref x :: st)) : z_V E l (y, cc, nL, ret, hh) R mc ms Q k n G I sz pc lv (st) := by
  subst hp
  exact fun p e s m args below meth c C H locs ls hW hS hL => lv_aload_n C.1 C.2.1 hd rfl (hL.get hl) (h p e s m args below meth c C H locs ls hW hS hL)
theorem v_aload {i : Nat} {x : Nat} {pc' : Nat} (hd : decode cc pc = .ok (.aload i, 2)) (hl : lv[i]? = some (some (.ref x))) (hp : pc + 2 = pc') (h : z_V E l (y, cc, nL, ret, hh) R mc ms Q k n G I sz pc' lv (.ref x :: st)) : z_V E l (y, cc, nL, ret, hh) R mc ms Q k n G I sz pc lv (st) := by
  subst hp
  exact fun p e s m args below meth c C H locs ls hW hS hL => lv_aload C.1 C.2.1 hd (hL.get hl) (h p e s m args below meth c C H locs ls hW hS hL)
theorem v_aloadN_n {q : Fin 4} {pc' : Nat} (hd : decode cc pc = .ok (.aload_n q, 1)) (hl : lv[(q : Nat)]? = some (some .null)) (hp : pc + 1 = pc') (h : z_V E l (y, cc, nL, ret, hh) R mc ms Q k n G I sz pc' lv (.null :: st)) : z_V E l (y, cc, nL, ret, hh) R mc ms Q k n G I sz pc lv (st) := by
  subst hp
  exact fun p e s m args below meth c C H locs ls hW hS hL => lv_aload_nN C.1 C.2.1 hd rfl (hL.get hl) (h p e s m args below meth c C H locs ls hW hS hL)
theorem v_aloadN {i : Nat} {pc' : Nat} (hd : decode cc pc = .ok (.aload i, 2)) (hl : lv[i]? = some (some .null)) (hp : pc + 2 = pc') (h : z_V E l (y, cc, nL, ret, hh) R mc ms Q k n G I sz pc' lv (.null :: st)) : z_V E l (y, cc, nL, ret, hh) R mc ms Q k n G I sz pc lv (st) := by
  subst hp
  exact fun p e s m args below meth c C H locs ls hW hS hL => lv_aloadN C.1 C.2.1 hd (hL.get hl) (h p e s m args below meth c C H locs ls hW hS hL)
theorem w_istore_n {q : Fin 4} {i : Nat} {x : Int32} {pc' : Nat} (hd : decode cc pc = .ok (.istore_n q, 1)) (hq : (q : Nat) = i) (hn : i < nL) (hi : i < lv.length) (hc : ∀ j o, j + 1 = i → lv[j]? = some o → z_c1 o = true) (hp : pc + 1 = pc') (h : z_V E l (y, cc, nL, ret, hh) R mc ms Q k n G I sz pc' (lv.set i (some (.int x))) st) : z_V E l (y, cc, nL, ret, hh) R mc ms Q k n G I sz pc lv ((.int x) :: st) := by
  subst hp
  exact fun p e s m args below meth c C H locs ls hW hS hL => lv_istore_n C.1 C.2.1 hd hq hL hn rfl (fun ls hl => h p e s m args below meth c C H locs ls hW hS (z_L.set1 hi hc hl))
theorem w_istore {i : Nat} {x : Int32} {pc' : Nat} (hd : decode cc pc = .ok (.istore i, 2))  (hn : i < nL) (hi : i < lv.length) (hc : ∀ j o, j + 1 = i → lv[j]? = some o → z_c1 o = true) (hp : pc + 2 = pc') (h : z_V E l (y, cc, nL, ret, hh) R mc ms Q k n G I sz pc' (lv.set i (some (.int x))) st) : z_V E l (y, cc, nL, ret, hh) R mc ms Q k n G I sz pc lv ((.int x) :: st) := by
  subst hp
  exact fun p e s m args below meth c C H locs ls hW hS hL => lv_istore C.1 C.2.1 hd hL hn rfl (fun ls hl => h p e s m args below meth c C H locs ls hW hS (z_L.set1 hi hc hl))
theorem w_astore_n {q : Fin 4} {i : Nat} {x : Nat} {pc' : Nat} (hd : decode cc pc = .ok (.astore_n q, 1)) (hq : (q : Nat) = i) (hn : i < nL) (hi : i < lv.length) (hc : ∀ j o, j + 1 = i → lv[j]? = some o → z_c1 o = true) (hp : pc + 1 = pc') (h : z_V E l (y, cc, nL, ret, hh) R mc ms Q k n G I sz pc' (lv.set i (some (.ref x))) st) : z_V E l (y, cc, nL, ret, hh) R mc ms Q k n G I sz pc lv ((.ref x) :: st) := by
  subst hp
  exact fun p e s m args below meth c C H locs ls hW hS hL => lv_astore_n C.1 C.2.1 hd hq hL hn rfl (fun ls hl => h p e s m args below meth c C H locs ls hW hS (z_L.set1 hi hc hl))
theorem w_astore {i : Nat} {x : Nat} {pc' : Nat} (hd : decode cc pc = .ok (.astore i, 2))  (hn : i < nL) (hi : i < lv.length) (hc : ∀ j o, j + 1 = i → lv[j]? = some o → z_c1 o = true) (hp : pc + 2 = pc') (h : z_V E l (y, cc, nL, ret, hh) R mc ms Q k n G I sz pc' (lv.set i (some (.ref x))) st) : z_V E l (y, cc, nL, ret, hh) R mc ms Q k n G I sz pc lv ((.ref x) :: st) := by
  subst hp
  exact fun p e s m args below meth c C H locs ls hW hS hL => lv_astore C.1 C.2.1 hd hL hn rfl (fun ls hl => h p e s m args below meth c C H locs ls hW hS (z_L.set1 hi hc hl))
theorem w_lstore_n {q : Fin 4} {i : Nat} {x : Int64} {pc' : Nat} (hd : decode cc pc = .ok (.lstore_n q, 1)) (hq : (q : Nat) = i) (hn : i + 1 < nL) (hi : i + 1 < lv.length) (hc : ∀ j o, j + 1 = i → lv[j]? = some o → z_c1 o = true) (hp : pc + 1 = pc') (h : z_V E l (y, cc, nL, ret, hh) R mc ms Q k n G I sz pc' ((lv.set i (some (.long x))).set (i + 1) none) st) : z_V E l (y, cc, nL, ret, hh) R mc ms Q k n G I sz pc lv ((.long x) :: st) := by
  subst hp
  exact fun p e s m args below meth c C H locs ls hW hS hL => lv_lstore_n C.1 C.2.1 hd hq hL hn rfl (fun ls hl => h p e s m args below meth c C H locs ls hW hS (z_L.set2 hi hc hl))
theorem w_lstore {i : Nat} {x : Int64} {pc' : Nat} (hd : decode cc pc = .ok (.lstore i, 2))  (hn : i + 1 < nL) (hi : i + 1 < lv.length) (hc : ∀ j o, j + 1 = i → lv[j]? = some o → z_c1 o = true) (hp : pc + 2 = pc') (h : z_V E l (y, cc, nL, ret, hh) R mc ms Q k n G I sz pc' ((lv.set i (some (.long x))).set (i + 1) none) st) : z_V E l (y, cc, nL, ret, hh) R mc ms Q k n G I sz pc lv ((.long x) :: st) := by
  subst hp
  exact fun p e s m args below meth c C H locs ls hW hS hL => lv_lstore C.1 C.2.1 hd hL hn rfl (fun ls hl => h p e s m args below meth c C H locs ls hW hS (z_L.set2 hi hc hl))
theorem w_astoreN_n {q : Fin 4} {i : Nat}  {pc' : Nat} (hd : decode cc pc = .ok (.astore_n q, 1)) (hq : (q : Nat) = i) (hn : i < nL) (hi : i < lv.length) (hc : ∀ j o, j + 1 = i → lv[j]? = some o → z_c1 o = true) (hp : pc + 1 = pc') (h : z_V E l (y, cc, nL, ret, hh) R mc ms Q k n G I sz pc' (lv.set i (some .null)) st) : z_V E l (y, cc, nL, ret, hh) R mc ms Q k n G I sz pc lv (.null :: st) := by
  subst hp
  exact fun p e s m args below meth c C H locs ls hW hS hL => lv_astore_nN C.1 C.2.1 hd hq hL hn rfl (fun ls hl => h p e s m args below meth c C H locs ls hW hS (z_L.set1 hi hc hl))
theorem w_astoreN {i : Nat}  {pc' : Nat} (hd : decode cc pc = .ok (.astore i, 2))  (hn : i < nL) (hi : i < lv.length) (hc : ∀ j o, j + 1 = i → lv[j]? = some o → z_c1 o = true) (hp : pc + 2 = pc') (h : z_V E l (y, cc, nL, ret, hh) R mc ms Q k n G I sz pc' (lv.set i (some .null)) st) : z_V E l (y, cc, nL, ret, hh) R mc ms Q k n G I sz pc lv (.null :: st) := by
  subst hp
  exact fun p e s m args below meth c C H locs ls hW hS hL => lv_astoreN C.1 C.2.1 hd hL hn rfl (fun ls hl => h p e s m args below meth c C H locs ls hW hS (z_L.set1 hi hc hl))
theorem w_iinc {i : Nat} {j : Int} {x : Int32} {pc' : Nat} (hd : decode cc pc = .ok (.iinc i j, 3)) (hl : lv[i]? = some (some (.int x))) (hn : i < nL) (hc : ∀ j o, j + 1 = i → lv[j]? = some o → z_c1 o = true) (hp : pc + 3 = pc') (h : z_V E l (y, cc, nL, ret, hh) R mc ms Q k n G I sz pc' (lv.set i (some (.int (x + Int32.ofInt j)))) st) : z_V E l (y, cc, nL, ret, hh) R mc ms Q k n G I sz pc lv st := by
  subst hp
  intro p e s m args below meth c C H locs ls hW hS hL
  have hm : (i, Value.int x) ∈ z_pr 0 lv := (z_pr_mem lv 0 _).mpr ⟨i, hl, by simp⟩
  obtain ⟨k9, hk9⟩ := List.getElem?_of_mem hm
  exact lv_iinc C.1 C.2.1 hd hL hk9 rfl hn rfl (fun ls hl9 => h p e s m args below meth c C H locs ls hW hS (z_L.set1 (List.getElem?_eq_some_iff.mp hl).1 hc hl9))
theorem v_istore_n0 {a0 : Option Value} {x : Int32} {pc' : Nat} (hd : decode cc pc = .ok (.istore_n 0, 1)) (hn : 0 < nL)  (hp : pc + 1 = pc') (h : z_V E l (y, cc, nL, ret, hh) R mc ms Q k n G I sz pc' (some (.int x) :: lv) st) : z_V E l (y, cc, nL, ret, hh) R mc ms Q k n G I sz pc (a0 :: lv) ((.int x) :: st) := w_istore_n (i := 0) hd rfl hn (by simp) (fun j o hj ho => by omega) hp h
theorem v_istore0 {a0 : Option Value} {x : Int32} {pc' : Nat} (hd : decode cc pc = .ok (.istore 0, 2)) (hn : 0 < nL)  (hp : pc + 2 = pc') (h : z_V E l (y, cc, nL, ret, hh) R mc ms Q k n G I sz pc' (some (.int x) :: lv) st) : z_V E l (y, cc, nL, ret, hh) R mc ms Q k n G I sz pc (a0 :: lv) ((.int x) :: st) := w_istore (i := 0) hd hn (by simp) (fun j o hj ho => by omega) hp h
theorem v_astore_n0 {a0 : Option Value} {x : Nat} {pc' : Nat} (hd : decode cc pc = .ok (.astore_n 0, 1)) (hn : 0 < nL)  (hp : pc + 1 = pc') (h : z_V E l (y, cc, nL, ret, hh) R mc ms Q k n G I sz pc' (some (.ref x) :: lv) st) : z_V E l (y, cc, nL, ret, hh) R mc ms Q k n G I sz pc (a0 :: lv) ((.ref x) :: st) := w_astore_n (i := 0) hd rfl hn (by simp) (fun j o hj ho => by omega) hp h
theorem v_astore0 {a0 : Option Value} {x : Nat} {pc' : Nat} (hd : decode cc pc = .ok (.astore 0, 2)) (hn : 0 < nL)  (hp : pc + 2 = pc') (h : z_V E l (y, cc, nL, ret, hh) R mc ms Q k n G I sz pc' (some (.ref x) :: lv) st) : z_V E l (y, cc, nL, ret, hh) R mc ms Q k n G I sz pc (a0 :: lv) ((.ref x) :: st) := w_astore (i := 0) hd hn (by simp) (fun j o hj ho => by omega) hp h
theorem v_astoreN_n0 {a0 : Option Value}  {pc' : Nat} (hd : decode cc pc = .ok (.astore_n 0, 1)) (hn : 0 < nL)  (hp : pc + 1 = pc') (h : z_V E l (y, cc, nL, ret, hh) R mc ms Q k n G I sz pc' (some .null :: lv) st) : z_V E l (y, cc, nL, ret, hh) R mc ms Q k n G I sz pc (a0 :: lv) (.null :: st) := w_astoreN_n (i := 0) hd rfl hn (by simp) (fun j o hj ho => by omega) hp h
theorem v_astoreN0 {a0 : Option Value}  {pc' : Nat} (hd : decode cc pc = .ok (.astore 0, 2)) (hn : 0 < nL)  (hp : pc + 2 = pc') (h : z_V E l (y, cc, nL, ret, hh) R mc ms Q k n G I sz pc' (some .null :: lv) st) : z_V E l (y, cc, nL, ret, hh) R mc ms Q k n G I sz pc (a0 :: lv) (.null :: st) := w_astoreN (i := 0) hd hn (by simp) (fun j o hj ho => by omega) hp h
theorem v_iinc0  {j : Int} {x w z : Int32} {pc' : Nat} (hd : decode cc pc = .ok (.iinc 0 j, 3)) (hn : 0 < nL)  (hj : Int32.ofInt j = w) (hz : x + w = z) (hp : pc + 3 = pc') (h : z_V E l (y, cc, nL, ret, hh) R mc ms Q k n G I sz pc' (some (.int z) :: lv) st) : z_V E l (y, cc, nL, ret, hh) R mc ms Q k n G I sz pc (some (.int x) :: lv) st := w_iinc hd rfl hn (fun j o hj ho => by omega) hp (by subst hj; subst hz; exact h)
theorem v_lstore_n0 {a0 a1 : Option Value} {x : Int64} {pc' : Nat} (hd : decode cc pc = .ok (.lstore_n 0, 1)) (hn : 0 + 1 < nL)  (hp : pc + 1 = pc') (h : z_V E l (y, cc, nL, ret, hh) R mc ms Q k n G I sz pc' (some (.long x) :: none :: lv) st) : z_V E l (y, cc, nL, ret, hh) R mc ms Q k n G I sz pc (a0 :: a1 :: lv) (.long x :: st) := w_lstore_n (i := 0) hd rfl hn (by simp) (fun j o hj ho => by omega) hp h
theorem v_lstore0 {a0 a1 : Option Value} {x : Int64} {pc' : Nat} (hd : decode cc pc = .ok (.lstore 0, 2)) (hn : 0 + 1 < nL)  (hp : pc + 2 = pc') (h : z_V E l (y, cc, nL, ret, hh) R mc ms Q k n G I sz pc' (some (.long x) :: none :: lv) st) : z_V E l (y, cc, nL, ret, hh) R mc ms Q k n G I sz pc (a0 :: a1 :: lv) (.long x :: st) := w_lstore (i := 0) hd hn (by simp) (fun j o hj ho => by omega) hp h
theorem v_istore_n1 {a0 a1 : Option Value} {x : Int32} {pc' : Nat} (hd : decode cc pc = .ok (.istore_n 1, 1)) (hn : 1 < nL) (hc : z_c1 a0 = true) (hp : pc + 1 = pc') (h : z_V E l (y, cc, nL, ret, hh) R mc ms Q k n G I sz pc' (a0 :: some (.int x) :: lv) st) : z_V E l (y, cc, nL, ret, hh) R mc ms Q k n G I sz pc (a0 :: a1 :: lv) ((.int x) :: st) := w_istore_n (i := 1) hd rfl hn (by simp) (fun j o hj ho => by have e : j = 0 := (by omega); subst e; cases ho; exact hc) hp h
theorem v_istore1 {a0 a1 : Option Value} {x : Int32} {pc' : Nat} (hd : decode cc pc = .ok (.istore 1, 2)) (hn : 1 < nL) (hc : z_c1 a0 = true) (hp : pc + 2 = pc') (h : z_V E l (y, cc, nL, ret, hh) R mc ms Q k n G I sz pc' (a0 :: some (.int x) :: lv) st) : z_V E l (y, cc, nL, ret, hh) R mc ms Q k n G I sz pc (a0 :: a1 :: lv) ((.int x) :: st) := w_istore (i := 1) hd hn (by simp) (fun j o hj ho => by have e : j = 0 := (by omega); subst e; cases ho; exact hc) hp h
theorem v_astore_n1 {a0 a1 : Option Value} {x : Nat} {pc' : Nat} (hd : decode cc pc = .ok (.astore_n 1, 1)) (hn : 1 < nL) (hc : z_c1 a0 = true) (hp : pc + 1 = pc') (h : z_V E l (y, cc, nL, ret, hh) R mc ms Q k n G I sz pc' (a0 :: some (.ref x) :: lv) st) : z_V E l (y, cc, nL, ret, hh) R mc ms Q k n G I sz pc (a0 :: a1 :: lv) ((.ref x) :: st) := w_astore_n (i := 1) hd rfl hn (by simp) (fun j o hj ho => by have e : j = 0 := (by omega); subst e; cases ho; exact hc) hp h
theorem v_astore1 {a0 a1 : Option Value} {x : Nat} {pc' : Nat} (hd : decode cc pc = .ok (.astore 1, 2)) (hn : 1 < nL) (hc : z_c1 a0 = true) (hp : pc + 2 = pc') (h : z_V E l (y, cc, nL, ret, hh) R mc ms Q k n G I sz pc' (a0 :: some (.ref x) :: lv) st) : z_V E l (y, cc, nL, ret, hh) R mc ms Q k n G I sz pc (a0 :: a1 :: lv) ((.ref x) :: st) := w_astore (i := 1) hd hn (by simp) (fun j o hj ho => by have e : j = 0 := (by omega); subst e; cases ho; exact hc) hp h
theorem v_astoreN_n1 {a0 a1 : Option Value}  {pc' : Nat} (hd : decode cc pc = .ok (.astore_n 1, 1)) (hn : 1 < nL) (hc : z_c1 a0 = true) (hp : pc + 1 = pc') (h : z_V E l (y, cc, nL, ret, hh) R mc ms Q k n G I sz pc' (a0 :: some .null :: lv) st) : z_V E l (y, cc, nL, ret, hh) R mc ms Q k n G I sz pc (a0 :: a1 :: lv) (.null :: st) := w_astoreN_n (i := 1) hd rfl hn (by simp) (fun j o hj ho => by have e : j = 0 := (by omega); subst e; cases ho; exact hc) hp h
theorem v_astoreN1 {a0 a1 : Option Value}  {pc' : Nat} (hd : decode cc pc = .ok (.astore 1, 2)) (hn : 1 < nL) (hc : z_c1 a0 = true) (hp : pc + 2 = pc') (h : z_V E l (y, cc, nL, ret, hh) R mc ms Q k n G I sz pc' (a0 :: some .null :: lv) st) : z_V E l (y, cc, nL, ret, hh) R mc ms Q k n G I sz pc (a0 :: a1 :: lv) (.null :: st) := w_astoreN (i := 1) hd hn (by simp) (fun j o hj ho => by have e : j = 0 := (by omega); subst e; cases ho; exact hc) hp h
theorem v_iinc1 {a0 : Option Value} {j : Int} {x w z : Int32} {pc' : Nat} (hd : decode cc pc = .ok (.iinc 1 j, 3)) (hn : 1 < nL) (hc : z_c1 a0 = true) (hj : Int32.ofInt j = w) (hz : x + w = z) (hp : pc + 3 = pc') (h : z_V E l (y, cc, nL, ret, hh) R mc ms Q k n G I sz pc' (a0 :: some (.int z) :: lv) st) : z_V E l (y, cc, nL, ret, hh) R mc ms Q k n G I sz pc (a0 :: some (.int x) :: lv) st := w_iinc hd rfl hn (fun j o hj ho => by have e : j = 0 := (by omega); subst e; cases ho; exact hc) hp (by subst hj; subst hz; exact h)
theorem v_lstore_n1 {a0 a1 a2 : Option Value} {x : Int64} {pc' : Nat} (hd : decode cc pc = .ok (.lstore_n 1, 1)) (hn : 1 + 1 < nL) (hc : z_c1 a0 = true) (hp : pc + 1 = pc') (h : z_V E l (y, cc, nL, ret, hh) R mc ms Q k n G I sz pc' (a0 :: some (.long x) :: none :: lv) st) : z_V E l (y, cc, nL, ret, hh) R mc ms Q k n G I sz pc (a0 :: a1 :: a2 :: lv) (.long x :: st) := w_lstore_n (i := 1) hd rfl hn (by simp) (fun j o hj ho => by have e : j = 0 := (by omega); subst e; cases ho; exact hc) hp h
theorem v_lstore1 {a0 a1 a2 : Option Value} {x : Int64} {pc' : Nat} (hd : decode cc pc = .ok (.lstore 1, 2)) (hn : 1 + 1 < nL) (hc : z_c1 a0 = true) (hp : pc + 2 = pc') (h : z_V E l (y, cc, nL, ret, hh) R mc ms Q k n G I sz pc' (a0 :: some (.long x) :: none :: lv) st) : z_V E l (y, cc, nL, ret, hh) R mc ms Q k n G I sz pc (a0 :: a1 :: a2 :: lv) (.long x :: st) := w_lstore (i := 1) hd hn (by simp) (fun j o hj ho => by have e : j = 0 := (by omega); subst e; cases ho; exact hc) hp h
theorem v_istore_n2 {a0 a1 a2 : Option Value} {x : Int32} {pc' : Nat} (hd : decode cc pc = .ok (.istore_n 2, 1)) (hn : 2 < nL) (hc : z_c1 a1 = true) (hp : pc + 1 = pc') (h : z_V E l (y, cc, nL, ret, hh) R mc ms Q k n G I sz pc' (a0 :: a1 :: some (.int x) :: lv) st) : z_V E l (y, cc, nL, ret, hh) R mc ms Q k n G I sz pc (a0 :: a1 :: a2 :: lv) ((.int x) :: st) := w_istore_n (i := 2) hd rfl hn (by simp) (fun j o hj ho => by have e : j = 1 := (by omega); subst e; cases ho; exact hc) hp h
theorem v_istore2 {a0 a1 a2 : Option Value} {x : Int32} {pc' : Nat} (hd : decode cc pc = .ok (.istore 2, 2)) (hn : 2 < nL) (hc : z_c1 a1 = true) (hp : pc + 2 = pc') (h : z_V E l (y, cc, nL, ret, hh) R mc ms Q k n G I sz pc' (a0 :: a1 :: some (.int x) :: lv) st) : z_V E l (y, cc, nL, ret, hh) R mc ms Q k n G I sz pc (a0 :: a1 :: a2 :: lv) ((.int x) :: st) := w_istore (i := 2) hd hn (by simp) (fun j o hj ho => by have e : j = 1 := (by omega); subst e; cases ho; exact hc) hp h
theorem v_astore_n2 {a0 a1 a2 : Option Value} {x : Nat} {pc' : Nat} (hd : decode cc pc = .ok (.astore_n 2, 1)) (hn : 2 < nL) (hc : z_c1 a1 = true) (hp : pc + 1 = pc') (h : z_V E l (y, cc, nL, ret, hh) R mc ms Q k n G I sz pc' (a0 :: a1 :: some (.ref x) :: lv) st) : z_V E l (y, cc, nL, ret, hh) R mc ms Q k n G I sz pc (a0 :: a1 :: a2 :: lv) ((.ref x) :: st) := w_astore_n (i := 2) hd rfl hn (by simp) (fun j o hj ho => by have e : j = 1 := (by omega); subst e; cases ho; exact hc) hp h
theorem v_astore2 {a0 a1 a2 : Option Value} {x : Nat} {pc' : Nat} (hd : decode cc pc = .ok (.astore 2, 2)) (hn : 2 < nL) (hc : z_c1 a1 = true) (hp : pc + 2 = pc') (h : z_V E l (y, cc, nL, ret, hh) R mc ms Q k n G I sz pc' (a0 :: a1 :: some (.ref x) :: lv) st) : z_V E l (y, cc, nL, ret, hh) R mc ms Q k n G I sz pc (a0 :: a1 :: a2 :: lv) ((.ref x) :: st) := w_astore (i := 2) hd hn (by simp) (fun j o hj ho => by have e : j = 1 := (by omega); subst e; cases ho; exact hc) hp h
theorem v_astoreN_n2 {a0 a1 a2 : Option Value}  {pc' : Nat} (hd : decode cc pc = .ok (.astore_n 2, 1)) (hn : 2 < nL) (hc : z_c1 a1 = true) (hp : pc + 1 = pc') (h : z_V E l (y, cc, nL, ret, hh) R mc ms Q k n G I sz pc' (a0 :: a1 :: some .null :: lv) st) : z_V E l (y, cc, nL, ret, hh) R mc ms Q k n G I sz pc (a0 :: a1 :: a2 :: lv) (.null :: st) := w_astoreN_n (i := 2) hd rfl hn (by simp) (fun j o hj ho => by have e : j = 1 := (by omega); subst e; cases ho; exact hc) hp h
theorem v_astoreN2 {a0 a1 a2 : Option Value}  {pc' : Nat} (hd : decode cc pc = .ok (.astore 2, 2)) (hn : 2 < nL) (hc : z_c1 a1 = true) (hp : pc + 2 = pc') (h : z_V E l (y, cc, nL, ret, hh) R mc ms Q k n G I sz pc' (a0 :: a1 :: some .null :: lv) st) : z_V E l (y, cc, nL, ret, hh) R mc ms Q k n G I sz pc (a0 :: a1 :: a2 :: lv) (.null :: st) := w_astoreN (i := 2) hd hn (by simp) (fun j o hj ho => by have e : j = 1 := (by omega); subst e; cases ho; exact hc) hp h
theorem v_iinc2 {a0 a1 : Option Value} {j : Int} {x w z : Int32} {pc' : Nat} (hd : decode cc pc = .ok (.iinc 2 j, 3)) (hn : 2 < nL) (hc : z_c1 a1 = true) (hj : Int32.ofInt j = w) (hz : x + w = z) (hp : pc + 3 = pc') (h : z_V E l (y, cc, nL, ret, hh) R mc ms Q k n G I sz pc' (a0 :: a1 :: some (.int z) :: lv) st) : z_V E l (y, cc, nL, ret, hh) R mc ms Q k n G I sz pc (a0 :: a1 :: some (.int x) :: lv) st := w_iinc hd rfl hn (fun j o hj ho => by have e : j = 1 := (by omega); subst e; cases ho; exact hc) hp (by subst hj; subst hz; exact h)
theorem v_lstore_n2 {a0 a1 a2 a3 : Option Value} {x : Int64} {pc' : Nat} (hd : decode cc pc = .ok (.lstore_n 2, 1)) (hn : 2 + 1 < nL) (hc : z_c1 a1 = true) (hp : pc + 1 = pc') (h : z_V E l (y, cc, nL, ret, hh) R mc ms Q k n G I sz pc' (a0 :: a1 :: some (.long x) :: none :: lv) st) : z_V E l (y, cc, nL, ret, hh) R mc ms Q k n G I sz pc (a0 :: a1 :: a2 :: a3 :: lv) (.long x :: st) := w_lstore_n (i := 2) hd rfl hn (by simp) (fun j o hj ho => by have e : j = 1 := (by omega); subst e; cases ho; exact hc) hp h
theorem v_lstore2 {a0 a1 a2 a3 : Option Value} {x : Int64} {pc' : Nat} (hd : decode cc pc = .ok (.lstore 2, 2)) (hn : 2 + 1 < nL) (hc : z_c1 a1 = true) (hp : pc + 2 = pc') (h : z_V E l (y, cc, nL, ret, hh) R mc ms Q k n G I sz pc' (a0 :: a1 :: some (.long x) :: none :: lv) st) : z_V E l (y, cc, nL, ret, hh) R mc ms Q k n G I sz pc (a0 :: a1 :: a2 :: a3 :: lv) (.long x :: st) := w_lstore (i := 2) hd hn (by simp) (fun j o hj ho => by have e : j = 1 := (by omega); subst e; cases ho; exact hc) hp h
theorem v_istore_n3 {a0 a1 a2 a3 : Option Value} {x : Int32} {pc' : Nat} (hd : decode cc pc = .ok (.istore_n 3, 1)) (hn : 3 < nL) (hc : z_c1 a2 = true) (hp : pc + 1 = pc') (h : z_V E l (y, cc, nL, ret, hh) R mc ms Q k n G I sz pc' (a0 :: a1 :: a2 :: some (.int x) :: lv) st) : z_V E l (y, cc, nL, ret, hh) R mc ms Q k n G I sz pc (a0 :: a1 :: a2 :: a3 :: lv) ((.int x) :: st) := w_istore_n (i := 3) hd rfl hn (by simp) (fun j o hj ho => by have e : j = 2 := (by omega); subst e; cases ho; exact hc) hp h
theorem v_istore3 {a0 a1 a2 a3 : Option Value} {x : Int32} {pc' : Nat} (hd : decode cc pc = .ok (.istore 3, 2)) (hn : 3 < nL) (hc : z_c1 a2 = true) (hp : pc + 2 = pc') (h : z_V E l (y, cc, nL, ret, hh) R mc ms Q k n G I sz pc' (a0 :: a1 :: a2 :: some (.int x) :: lv) st) : z_V E l (y, cc, nL, ret, hh) R mc ms Q k n G I sz pc (a0 :: a1 :: a2 :: a3 :: lv) ((.int x) :: st) := w_istore (i := 3) hd hn (by simp) (fun j o hj ho => by have e : j = 2 := (by omega); subst e; cases ho; exact hc) hp h
theorem v_astore_n3 {a0 a1 a2 a3 : Option Value} {x : Nat} {pc' : Nat} (hd : decode cc pc = .ok (.astore_n 3, 1)) (hn : 3 < nL) (hc : z_c1 a2 = true) (hp : pc + 1 = pc') (h : z_V E l (y, cc, nL, ret, hh) R mc ms Q k n G I sz pc' (a0 :: a1 :: a2 :: some (.ref x) :: lv) st) : z_V E l (y, cc, nL, ret, hh) R mc ms Q k n G I sz pc (a0 :: a1 :: a2 :: a3 :: lv) ((.ref x) :: st) := w_astore_n (i := 3) hd rfl hn (by simp) (fun j o hj ho => by have e : j = 2 := (by omega); subst e; cases ho; exact hc) hp h
theorem v_astore3 {a0 a1 a2 a3 : Option Value} {x : Nat} {pc' : Nat} (hd : decode cc pc = .ok (.astore 3, 2)) (hn : 3 < nL) (hc : z_c1 a2 = true) (hp : pc + 2 = pc') (h : z_V E l (y, cc, nL, ret, hh) R mc ms Q k n G I sz pc' (a0 :: a1 :: a2 :: some (.ref x) :: lv) st) : z_V E l (y, cc, nL, ret, hh) R mc ms Q k n G I sz pc (a0 :: a1 :: a2 :: a3 :: lv) ((.ref x) :: st) := w_astore (i := 3) hd hn (by simp) (fun j o hj ho => by have e : j = 2 := (by omega); subst e; cases ho; exact hc) hp h
theorem v_astoreN_n3 {a0 a1 a2 a3 : Option Value}  {pc' : Nat} (hd : decode cc pc = .ok (.astore_n 3, 1)) (hn : 3 < nL) (hc : z_c1 a2 = true) (hp : pc + 1 = pc') (h : z_V E l (y, cc, nL, ret, hh) R mc ms Q k n G I sz pc' (a0 :: a1 :: a2 :: some .null :: lv) st) : z_V E l (y, cc, nL, ret, hh) R mc ms Q k n G I sz pc (a0 :: a1 :: a2 :: a3 :: lv) (.null :: st) := w_astoreN_n (i := 3) hd rfl hn (by simp) (fun j o hj ho => by have e : j = 2 := (by omega); subst e; cases ho; exact hc) hp h
theorem v_astoreN3 {a0 a1 a2 a3 : Option Value}  {pc' : Nat} (hd : decode cc pc = .ok (.astore 3, 2)) (hn : 3 < nL) (hc : z_c1 a2 = true) (hp : pc + 2 = pc') (h : z_V E l (y, cc, nL, ret, hh) R mc ms Q k n G I sz pc' (a0 :: a1 :: a2 :: some .null :: lv) st) : z_V E l (y, cc, nL, ret, hh) R mc ms Q k n G I sz pc (a0 :: a1 :: a2 :: a3 :: lv) (.null :: st) := w_astoreN (i := 3) hd hn (by simp) (fun j o hj ho => by have e : j = 2 := (by omega); subst e; cases ho; exact hc) hp h
theorem v_iinc3 {a0 a1 a2 : Option Value} {j : Int} {x w z : Int32} {pc' : Nat} (hd : decode cc pc = .ok (.iinc 3 j, 3)) (hn : 3 < nL) (hc : z_c1 a2 = true) (hj : Int32.ofInt j = w) (hz : x + w = z) (hp : pc + 3 = pc') (h : z_V E l (y, cc, nL, ret, hh) R mc ms Q k n G I sz pc' (a0 :: a1 :: a2 :: some (.int z) :: lv) st) : z_V E l (y, cc, nL, ret, hh) R mc ms Q k n G I sz pc (a0 :: a1 :: a2 :: some (.int x) :: lv) st := w_iinc hd rfl hn (fun j o hj ho => by have e : j = 2 := (by omega); subst e; cases ho; exact hc) hp (by subst hj; subst hz; exact h)
theorem v_lstore_n3 {a0 a1 a2 a3 a4 : Option Value} {x : Int64} {pc' : Nat} (hd : decode cc pc = .ok (.lstore_n 3, 1)) (hn : 3 + 1 < nL) (hc : z_c1 a2 = true) (hp : pc + 1 = pc') (h : z_V E l (y, cc, nL, ret, hh) R mc ms Q k n G I sz pc' (a0 :: a1 :: a2 :: some (.long x) :: none :: lv) st) : z_V E l (y, cc, nL, ret, hh) R mc ms Q k n G I sz pc (a0 :: a1 :: a2 :: a3 :: a4 :: lv) (.long x :: st) := w_lstore_n (i := 3) hd rfl hn (by simp) (fun j o hj ho => by have e : j = 2 := (by omega); subst e; cases ho; exact hc) hp h
theorem v_lstore3 {a0 a1 a2 a3 a4 : Option Value} {x : Int64} {pc' : Nat} (hd : decode cc pc = .ok (.lstore 3, 2)) (hn : 3 + 1 < nL) (hc : z_c1 a2 = true) (hp : pc + 2 = pc') (h : z_V E l (y, cc, nL, ret, hh) R mc ms Q k n G I sz pc' (a0 :: a1 :: a2 :: some (.long x) :: none :: lv) st) : z_V E l (y, cc, nL, ret, hh) R mc ms Q k n G I sz pc (a0 :: a1 :: a2 :: a3 :: a4 :: lv) (.long x :: st) := w_lstore (i := 3) hd hn (by simp) (fun j o hj ho => by have e : j = 2 := (by omega); subst e; cases ho; exact hc) hp h
theorem v_istore4 {a0 a1 a2 a3 a4 : Option Value} {x : Int32} {pc' : Nat} (hd : decode cc pc = .ok (.istore 4, 2)) (hn : 4 < nL) (hc : z_c1 a3 = true) (hp : pc + 2 = pc') (h : z_V E l (y, cc, nL, ret, hh) R mc ms Q k n G I sz pc' (a0 :: a1 :: a2 :: a3 :: some (.int x) :: lv) st) : z_V E l (y, cc, nL, ret, hh) R mc ms Q k n G I sz pc (a0 :: a1 :: a2 :: a3 :: a4 :: lv) ((.int x) :: st) := w_istore (i := 4) hd hn (by simp) (fun j o hj ho => by have e : j = 3 := (by omega); subst e; cases ho; exact hc) hp h
theorem v_astore4 {a0 a1 a2 a3 a4 : Option Value} {x : Nat} {pc' : Nat} (hd : decode cc pc = .ok (.astore 4, 2)) (hn : 4 < nL) (hc : z_c1 a3 = true) (hp : pc + 2 = pc') (h : z_V E l (y, cc, nL, ret, hh) R mc ms Q k n G I sz pc' (a0 :: a1 :: a2 :: a3 :: some (.ref x) :: lv) st) : z_V E l (y, cc, nL, ret, hh) R mc ms Q k n G I sz pc (a0 :: a1 :: a2 :: a3 :: a4 :: lv) ((.ref x) :: st) := w_astore (i := 4) hd hn (by simp) (fun j o hj ho => by have e : j = 3 := (by omega); subst e; cases ho; exact hc) hp h
theorem v_astoreN4 {a0 a1 a2 a3 a4 : Option Value}  {pc' : Nat} (hd : decode cc pc = .ok (.astore 4, 2)) (hn : 4 < nL) (hc : z_c1 a3 = true) (hp : pc + 2 = pc') (h : z_V E l (y, cc, nL, ret, hh) R mc ms Q k n G I sz pc' (a0 :: a1 :: a2 :: a3 :: some .null :: lv) st) : z_V E l (y, cc, nL, ret, hh) R mc ms Q k n G I sz pc (a0 :: a1 :: a2 :: a3 :: a4 :: lv) (.null :: st) := w_astoreN (i := 4) hd hn (by simp) (fun j o hj ho => by have e : j = 3 := (by omega); subst e; cases ho; exact hc) hp h
theorem v_iinc4 {a0 a1 a2 a3 : Option Value} {j : Int} {x w z : Int32} {pc' : Nat} (hd : decode cc pc = .ok (.iinc 4 j, 3)) (hn : 4 < nL) (hc : z_c1 a3 = true) (hj : Int32.ofInt j = w) (hz : x + w = z) (hp : pc + 3 = pc') (h : z_V E l (y, cc, nL, ret, hh) R mc ms Q k n G I sz pc' (a0 :: a1 :: a2 :: a3 :: some (.int z) :: lv) st) : z_V E l (y, cc, nL, ret, hh) R mc ms Q k n G I sz pc (a0 :: a1 :: a2 :: a3 :: some (.int x) :: lv) st := w_iinc hd rfl hn (fun j o hj ho => by have e : j = 3 := (by omega); subst e; cases ho; exact hc) hp (by subst hj; subst hz; exact h)
theorem v_lstore4 {a0 a1 a2 a3 a4 a5 : Option Value} {x : Int64} {pc' : Nat} (hd : decode cc pc = .ok (.lstore 4, 2)) (hn : 4 + 1 < nL) (hc : z_c1 a3 = true) (hp : pc + 2 = pc') (h : z_V E l (y, cc, nL, ret, hh) R mc ms Q k n G I sz pc' (a0 :: a1 :: a2 :: a3 :: some (.long x) :: none :: lv) st) : z_V E l (y, cc, nL, ret, hh) R mc ms Q k n G I sz pc (a0 :: a1 :: a2 :: a3 :: a4 :: a5 :: lv) (.long x :: st) := w_lstore (i := 4) hd hn (by simp) (fun j o hj ho => by have e : j = 3 := (by omega); subst e; cases ho; exact hc) hp h
theorem v_istore5 {a0 a1 a2 a3 a4 a5 : Option Value} {x : Int32} {pc' : Nat} (hd : decode cc pc = .ok (.istore 5, 2)) (hn : 5 < nL) (hc : z_c1 a4 = true) (hp : pc + 2 = pc') (h : z_V E l (y, cc, nL, ret, hh) R mc ms Q k n G I sz pc' (a0 :: a1 :: a2 :: a3 :: a4 :: some (.int x) :: lv) st) : z_V E l (y, cc, nL, ret, hh) R mc ms Q k n G I sz pc (a0 :: a1 :: a2 :: a3 :: a4 :: a5 :: lv) ((.int x) :: st) := w_istore (i := 5) hd hn (by simp) (fun j o hj ho => by have e : j = 4 := (by omega); subst e; cases ho; exact hc) hp h
theorem v_astore5 {a0 a1 a2 a3 a4 a5 : Option Value} {x : Nat} {pc' : Nat} (hd : decode cc pc = .ok (.astore 5, 2)) (hn : 5 < nL) (hc : z_c1 a4 = true) (hp : pc + 2 = pc') (h : z_V E l (y, cc, nL, ret, hh) R mc ms Q k n G I sz pc' (a0 :: a1 :: a2 :: a3 :: a4 :: some (.ref x) :: lv) st) : z_V E l (y, cc, nL, ret, hh) R mc ms Q k n G I sz pc (a0 :: a1 :: a2 :: a3 :: a4 :: a5 :: lv) ((.ref x) :: st) := w_astore (i := 5) hd hn (by simp) (fun j o hj ho => by have e : j = 4 := (by omega); subst e; cases ho; exact hc) hp h
theorem v_astoreN5 {a0 a1 a2 a3 a4 a5 : Option Value}  {pc' : Nat} (hd : decode cc pc = .ok (.astore 5, 2)) (hn : 5 < nL) (hc : z_c1 a4 = true) (hp : pc + 2 = pc') (h : z_V E l (y, cc, nL, ret, hh) R mc ms Q k n G I sz pc' (a0 :: a1 :: a2 :: a3 :: a4 :: some .null :: lv) st) : z_V E l (y, cc, nL, ret, hh) R mc ms Q k n G I sz pc (a0 :: a1 :: a2 :: a3 :: a4 :: a5 :: lv) (.null :: st) := w_astoreN (i := 5) hd hn (by simp) (fun j o hj ho => by have e : j = 4 := (by omega); subst e; cases ho; exact hc) hp h
theorem v_iinc5 {a0 a1 a2 a3 a4 : Option Value} {j : Int} {x w z : Int32} {pc' : Nat} (hd : decode cc pc = .ok (.iinc 5 j, 3)) (hn : 5 < nL) (hc : z_c1 a4 = true) (hj : Int32.ofInt j = w) (hz : x + w = z) (hp : pc + 3 = pc') (h : z_V E l (y, cc, nL, ret, hh) R mc ms Q k n G I sz pc' (a0 :: a1 :: a2 :: a3 :: a4 :: some (.int z) :: lv) st) : z_V E l (y, cc, nL, ret, hh) R mc ms Q k n G I sz pc (a0 :: a1 :: a2 :: a3 :: a4 :: some (.int x) :: lv) st := w_iinc hd rfl hn (fun j o hj ho => by have e : j = 4 := (by omega); subst e; cases ho; exact hc) hp (by subst hj; subst hz; exact h)
theorem v_lstore5 {a0 a1 a2 a3 a4 a5 a6 : Option Value} {x : Int64} {pc' : Nat} (hd : decode cc pc = .ok (.lstore 5, 2)) (hn : 5 + 1 < nL) (hc : z_c1 a4 = true) (hp : pc + 2 = pc') (h : z_V E l (y, cc, nL, ret, hh) R mc ms Q k n G I sz pc' (a0 :: a1 :: a2 :: a3 :: a4 :: some (.long x) :: none :: lv) st) : z_V E l (y, cc, nL, ret, hh) R mc ms Q k n G I sz pc (a0 :: a1 :: a2 :: a3 :: a4 :: a5 :: a6 :: lv) (.long x :: st) := w_lstore (i := 5) hd hn (by simp) (fun j o hj ho => by have e : j = 4 := (by omega); subst e; cases ho; exact hc) hp h
theorem v_istore6 {a0 a1 a2 a3 a4 a5 a6 : Option Value} {x : Int32} {pc' : Nat} (hd : decode cc pc = .ok (.istore 6, 2)) (hn : 6 < nL) (hc : z_c1 a5 = true) (hp : pc + 2 = pc') (h : z_V E l (y, cc, nL, ret, hh) R mc ms Q k n G I sz pc' (a0 :: a1 :: a2 :: a3 :: a4 :: a5 :: some (.int x) :: lv) st) : z_V E l (y, cc, nL, ret, hh) R mc ms Q k n G I sz pc (a0 :: a1 :: a2 :: a3 :: a4 :: a5 :: a6 :: lv) ((.int x) :: st) := w_istore (i := 6) hd hn (by simp) (fun j o hj ho => by have e : j = 5 := (by omega); subst e; cases ho; exact hc) hp h
theorem v_astore6 {a0 a1 a2 a3 a4 a5 a6 : Option Value} {x : Nat} {pc' : Nat} (hd : decode cc pc = .ok (.astore 6, 2)) (hn : 6 < nL) (hc : z_c1 a5 = true) (hp : pc + 2 = pc') (h : z_V E l (y, cc, nL, ret, hh) R mc ms Q k n G I sz pc' (a0 :: a1 :: a2 :: a3 :: a4 :: a5 :: some (.ref x) :: lv) st) : z_V E l (y, cc, nL, ret, hh) R mc ms Q k n G I sz pc (a0 :: a1 :: a2 :: a3 :: a4 :: a5 :: a6 :: lv) ((.ref x) :: st) := w_astore (i := 6) hd hn (by simp) (fun j o hj ho => by have e : j = 5 := (by omega); subst e; cases ho; exact hc) hp h
theorem v_astoreN6 {a0 a1 a2 a3 a4 a5 a6 : Option Value}  {pc' : Nat} (hd : decode cc pc = .ok (.astore 6, 2)) (hn : 6 < nL) (hc : z_c1 a5 = true) (hp : pc + 2 = pc') (h : z_V E l (y, cc, nL, ret, hh) R mc ms Q k n G I sz pc' (a0 :: a1 :: a2 :: a3 :: a4 :: a5 :: some .null :: lv) st) : z_V E l (y, cc, nL, ret, hh) R mc ms Q k n G I sz pc (a0 :: a1 :: a2 :: a3 :: a4 :: a5 :: a6 :: lv) (.null :: st) := w_astoreN (i := 6) hd hn (by simp) (fun j o hj ho => by have e : j = 5 := (by omega); subst e; cases ho; exact hc) hp h
theorem v_iinc6 {a0 a1 a2 a3 a4 a5 : Option Value} {j : Int} {x w z : Int32} {pc' : Nat} (hd : decode cc pc = .ok (.iinc 6 j, 3)) (hn : 6 < nL) (hc : z_c1 a5 = true) (hj : Int32.ofInt j = w) (hz : x + w = z) (hp : pc + 3 = pc') (h : z_V E l (y, cc, nL, ret, hh) R mc ms Q k n G I sz pc' (a0 :: a1 :: a2 :: a3 :: a4 :: a5 :: some (.int z) :: lv) st) : z_V E l (y, cc, nL, ret, hh) R mc ms Q k n G I sz pc (a0 :: a1 :: a2 :: a3 :: a4 :: a5 :: some (.int x) :: lv) st := w_iinc hd rfl hn (fun j o hj ho => by have e : j = 5 := (by omega); subst e; cases ho; exact hc) hp (by subst hj; subst hz; exact h)
theorem v_lstore6 {a0 a1 a2 a3 a4 a5 a6 a7 : Option Value} {x : Int64} {pc' : Nat} (hd : decode cc pc = .ok (.lstore 6, 2)) (hn : 6 + 1 < nL) (hc : z_c1 a5 = true) (hp : pc + 2 = pc') (h : z_V E l (y, cc, nL, ret, hh) R mc ms Q k n G I sz pc' (a0 :: a1 :: a2 :: a3 :: a4 :: a5 :: some (.long x) :: none :: lv) st) : z_V E l (y, cc, nL, ret, hh) R mc ms Q k n G I sz pc (a0 :: a1 :: a2 :: a3 :: a4 :: a5 :: a6 :: a7 :: lv) (.long x :: st) := w_lstore (i := 6) hd hn (by simp) (fun j o hj ho => by have e : j = 5 := (by omega); subst e; cases ho; exact hc) hp h
theorem v_istore7 {a0 a1 a2 a3 a4 a5 a6 a7 : Option Value} {x : Int32} {pc' : Nat} (hd : decode cc pc = .ok (.istore 7, 2)) (hn : 7 < nL) (hc : z_c1 a6 = true) (hp : pc + 2 = pc') (h : z_V E l (y, cc, nL, ret, hh) R mc ms Q k n G I sz pc' (a0 :: a1 :: a2 :: a3 :: a4 :: a5 :: a6 :: some (.int x) :: lv) st) : z_V E l (y, cc, nL, ret, hh) R mc ms Q k n G I sz pc (a0 :: a1 :: a2 :: a3 :: a4 :: a5 :: a6 :: a7 :: lv) ((.int x) :: st) := w_istore (i := 7) hd hn (by simp) (fun j o hj ho => by have e : j = 6 := (by omega); subst e; cases ho; exact hc) hp h
theorem v_astore7 {a0 a1 a2 a3 a4 a5 a6 a7 : Option Value} {x : Nat} {pc' : Nat} (hd : decode cc pc = .ok (.astore 7, 2)) (hn : 7 < nL) (hc : z_c1 a6 = true) (hp : pc + 2 = pc') (h : z_V E l (y, cc, nL, ret, hh) R mc ms Q k n G I sz pc' (a0 :: a1 :: a2 :: a3 :: a4 :: a5 :: a6 :: some (.ref x) :: lv) st) : z_V E l (y, cc, nL, ret, hh) R mc ms Q k n G I sz pc (a0 :: a1 :: a2 :: a3 :: a4 :: a5 :: a6 :: a7 :: lv) ((.ref x) :: st) := w_astore (i := 7) hd hn (by simp) (fun j o hj ho => by have e : j = 6 := (by omega); subst e; cases ho; exact hc) hp h
theorem v_astoreN7 {a0 a1 a2 a3 a4 a5 a6 a7 : Option Value}  {pc' : Nat} (hd : decode cc pc = .ok (.astore 7, 2)) (hn : 7 < nL) (hc : z_c1 a6 = true) (hp : pc + 2 = pc') (h : z_V E l (y, cc, nL, ret, hh) R mc ms Q k n G I sz pc' (a0 :: a1 :: a2 :: a3 :: a4 :: a5 :: a6 :: some .null :: lv) st) : z_V E l (y, cc, nL, ret, hh) R mc ms Q k n G I sz pc (a0 :: a1 :: a2 :: a3 :: a4 :: a5 :: a6 :: a7 :: lv) (.null :: st) := w_astoreN (i := 7) hd hn (by simp) (fun j o hj ho => by have e : j = 6 := (by omega); subst e; cases ho; exact hc) hp h
theorem v_iinc7 {a0 a1 a2 a3 a4 a5 a6 : Option Value} {j : Int} {x w z : Int32} {pc' : Nat} (hd : decode cc pc = .ok (.iinc 7 j, 3)) (hn : 7 < nL) (hc : z_c1 a6 = true) (hj : Int32.ofInt j = w) (hz : x + w = z) (hp : pc + 3 = pc') (h : z_V E l (y, cc, nL, ret, hh) R mc ms Q k n G I sz pc' (a0 :: a1 :: a2 :: a3 :: a4 :: a5 :: a6 :: some (.int z) :: lv) st) : z_V E l (y, cc, nL, ret, hh) R mc ms Q k n G I sz pc (a0 :: a1 :: a2 :: a3 :: a4 :: a5 :: a6 :: some (.int x) :: lv) st := w_iinc hd rfl hn (fun j o hj ho => by have e : j = 6 := (by omega); subst e; cases ho; exact hc) hp (by subst hj; subst hz; exact h)
theorem v_lstore7 {a0 a1 a2 a3 a4 a5 a6 a7 a8 : Option Value} {x : Int64} {pc' : Nat} (hd : decode cc pc = .ok (.lstore 7, 2)) (hn : 7 + 1 < nL) (hc : z_c1 a6 = true) (hp : pc + 2 = pc') (h : z_V E l (y, cc, nL, ret, hh) R mc ms Q k n G I sz pc' (a0 :: a1 :: a2 :: a3 :: a4 :: a5 :: a6 :: some (.long x) :: none :: lv) st) : z_V E l (y, cc, nL, ret, hh) R mc ms Q k n G I sz pc (a0 :: a1 :: a2 :: a3 :: a4 :: a5 :: a6 :: a7 :: a8 :: lv) (.long x :: st) := w_lstore (i := 7) hd hn (by simp) (fun j o hj ho => by have e : j = 6 := (by omega); subst e; cases ho; exact hc) hp h
theorem v_istore8 {a0 a1 a2 a3 a4 a5 a6 a7 a8 : Option Value} {x : Int32} {pc' : Nat} (hd : decode cc pc = .ok (.istore 8, 2)) (hn : 8 < nL) (hc : z_c1 a7 = true) (hp : pc + 2 = pc') (h : z_V E l (y, cc, nL, ret, hh) R mc ms Q k n G I sz pc' (a0 :: a1 :: a2 :: a3 :: a4 :: a5 :: a6 :: a7 :: some (.int x) :: lv) st) : z_V E l (y, cc, nL, ret, hh) R mc ms Q k n G I sz pc (a0 :: a1 :: a2 :: a3 :: a4 :: a5 :: a6 :: a7 :: a8 :: lv) ((.int x) :: st) := w_istore (i := 8) hd hn (by simp) (fun j o hj ho => by have e : j = 7 := (by omega); subst e; cases ho; exact hc) hp h
theorem v_astore8 {a0 a1 a2 a3 a4 a5 a6 a7 a8 : Option Value} {x : Nat} {pc' : Nat} (hd : decode cc pc = .ok (.astore 8, 2)) (hn : 8 < nL) (hc : z_c1 a7 = true) (hp : pc + 2 = pc') (h : z_V E l (y, cc, nL, ret, hh) R mc ms Q k n G I sz pc' (a0 :: a1 :: a2 :: a3 :: a4 :: a5 :: a6 :: a7 :: some (.ref x) :: lv) st) : z_V E l (y, cc, nL, ret, hh) R mc ms Q k n G I sz pc (a0 :: a1 :: a2 :: a3 :: a4 :: a5 :: a6 :: a7 :: a8 :: lv) ((.ref x) :: st) := w_astore (i := 8) hd hn (by simp) (fun j o hj ho => by have e : j = 7 := (by omega); subst e; cases ho; exact hc) hp h
theorem v_astoreN8 {a0 a1 a2 a3 a4 a5 a6 a7 a8 : Option Value}  {pc' : Nat} (hd : decode cc pc = .ok (.astore 8, 2)) (hn : 8 < nL) (hc : z_c1 a7 = true) (hp : pc + 2 = pc') (h : z_V E l (y, cc, nL, ret, hh) R mc ms Q k n G I sz pc' (a0 :: a1 :: a2 :: a3 :: a4 :: a5 :: a6 :: a7 :: some .null :: lv) st) : z_V E l (y, cc, nL, ret, hh) R mc ms Q k n G I sz pc (a0 :: a1 :: a2 :: a3 :: a4 :: a5 :: a6 :: a7 :: a8 :: lv) (.null :: st) := w_astoreN (i := 8) hd hn (by simp) (fun j o hj ho => by have e : j = 7 := (by omega); subst e; cases ho; exact hc) hp h
theorem v_iinc8 {a0 a1 a2 a3 a4 a5 a6 a7 : Option Value} {j : Int} {x w z : Int32} {pc' : Nat} (hd : decode cc pc = .ok (.iinc 8 j, 3)) (hn : 8 < nL) (hc : z_c1 a7 = true) (hj : Int32.ofInt j = w) (hz : x + w = z) (hp : pc + 3 = pc') (h : z_V E l (y, cc, nL, ret, hh) R mc ms Q k n G I sz pc' (a0 :: a1 :: a2 :: a3 :: a4 :: a5 :: a6 :: a7 :: some (.int z) :: lv) st) : z_V E l (y, cc, nL, ret, hh) R mc ms Q k n G I sz pc (a0 :: a1 :: a2 :: a3 :: a4 :: a5 :: a6 :: a7 :: some (.int x) :: lv) st := w_iinc hd rfl hn (fun j o hj ho => by have e : j = 7 := (by omega); subst e; cases ho; exact hc) hp (by subst hj; subst hz; exact h)
theorem v_lstore8 {a0 a1 a2 a3 a4 a5 a6 a7 a8 a9 : Option Value} {x : Int64} {pc' : Nat} (hd : decode cc pc = .ok (.lstore 8, 2)) (hn : 8 + 1 < nL) (hc : z_c1 a7 = true) (hp : pc + 2 = pc') (h : z_V E l (y, cc, nL, ret, hh) R mc ms Q k n G I sz pc' (a0 :: a1 :: a2 :: a3 :: a4 :: a5 :: a6 :: a7 :: some (.long x) :: none :: lv) st) : z_V E l (y, cc, nL, ret, hh) R mc ms Q k n G I sz pc (a0 :: a1 :: a2 :: a3 :: a4 :: a5 :: a6 :: a7 :: a8 :: a9 :: lv) (.long x :: st) := w_lstore (i := 8) hd hn (by simp) (fun j o hj ho => by have e : j = 7 := (by omega); subst e; cases ho; exact hc) hp h
theorem v_istore9 {a0 a1 a2 a3 a4 a5 a6 a7 a8 a9 : Option Value} {x : Int32} {pc' : Nat} (hd : decode cc pc = .ok (.istore 9, 2)) (hn : 9 < nL) (hc : z_c1 a8 = true) (hp : pc + 2 = pc') (h : z_V E l (y, cc, nL, ret, hh) R mc ms Q k n G I sz pc' (a0 :: a1 :: a2 :: a3 :: a4 :: a5 :: a6 :: a7 :: a8 :: some (.int x) :: lv) st) : z_V E l (y, cc, nL, ret, hh) R mc ms Q k n G I sz pc (a0 :: a1 :: a2 :: a3 :: a4 :: a5 :: a6 :: a7 :: a8 :: a9 :: lv) ((.int x) :: st) := w_istore (i := 9) hd hn (by simp) (fun j o hj ho => by have e : j = 8 := (by omega); subst e; cases ho; exact hc) hp h
theorem v_astore9 {a0 a1 a2 a3 a4 a5 a6 a7 a8 a9 : Option Value} {x : Nat} {pc' : Nat} (hd : decode cc pc = .ok (.astore 9, 2)) (hn : 9 < nL) (hc : z_c1 a8 = true) (hp : pc + 2 = pc') (h : z_V E l (y, cc, nL, ret, hh) R mc ms Q k n G I sz pc' (a0 :: a1 :: a2 :: a3 :: a4 :: a5 :: a6 :: a7 :: a8 :: some (.ref x) :: lv) st) : z_V E l (y, cc, nL, ret, hh) R mc ms Q k n G I sz pc (a0 :: a1 :: a2 :: a3 :: a4 :: a5 :: a6 :: a7 :: a8 :: a9 :: lv) ((.ref x) :: st) := w_astore (i := 9) hd hn (by simp) (fun j o hj ho => by have e : j = 8 := (by omega); subst e; cases ho; exact hc) hp h
theorem v_astoreN9 {a0 a1 a2 a3 a4 a5 a6 a7 a8 a9 : Option Value}  {pc' : Nat} (hd : decode cc pc = .ok (.astore 9, 2)) (hn : 9 < nL) (hc : z_c1 a8 = true) (hp : pc + 2 = pc') (h : z_V E l (y, cc, nL, ret, hh) R mc ms Q k n G I sz pc' (a0 :: a1 :: a2 :: a3 :: a4 :: a5 :: a6 :: a7 :: a8 :: some .null :: lv) st) : z_V E l (y, cc, nL, ret, hh) R mc ms Q k n G I sz pc (a0 :: a1 :: a2 :: a3 :: a4 :: a5 :: a6 :: a7 :: a8 :: a9 :: lv) (.null :: st) := w_astoreN (i := 9) hd hn (by simp) (fun j o hj ho => by have e : j = 8 := (by omega); subst e; cases ho; exact hc) hp h
theorem v_iinc9 {a0 a1 a2 a3 a4 a5 a6 a7 a8 : Option Value} {j : Int} {x w z : Int32} {pc' : Nat} (hd : decode cc pc = .ok (.iinc 9 j, 3)) (hn : 9 < nL) (hc : z_c1 a8 = true) (hj : Int32.ofInt j = w) (hz : x + w = z) (hp : pc + 3 = pc') (h : z_V E l (y, cc, nL, ret, hh) R mc ms Q k n G I sz pc' (a0 :: a1 :: a2 :: a3 :: a4 :: a5 :: a6 :: a7 :: a8 :: some (.int z) :: lv) st) : z_V E l (y, cc, nL, ret, hh) R mc ms Q k n G I sz pc (a0 :: a1 :: a2 :: a3 :: a4 :: a5 :: a6 :: a7 :: a8 :: some (.int x) :: lv) st := w_iinc hd rfl hn (fun j o hj ho => by have e : j = 8 := (by omega); subst e; cases ho; exact hc) hp (by subst hj; subst hz; exact h)
theorem v_lstore9 {a0 a1 a2 a3 a4 a5 a6 a7 a8 a9 a10 : Option Value} {x : Int64} {pc' : Nat} (hd : decode cc pc = .ok (.lstore 9, 2)) (hn : 9 + 1 < nL) (hc : z_c1 a8 = true) (hp : pc + 2 = pc') (h : z_V E l (y, cc, nL, ret, hh) R mc ms Q k n G I sz pc' (a0 :: a1 :: a2 :: a3 :: a4 :: a5 :: a6 :: a7 :: a8 :: some (.long x) :: none :: lv) st) : z_V E l (y, cc, nL, ret, hh) R mc ms Q k n G I sz pc (a0 :: a1 :: a2 :: a3 :: a4 :: a5 :: a6 :: a7 :: a8 :: a9 :: a10 :: lv) (.long x :: st) := w_lstore (i := 9) hd hn (by simp) (fun j o hj ho => by have e : j = 8 := (by omega); subst e; cases ho; exact hc) hp h
theorem v_iadd {x y0 : Int32} {pc' : Nat} (hd : decode cc pc = .ok (.iadd, 1))  (hp : pc + 1 = pc') (h : z_V E l (y, cc, nL, ret, hh) R mc ms Q k n G I sz pc' lv (.int (x + y0) :: st)) : z_V E l (y, cc, nL, ret, hh) R mc ms Q k n G I sz pc lv (.int y0 :: .int x :: st) := by
  subst hp
  exact fun p e s m args below meth c C H locs ls hW hS hL => lv_iadd C.1 C.2.1 hd  (h p e s m args below meth c C H locs ls hW hS hL)
theorem v_isub {x y0 : Int32} {pc' : Nat} (hd : decode cc pc = .ok (.isub, 1))  (hp : pc + 1 = pc') (h : z_V E l (y, cc, nL, ret, hh) R mc ms Q k n G I sz pc' lv (.int (x - y0) :: st)) : z_V E l (y, cc, nL, ret, hh) R mc ms Q k n G I sz pc lv (.int y0 :: .int x :: st) := by
  subst hp
  exact fun p e s m args below meth c C H locs ls hW hS hL => lv_isub C.1 C.2.1 hd  (h p e s m args below meth c C H locs ls hW hS hL)
theorem v_imul {x y0 : Int32} {pc' : Nat} (hd : decode cc pc = .ok (.imul, 1))  (hp : pc + 1 = pc') (h : z_V E l (y, cc, nL, ret, hh) R mc ms Q k n G I sz pc' lv (.int (x * y0) :: st)) : z_V E l (y, cc, nL, ret, hh) R mc ms Q k n G I sz pc lv (.int y0 :: .int x :: st) := by
  subst hp
  exact fun p e s m args below meth c C H locs ls hW hS hL => lv_imul C.1 C.2.1 hd  (h p e s m args below meth c C H locs ls hW hS hL)
theorem v_iand {x y0 : Int32} {pc' : Nat} (hd : decode cc pc = .ok (.iand, 1))  (hp : pc + 1 = pc') (h : z_V E l (y, cc, nL, ret, hh) R mc ms Q k n G I sz pc' lv (.int (x &&& y0) :: st)) : z_V E l (y, cc, nL, ret, hh) R mc ms Q k n G I sz pc lv (.int y0 :: .int x :: st) := by
  subst hp
  exact fun p e s m args below meth c C H locs ls hW hS hL => lv_iand C.1 C.2.1 hd  (h p e s m args below meth c C H locs ls hW hS hL)
theorem v_ior {x y0 : Int32} {pc' : Nat} (hd : decode cc pc = .ok (.ior, 1))  (hp : pc + 1 = pc') (h : z_V E l (y, cc, nL, ret, hh) R mc ms Q k n G I sz pc' lv (.int (x ||| y0) :: st)) : z_V E l (y, cc, nL, ret, hh) R mc ms Q k n G I sz pc lv (.int y0 :: .int x :: st) := by
  subst hp
  exact fun p e s m args below meth c C H locs ls hW hS hL => lv_ior C.1 C.2.1 hd  (h p e s m args below meth c C H locs ls hW hS hL)
theorem v_ladd {x y0 : Int64} {pc' : Nat} (hd : decode cc pc = .ok (.ladd, 1))  (hp : pc + 1 = pc') (h : z_V E l (y, cc, nL, ret, hh) R mc ms Q k n G I sz pc' lv (.long (x + y0) :: st)) : z_V E l (y, cc, nL, ret, hh) R mc ms Q k n G I sz pc lv (.long y0 :: .long x :: st) := by
  subst hp
  exact fun p e s m args below meth c C H locs ls hW hS hL => lv_ladd C.1 C.2.1 hd  (h p e s m args below meth c C H locs ls hW hS hL)
theorem v_lsub {x y0 : Int64} {pc' : Nat} (hd : decode cc pc = .ok (.lsub, 1))  (hp : pc + 1 = pc') (h : z_V E l (y, cc, nL, ret, hh) R mc ms Q k n G I sz pc' lv (.long (x - y0) :: st)) : z_V E l (y, cc, nL, ret, hh) R mc ms Q k n G I sz pc lv (.long y0 :: .long x :: st) := by
  subst hp
  exact fun p e s m args below meth c C H locs ls hW hS hL => lv_lsub C.1 C.2.1 hd  (h p e s m args below meth c C H locs ls hW hS hL)
theorem v_lmul {x y0 : Int64} {pc' : Nat} (hd : decode cc pc = .ok (.lmul, 1))  (hp : pc + 1 = pc') (h : z_V E l (y, cc, nL, ret, hh) R mc ms Q k n G I sz pc' lv (.long (x * y0) :: st)) : z_V E l (y, cc, nL, ret, hh) R mc ms Q k n G I sz pc lv (.long y0 :: .long x :: st) := by
  subst hp
  exact fun p e s m args below meth c C H locs ls hW hS hL => lv_lmul C.1 C.2.1 hd  (h p e s m args below meth c C H locs ls hW hS hL)
theorem v_land {x y0 : Int64} {pc' : Nat} (hd : decode cc pc = .ok (.land, 1))  (hp : pc + 1 = pc') (h : z_V E l (y, cc, nL, ret, hh) R mc ms Q k n G I sz pc' lv (.long (x &&& y0) :: st)) : z_V E l (y, cc, nL, ret, hh) R mc ms Q k n G I sz pc lv (.long y0 :: .long x :: st) := by
  subst hp
  exact fun p e s m args below meth c C H locs ls hW hS hL => lv_land C.1 C.2.1 hd  (h p e s m args below meth c C H locs ls hW hS hL)
theorem v_lor {x y0 : Int64} {pc' : Nat} (hd : decode cc pc = .ok (.lor, 1))  (hp : pc + 1 = pc') (h : z_V E l (y, cc, nL, ret, hh) R mc ms Q k n G I sz pc' lv (.long (x ||| y0) :: st)) : z_V E l (y, cc, nL, ret, hh) R mc ms Q k n G I sz pc lv (.long y0 :: .long x :: st) := by
  subst hp
  exact fun p e s m args below meth c C H locs ls hW hS hL => lv_lor C.1 C.2.1 hd  (h p e s m args below meth c C H locs ls hW hS hL)
theorem v_idiv {x y0 : Int32} {pc' : Nat} (hd : decode cc pc = .ok (.idiv, 1)) (hne : ¬ y0 = 0) (hp : pc + 1 = pc') (h : z_V E l (y, cc, nL, ret, hh) R mc ms Q k n G I sz pc' lv (.int (x / y0) :: st)) : z_V E l (y, cc, nL, ret, hh) R mc ms Q k n G I sz pc lv (.int y0 :: .int x :: st) := by
  subst hp
  exact fun p e s m args below meth c C H locs ls hW hS hL => lv_idiv C.1 C.2.1 hd hne (h p e s m args below meth c C H locs ls hW hS hL)
theorem v_irem {x y0 : Int32} {pc' : Nat} (hd : decode cc pc = .ok (.irem, 1)) (hne : ¬ y0 = 0) (hp : pc + 1 = pc') (h : z_V E l (y, cc, nL, ret, hh) R mc ms Q k n G I sz pc' lv (.int (x - x / y0 * y0) :: st)) : z_V E l (y, cc, nL, ret, hh) R mc ms Q k n G I sz pc lv (.int y0 :: .int x :: st) := by
  subst hp
  exact fun p e s m args below meth c C H locs ls hW hS hL => lv_irem C.1 C.2.1 hd hne (h p e s m args below meth c C H locs ls hW hS hL)
theorem v_ldiv {x y0 : Int64} {pc' : Nat} (hd : decode cc pc = .ok (.ldiv, 1)) (hne : ¬ y0 = 0) (hp : pc + 1 = pc') (h : z_V E l (y, cc, nL, ret, hh) R mc ms Q k n G I sz pc' lv (.long (x / y0) :: st)) : z_V E l (y, cc, nL, ret, hh) R mc ms Q k n G I sz pc lv (.long y0 :: .long x :: st) := by
  subst hp
  exact fun p e s m args below meth c C H locs ls hW hS hL => lv_ldiv C.1 C.2.1 hd hne (h p e s m args below meth c C H locs ls hW hS hL)
theorem v_lrem {x y0 : Int64} {pc' : Nat} (hd : decode cc pc = .ok (.lrem, 1)) (hne : ¬ y0 = 0) (hp : pc + 1 = pc') (h : z_V E l (y, cc, nL, ret, hh) R mc ms Q k n G I sz pc' lv (.long (x - x / y0 * y0) :: st)) : z_V E l (y, cc, nL, ret, hh) R mc ms Q k n G I sz pc lv (.long y0 :: .long x :: st) := by
  subst hp
  exact fun p e s m args below meth c C H locs ls hW hS hL => lv_lrem C.1 C.2.1 hd hne (h p e s m args below meth c C H locs ls hW hS hL)
theorem v_ineg {x : Int32} {pc' : Nat} (hd : decode cc pc = .ok (.ineg, 1))  (hp : pc + 1 = pc') (h : z_V E l (y, cc, nL, ret, hh) R mc ms Q k n G I sz pc' lv (.int (-x) :: st)) : z_V E l (y, cc, nL, ret, hh) R mc ms Q k n G I sz pc lv (.int x :: st) := by
  subst hp
  exact fun p e s m args below meth c C H locs ls hW hS hL => lv_ineg C.1 C.2.1 hd  (h p e s m args below meth c C H locs ls hW hS hL)
theorem v_i2l {x : Int32} {pc' : Nat} (hd : decode cc pc = .ok (.i2l, 1))  (hp : pc + 1 = pc') (h : z_V E l (y, cc, nL, ret, hh) R mc ms Q k n G I sz pc' lv (.long x.toInt64 :: st)) : z_V E l (y, cc, nL, ret, hh) R mc ms Q k n G I sz pc lv (.int x :: st) := by
  subst hp
  exact fun p e s m args below meth c C H locs ls hW hS hL => lv_i2l C.1 C.2.1 hd rfl (h p e s m args below meth c C H locs ls hW hS hL)
theorem v_l2i {x : Int64} {pc' : Nat} (hd : decode cc pc = .ok (.l2i, 1))  (hp : pc + 1 = pc') (h : z_V E l (y, cc, nL, ret, hh) R mc ms Q k n G I sz pc' lv (.int x.toInt32 :: st)) : z_V E l (y, cc, nL, ret, hh) R mc ms Q k n G I sz pc lv (.long x :: st) := by
  subst hp
  exact fun p e s m args below meth c C H locs ls hW hS hL => lv_l2i C.1 C.2.1 hd rfl (h p e s m args below meth c C H locs ls hW hS hL)
theorem v_i2c {x : Int32} {pc' : Nat} (hd : decode cc pc = .ok (.i2c, 1))  (hp : pc + 1 = pc') (h : z_V E l (y, cc, nL, ret, hh) R mc ms Q k n G I sz pc' lv (.int (x.toUInt32 % 65536).toInt32 :: st)) : z_V E l (y, cc, nL, ret, hh) R mc ms Q k n G I sz pc lv (.int x :: st) := by
  subst hp
  exact fun p e s m args below meth c C H locs ls hW hS hL => lv_i2c C.1 C.2.1 hd rfl (h p e s m args below meth c C H locs ls hW hS hL)
theorem v_lushr {x : Int64} {y0 : Int32} {pc' : Nat} (hd : decode cc pc = .ok (.lushr, 1))  (hp : pc + 1 = pc') (h : z_V E l (y, cc, nL, ret, hh) R mc ms Q k n G I sz pc' lv (.long (x.toUInt64 >>> (y0.toInt64.toUInt64 &&& Int64.toUInt64 63)).toInt64 :: st)) : z_V E l (y, cc, nL, ret, hh) R mc ms Q k n G I sz pc lv (.int y0 :: .long x :: st) := by
  subst hp
  exact fun p e s m args below meth c C H locs ls hW hS hL => lv_lushr C.1 C.2.1 hd rfl (h p e s m args below meth c C H locs ls hW hS hL)
theorem v_lshl {x : Int64} {y0 : Int32} {pc' : Nat} (hd : decode cc pc = .ok (.lshl, 1))  (hp : pc + 1 = pc') (h : z_V E l (y, cc, nL, ret, hh) R mc ms Q k n G I sz pc' lv (.long (x <<< (y0.toInt64 &&& 63)) :: st)) : z_V E l (y, cc, nL, ret, hh) R mc ms Q k n G I sz pc lv (.int y0 :: .long x :: st) := by
  subst hp
  exact fun p e s m args below meth c C H locs ls hW hS hL => lv_lshl C.1 C.2.1 hd rfl (h p e s m args below meth c C H locs ls hW hS hL)
theorem v_dup {v : Value} {pc' : Nat} (hd : decode cc pc = .ok (.dup, 1)) (hv : v.category = 1) (hp : pc + 1 = pc') (h : z_V E l (y, cc, nL, ret, hh) R mc ms Q k n G I sz pc' lv (v :: v :: st)) : z_V E l (y, cc, nL, ret, hh) R mc ms Q k n G I sz pc lv (v :: st) := by
  subst hp
  exact fun p e s m args below meth c C H locs ls hW hS hL => lv_dup C.1 C.2.1 hd hv (h p e s m args below meth c C H locs ls hW hS hL)
theorem v_pop {v : Value} {pc' : Nat} (hd : decode cc pc = .ok (.pop, 1)) (hv : v.category = 1) (hp : pc + 1 = pc') (h : z_V E l (y, cc, nL, ret, hh) R mc ms Q k n G I sz pc' lv (st)) : z_V E l (y, cc, nL, ret, hh) R mc ms Q k n G I sz pc lv (v :: st) := by
  subst hp
  exact fun p e s m args below meth c C H locs ls hW hS hL => lv_pop C.1 C.2.1 hd hv (h p e s m args below meth c C H locs ls hW hS hL)
theorem v_dup2 {v w : Value} {pc' : Nat} (hd : decode cc pc = .ok (.dup2, 1)) (hv : v.category = 1) (hw : w.category = 1) (hp : pc + 1 = pc') (h : z_V E l (y, cc, nL, ret, hh) R mc ms Q k n G I sz pc' lv (v :: w :: v :: w :: st)) : z_V E l (y, cc, nL, ret, hh) R mc ms Q k n G I sz pc lv (v :: w :: st) := by
  subst hp
  exact fun p e s m args below meth c C H locs ls hW hS hL => lv_dup2_11 C.1 C.2.1 hd hv hw (h p e s m args below meth c C H locs ls hW hS hL)
theorem v_ishl {x y0 : Int32} {pc' : Nat} (hd : decode cc pc = .ok (.ishl, 1))  (hp : pc + 1 = pc') (h : z_V E l (y, cc, nL, ret, hh) R mc ms Q k n G I sz pc' lv (.int (x <<< (y0 &&& 31)) :: st)) : z_V E l (y, cc, nL, ret, hh) R mc ms Q k n G I sz pc lv (.int y0 :: .int x :: st) := by
  subst hp
  exact fun p e s m args below meth c C H locs ls hW hS hL => lv_ishl C.1 C.2.1 hd  (h p e s m args below meth c C H locs ls hW hS hL)
theorem v_ishr {x y0 : Int32} {pc' : Nat} (hd : decode cc pc = .ok (.ishr, 1))  (hp : pc + 1 = pc') (h : z_V E l (y, cc, nL, ret, hh) R mc ms Q k n G I sz pc' lv (.int (x >>> (y0 &&& 31)) :: st)) : z_V E l (y, cc, nL, ret, hh) R mc ms Q k n G I sz pc lv (.int y0 :: .int x :: st) := by
  subst hp
  exact fun p e s m args below meth c C H locs ls hW hS hL => lv_ishr C.1 C.2.1 hd  (h p e s m args below meth c C H locs ls hW hS hL)
theorem v_lcmp {x y0 : Int64} {pc' : Nat} (hd : decode cc pc = .ok (.lcmp, 1))  (hp : pc + 1 = pc') (h : z_V E l (y, cc, nL, ret, hh) R mc ms Q k n G I sz pc' lv (.int (lg_cmp x y0) :: st)) : z_V E l (y, cc, nL, ret, hh) R mc ms Q k n G I sz pc lv (.long y0 :: .long x :: st) := by
  subst hp
  exact fun p e s m args below meth c C H locs ls hW hS hL => W.lcmp C.1 C.2.1 hd  (h p e s m args below meth c C H locs ls hW hS hL)
theorem v_if_eq {x : Int32} {off : Int} {tgt : Nat} {pc' : Nat} (hd : decode cc pc = .ok (.ifCond .eq off, 3)) (ht : (pc : Int) + off = (tgt : Int)) (hp : pc + 3 = pc') (kt : x = 0 → z_V E l (y, cc, nL, ret, hh) R mc ms Q k n G I sz tgt lv st) (kf : ¬ x = 0 → z_V E l (y, cc, nL, ret, hh) R mc ms Q k n G I sz pc' lv st) : z_V E l (y, cc, nL, ret, hh) R mc ms Q k n G I sz pc lv (.int x :: st) := by
  subst hp
  exact fun p e s m args below meth c C H locs ls hW hS hL => lv_if_eq C.1 C.2.1 hd ht (fun q => kt q p e s m args below meth c C H locs ls hW hS hL) (fun q => kf q p e s m args below meth c C H locs ls hW hS hL)
theorem v_icmp_eq {x y0 : Int32} {off : Int} {tgt : Nat} {pc' : Nat} (hd : decode cc pc = .ok (.if_icmp .eq off, 3)) (ht : (pc : Int) + off = (tgt : Int)) (hp : pc + 3 = pc') (kt : x = y0 → z_V E l (y, cc, nL, ret, hh) R mc ms Q k n G I sz tgt lv st) (kf : ¬ x = y0 → z_V E l (y, cc, nL, ret, hh) R mc ms Q k n G I sz pc' lv st) : z_V E l (y, cc, nL, ret, hh) R mc ms Q k n G I sz pc lv (.int y0 :: .int x :: st) := by
  subst hp
  exact fun p e s m args below meth c C H locs ls hW hS hL => lv_icmp_eq C.1 C.2.1 hd ht (fun q => kt q p e s m args below meth c C H locs ls hW hS hL) (fun q => kf q p e s m args below meth c C H locs ls hW hS hL)
theorem v_if_ne {x : Int32} {off : Int} {tgt : Nat} {pc' : Nat} (hd : decode cc pc = .ok (.ifCond .ne off, 3)) (ht : (pc : Int) + off = (tgt : Int)) (hp : pc + 3 = pc') (kt : ¬ x = 0 → z_V E l (y, cc, nL, ret, hh) R mc ms Q k n G I sz tgt lv st) (kf : x = 0 → z_V E l (y, cc, nL, ret, hh) R mc ms Q k n G I sz pc' lv st) : z_V E l (y, cc, nL, ret, hh) R mc ms Q k n G I sz pc lv (.int x :: st) := by
  subst hp
  exact fun p e s m args below meth c C H locs ls hW hS hL => lv_if_ne C.1 C.2.1 hd ht (fun q => kt q p e s m args below meth c C H locs ls hW hS hL) (fun q => kf q p e s m args below meth c C H locs ls hW hS hL)
theorem v_icmp_ne {x y0 : Int32} {off : Int} {tgt : Nat} {pc' : Nat} (hd : decode cc pc = .ok (.if_icmp .ne off, 3)) (ht : (pc : Int) + off = (tgt : Int)) (hp : pc + 3 = pc') (kt : ¬ x = y0 → z_V E l (y, cc, nL, ret, hh) R mc ms Q k n G I sz tgt lv st) (kf : x = y0 → z_V E l (y, cc, nL, ret, hh) R mc ms Q k n G I sz pc' lv st) : z_V E l (y, cc, nL, ret, hh) R mc ms Q k n G I sz pc lv (.int y0 :: .int x :: st) := by
  subst hp
  exact fun p e s m args below meth c C H locs ls hW hS hL => lv_icmp_ne C.1 C.2.1 hd ht (fun q => kt q p e s m args below meth c C H locs ls hW hS hL) (fun q => kf q p e s m args below meth c C H locs ls hW hS hL)
theorem v_if_lt {x : Int32} {off : Int} {tgt : Nat} {pc' : Nat} (hd : decode cc pc = .ok (.ifCond .lt off, 3)) (ht : (pc : Int) + off = (tgt : Int)) (hp : pc + 3 = pc') (kt : x < 0 → z_V E l (y, cc, nL, ret, hh) R mc ms Q k n G I sz tgt lv st) (kf : ¬ x < 0 → z_V E l (y, cc, nL, ret, hh) R mc ms Q k n G I sz pc' lv st) : z_V E l (y, cc, nL, ret, hh) R mc ms Q k n G I sz pc lv (.int x :: st) := by
  subst hp
  exact fun p e s m args below meth c C H locs ls hW hS hL => lv_if_lt C.1 C.2.1 hd ht (fun q => kt q p e s m args below meth c C H locs ls hW hS hL) (fun q => kf q p e s m args below meth c C H locs ls hW hS hL)
theorem v_icmp_lt {x y0 : Int32} {off : Int} {tgt : Nat} {pc' : Nat} (hd : decode cc pc = .ok (.if_icmp .lt off, 3)) (ht : (pc : Int) + off = (tgt : Int)) (hp : pc + 3 = pc') (kt : x < y0 → z_V E l (y, cc, nL, ret, hh) R mc ms Q k n G I sz tgt lv st) (kf : ¬ x < y0 → z_V E l (y, cc, nL, ret, hh) R mc ms Q k n G I sz pc' lv st) : z_V E l (y, cc, nL, ret, hh) R mc ms Q k n G I sz pc lv (.int y0 :: .int x :: st) := by
  subst hp
  exact fun p e s m args below meth c C H locs ls hW hS hL => lv_icmp_lt C.1 C.2.1 hd ht (fun q => kt q p e s m args below meth c C H locs ls hW hS hL) (fun q => kf q p e s m args below meth c C H locs ls hW hS hL)
theorem v_if_ge {x : Int32} {off : Int} {tgt : Nat} {pc' : Nat} (hd : decode cc pc = .ok (.ifCond .ge off, 3)) (ht : (pc : Int) + off = (tgt : Int)) (hp : pc + 3 = pc') (kt : 0 ≤ x → z_V E l (y, cc, nL, ret, hh) R mc ms Q k n G I sz tgt lv st) (kf : ¬ 0 ≤ x → z_V E l (y, cc, nL, ret, hh) R mc ms Q k n G I sz pc' lv st) : z_V E l (y, cc, nL, ret, hh) R mc ms Q k n G I sz pc lv (.int x :: st) := by
  subst hp
  exact fun p e s m args below meth c C H locs ls hW hS hL => lv_if_ge C.1 C.2.1 hd ht (fun q => kt q p e s m args below meth c C H locs ls hW hS hL) (fun q => kf q p e s m args below meth c C H locs ls hW hS hL)
theorem v_icmp_ge {x y0 : Int32} {off : Int} {tgt : Nat} {pc' : Nat} (hd : decode cc pc = .ok (.if_icmp .ge off, 3)) (ht : (pc : Int) + off = (tgt : Int)) (hp : pc + 3 = pc') (kt : y0 ≤ x → z_V E l (y, cc, nL, ret, hh) R mc ms Q k n G I sz tgt lv st) (kf : ¬ y0 ≤ x → z_V E l (y, cc, nL, ret, hh) R mc ms Q k n G I sz pc' lv st) : z_V E l (y, cc, nL, ret, hh) R mc ms Q k n G I sz pc lv (.int y0 :: .int x :: st) := by
  subst hp
  exact fun p e s m args below meth c C H locs ls hW hS hL => lv_icmp_ge C.1 C.2.1 hd ht (fun q => kt q p e s m args below meth c C H locs ls hW hS hL) (fun q => kf q p e s m args below meth c C H locs ls hW hS hL)
theorem v_if_gt {x : Int32} {off : Int} {tgt : Nat} {pc' : Nat} (hd : decode cc pc = .ok (.ifCond .gt off, 3)) (ht : (pc : Int) + off = (tgt : Int)) (hp : pc + 3 = pc') (kt : 0 < x → z_V E l (y, cc, nL, ret, hh) R mc ms Q k n G I sz tgt lv st) (kf : ¬ 0 < x → z_V E l (y, cc, nL, ret, hh) R mc ms Q k n G I sz pc' lv st) : z_V E l (y, cc, nL, ret, hh) R mc ms Q k n G I sz pc lv (.int x :: st) := by
  subst hp
  exact fun p e s m args below meth c C H locs ls hW hS hL => lv_if_gt C.1 C.2.1 hd ht (fun q => kt q p e s m args below meth c C H locs ls hW hS hL) (fun q => kf q p e s m args below meth c C H locs ls hW hS hL)
theorem v_icmp_gt {x y0 : Int32} {off : Int} {tgt : Nat} {pc' : Nat} (hd : decode cc pc = .ok (.if_icmp .gt off, 3)) (ht : (pc : Int) + off = (tgt : Int)) (hp : pc + 3 = pc') (kt : y0 < x → z_V E l (y, cc, nL, ret, hh) R mc ms Q k n G I sz tgt lv st) (kf : ¬ y0 < x → z_V E l (y, cc, nL, ret, hh) R mc ms Q k n G I sz pc' lv st) : z_V E l (y, cc, nL, ret, hh) R mc ms Q k n G I sz pc lv (.int y0 :: .int x :: st) := by
  subst hp
  exact fun p e s m args below meth c C H locs ls hW hS hL => lv_icmp_gt C.1 C.2.1 hd ht (fun q => kt q p e s m args below meth c C H locs ls hW hS hL) (fun q => kf q p e s m args below meth c C H locs ls hW hS hL)
theorem v_if_le {x : Int32} {off : Int} {tgt : Nat} {pc' : Nat} (hd : decode cc pc = .ok (.ifCond .le off, 3)) (ht : (pc : Int) + off = (tgt : Int)) (hp : pc + 3 = pc') (kt : x ≤ 0 → z_V E l (y, cc, nL, ret, hh) R mc ms Q k n G I sz tgt lv st) (kf : ¬ x ≤ 0 → z_V E l (y, cc, nL, ret, hh) R mc ms Q k n G I sz pc' lv st) : z_V E l (y, cc, nL, ret, hh) R mc ms Q k n G I sz pc lv (.int x :: st) := by
  subst hp
  exact fun p e s m args below meth c C H locs ls hW hS hL => lv_if_le C.1 C.2.1 hd ht (fun q => kt q p e s m args below meth c C H locs ls hW hS hL) (fun q => kf q p e s m args below meth c C H locs ls hW hS hL)
theorem v_icmp_le {x y0 : Int32} {off : Int} {tgt : Nat} {pc' : Nat} (hd : decode cc pc = .ok (.if_icmp .le off, 3)) (ht : (pc : Int) + off = (tgt : Int)) (hp : pc + 3 = pc') (kt : x ≤ y0 → z_V E l (y, cc, nL, ret, hh) R mc ms Q k n G I sz tgt lv st) (kf : ¬ x ≤ y0 → z_V E l (y, cc, nL, ret, hh) R mc ms Q k n G I sz pc' lv st) : z_V E l (y, cc, nL, ret, hh) R mc ms Q k n G I sz pc lv (.int y0 :: .int x :: st) := by
  subst hp
  exact fun p e s m args below meth c C H locs ls hW hS hL => lv_icmp_le C.1 C.2.1 hd ht (fun q => kt q p e s m args below meth c C H locs ls hW hS hL) (fun q => kf q p e s m args below meth c C H locs ls hW hS hL)
theorem v_goto {off : Int} {tgt : Nat} (hd : decode cc pc = .ok (.goto off, 3)) (ht : (pc : Int) + off = (tgt : Int)) (h : z_V E l (y, cc, nL, ret, hh) R mc ms Q k n G I sz tgt lv st) : z_V E l (y, cc, nL, ret, hh) R mc ms Q k n G I sz pc lv st := fun p e s m args below meth c C H locs ls hW hS hL => lv_goto C.1 C.2.1 hd ht (h p e s m args below meth c C H locs ls hW hS hL)
theorem v_ifnull {x : Nat} {off : Int} {pc' : Nat} (hd : decode cc pc = .ok (.ifnull off, 3)) (hp : pc + 3 = pc') (h : z_V E l (y, cc, nL, ret, hh) R mc ms Q k n G I sz pc' lv st) : z_V E l (y, cc, nL, ret, hh) R mc ms Q k n G I sz pc lv (.ref x :: st) := by
  subst hp
  exact fun p e s m args below meth c C H locs ls hW hS hL => lv_ifnull C.1 C.2.1 hd (h p e s m args below meth c C H locs ls hW hS hL)
theorem v_ifnullN {off : Int} {tgt : Nat} (hd : decode cc pc = .ok (.ifnull off, 3)) (ht : (pc : Int) + off = (tgt : Int)) (h : z_V E l (y, cc, nL, ret, hh) R mc ms Q k n G I sz tgt lv st) : z_V E l (y, cc, nL, ret, hh) R mc ms Q k n G I sz pc lv (.null :: st) := fun p e s m args below meth c C H locs ls hW hS hL => lv_ifnullN C.1 C.2.1 hd ht (h p e s m args below meth c C H locs ls hW hS hL)
theorem v_ifnonnull {x : Nat} {off : Int} {tgt : Nat} (hd : decode cc pc = .ok (.ifnonnull off, 3)) (ht : (pc : Int) + off = (tgt : Int)) (h : z_V E l (y, cc, nL, ret, hh) R mc ms Q k n G I sz tgt lv st) : z_V E l (y, cc, nL, ret, hh) R mc ms Q k n G I sz pc lv (.ref x :: st) := fun p e s m args below meth c C H locs ls hW hS hL => lv_ifnonnull C.1 C.2.1 hd ht (h p e s m args below meth c C H locs ls hW hS hL)
theorem v_ifnonnullN {off : Int} {pc' : Nat} (hd : decode cc pc = .ok (.ifnonnull off, 3)) (hp : pc + 3 = pc') (h : z_V E l (y, cc, nL, ret, hh) R mc ms Q k n G I sz pc' lv st) : z_V E l (y, cc, nL, ret, hh) R mc ms Q k n G I sz pc lv (.null :: st) := by
  subst hp
  exact fun p e s m args below meth c C H locs ls hW hS hL => lv_ifnonnullN C.1 C.2.1 hd (h p e s m args below meth c C H locs ls hW hS hL)
theorem v_tableOut {dflt lo hi : Int} {offs : Array Int} {len : Nat} {x : Int32} {tgt : Nat} (hd : decode cc pc = .ok (.tableswitch dflt lo hi offs, len)) (hx : x.toInt < lo ∨ hi < x.toInt) (ht : (pc : Int) + dflt = (tgt : Int)) (h : z_V E l (y, cc, nL, ret, hh) R mc ms Q k n G I sz tgt lv st) : z_V E l (y, cc, nL, ret, hh) R mc ms Q k n G I sz pc lv (.int x :: st) := fun p e s m args below meth c C H locs ls hW hS hL => lv_tableOut C.1 C.2.1 hd hx ht (h p e s m args below meth c C H locs ls hW hS hL)
theorem v_tableIn {dflt lo hi : Int} {offs : Array Int} {len : Nat} {x : Int32} {off : Int} {tgt : Nat} (j : Nat) (hd : decode cc pc = .ok (.tableswitch dflt lo hi offs, len)) (hx : x.toInt = lo + j) (hh9 : lo + j ≤ hi) (ho : offs[j]? = some off) (ht : (pc : Int) + off = (tgt : Int)) (h : z_V E l (y, cc, nL, ret, hh) R mc ms Q k n G I sz tgt lv st) : z_V E l (y, cc, nL, ret, hh) R mc ms Q k n G I sz pc lv (.int x :: st) := fun p e s m args below meth c C H locs ls hW hS hL => lv_tableIn C.1 C.2.1 hd (by omega) (by omega) (by rw [show (x.toInt - lo).toNat = j by omega]; exact ho) ht (h p e s m args below meth c C H locs ls hW hS hL)
theorem v_lookup {dflt : Int} {ps : Array (Int × Int)} {len : Nat} {x : Int32} {off : Int} {tgt : Nat} (hd : decode cc pc = .ok (.lookupswitch dflt ps, len)) (hs : (ps.toList.zip (ps.toList.drop 1)).all (fun (a, next) => a.1 < next.1) = true) (ho : Op.lookupswitch.offset ps.toList dflt x.toInt = off) (ht : (pc : Int) + off = (tgt : Int)) (h : z_V E l (y, cc, nL, ret, hh) R mc ms Q k n G I sz tgt lv st) : z_V E l (y, cc, nL, ret, hh) R mc ms Q k n G I sz pc lv (.int x :: st) := fun p e s m args below meth c C H locs ls hW hS hL => lv_lookup C.1 C.2.1 hd hs ho ht (h p e s m args below meth c C H locs ls hW hS hL)
end ZROWS
end
section
/-! THE ROWS of the judgement that touch the heap; a method's contract; calls -/
theorem z_keys {a : Nat} {f g : (Nat → Int32) → va_E} : ∀ {G : zG}, (G.map Prod.fst).Nodup → (a, f) ∈ G → (a, g) ∈ G → f = g
  | [], _, h, _ => by cases h
  | x :: r, hn, h1, h2 => by
    rw [List.map_cons, List.nodup_cons] at hn
    rcases List.mem_cons.mp h1 with e1 | e1 <;> rcases List.mem_cons.mp h2 with e2 | e2
    · have := e1.trans e2.symm
      cases this
      rfl
    · exact absurd (List.mem_map.mpr ⟨_, e2, by rw [← e1]⟩) hn.1
    · exact absurd (List.mem_map.mpr ⟨_, e1, by rw [← e2]⟩) hn.1
    · exact z_keys hn.2 e1 e2
/-- one number of the memory changed -/
def z_up (I : zI) (a k : Nat) (x : Int32) : zI := fun q => if q = a then upd (I a) k x else I q
theorem z_up_at (I : zI) (a k : Nat) (x : Int32) : z_up I a k x a = upd (I a) k x := by simp [z_up]
theorem z_up_ne (I : zI) (a k : Nat) (x : Int32) {q : Nat} (h : q ≠ a) : z_up I a k x q = I q := by simp [z_up, h]
/-- a new cell's numbers -/
def z_ne (I : zI) (a : Nat) : zI := fun q => if q = a then fun _ => 0 else I q
theorem z_ne_at (I : zI) (a : Nat) : z_ne I a a = fun _ => 0 := by simp [z_ne]
theorem z_ne_ne (I : zI) (a : Nat) {q : Nat} (h : q ≠ a) : z_ne I a q = I q := by simp [z_ne, h]
theorem z_W.put {E : zE} {G : zG} {I I' : zI} {sz : Nat} {H H1 : Heap} {a : Nat} {f : (Nat → Int32) → va_E} (hW : z_W E G I sz H) (hx : (a, f) ∈ G) (hat : va_at E.1 vwCl (a, f (I' a)) H1) (hI : ∀ q, q ≠ a → I' q = I q) (z : H1.size = H.size) (oq : ∀ q : Nat, q ≠ a → H1[q]? = H[q]?) : z_W E G I' sz H1 := by
  obtain ⟨h1, h2, h3, h4⟩ := hW
  refine ⟨z.trans h1, h2, fun x hx1 => ?_, h4⟩
  by_cases hq : x.1 = a
  · obtain ⟨x1, x2⟩ := x
    have hq : x1 = a := hq
    subst hq
    rw [z_keys h4 hx1 hx]
    exact ⟨hat, (h3 _ hx).2⟩
  · exact ⟨(by rw [hI _ hq]; exact (h3 x hx1).1.kept (oq _ hq)), (h3 x hx1).2⟩
theorem z_W.push {E : zE} {G : zG} {I : zI} {sz : Nat} {H H1 : Heap} {f : (Nat → Int32) → va_E} (hW : z_W E G I sz H) (hat : va_at E.1 vwCl (sz, f (fun _ => 0)) H1) (z : H1.size = sz + 1) (oq : ∀ q : Nat, q < sz → H1[q]? = H[q]?) : z_W E ((sz, f) :: G) (z_ne I sz) (sz + 1) H1 := by
  obtain ⟨h1, h2, h3, h4⟩ := hW
  have hlt : ∀ x ∈ G, x.1 < sz := fun x hx => by rw [← h1]; exact (h3 x hx).1.lt
  refine ⟨z, by omega, fun x hx => ?_, ?_⟩
  · rcases List.mem_cons.mp hx with rfl | hx
    · rw [z_ne_at]; exact ⟨hat, h2⟩
    · have := hlt x hx
      exact ⟨(by rw [z_ne_ne _ _ (by omega)]; exact (h3 x hx).1.kept (oq _ this)), (h3 x hx).2⟩
  · rw [List.map_cons, List.nodup_cons]
    refine ⟨fun hm => ?_, h4⟩
    obtain ⟨x, hx, he⟩ := List.mem_map.mp hm
    have := hlt x hx
    have he : x.1 = sz := he
    omega
/-- a cell that is told in another form -/
theorem z_W.putG {E : zE} {pre suf : zG} {I I' : zI} {sz : Nat} {H H1 : Heap} {a : Nat} {f f' : (Nat → Int32) → va_E} (hW : z_W E (pre ++ (a, f) :: suf) I sz H) (hat : va_at E.1 vwCl (a, f' (I' a)) H1) (hI : ∀ q, q ≠ a → I' q = I q) (z : H1.size = H.size) (oq : ∀ q : Nat, q ≠ a → H1[q]? = H[q]?) : z_W E (pre ++ (a, f') :: suf) I' sz H1 := by
  obtain ⟨h1, h2, h3, h4⟩ := hW
  have hk : (pre ++ (a, f') :: suf).map Prod.fst = (pre ++ (a, f) :: suf).map Prod.fst := by simp
  refine ⟨z.trans h1, h2, fun x hx => ?_, by rw [hk]; exact h4⟩
  have hb := (h3 (a, f) (by simp)).2
  by_cases hq : x.1 = a
  · obtain ⟨x1, x2⟩ := x
    have hq : x1 = a := hq
    subst hq
    have hx9 : (x1, f') ∈ pre ++ (x1, f') :: suf := by simp
    rw [z_keys (by rw [hk]; exact h4) hx hx9]
    exact ⟨hat, hb⟩
  · have hx1 : x ∈ pre ++ (a, f) :: suf := by
      rcases List.mem_append.mp hx with h | h
      · exact List.mem_append_left _ h
      · rcases List.mem_cons.mp h with h | h
        · exact absurd (by rw [h]) hq
        · exact List.mem_append_right _ (List.mem_cons_of_mem _ h)
    exact ⟨(by rw [hI _ hq]; exact (h3 x hx1).1.kept (oq _ hq)), (h3 x hx1).2⟩
theorem z_P1 {E : zE} {G : zG} {I : zI} {sz : Nat} {H : Heap} {a : Nat} {f : (Nat → Int32) → va_E} {w : va_E} (hW : z_W E G I sz H) (hx : (a, f) ∈ G) (hf : f (I a) = w) : va_P E.1 vwCl [(a, w)] H := fun k q hk => by
  cases k with
  | zero => cases hk; rw [← hf]; exact (hW.2.2.1 _ hx).1
  | succ k => simp at hk
section ZHEAP
variable {E : zE} {l : Launch} {y : MethodName} {cc : ByteArray} {nL : Nat} {ret : Option FieldType} {hh : List (Nat × Nat × Nat × Nat)} {R : Room} {mc ms : Nat} {Q : zQ} {k n : Nat} {G : zG} {I I' : zI} {sz pc pc' : Nat} {lv : List (Option Value)} {st : List Value}
variable {a ci kf idx N : Nat} {f : (Nat → Int32) → va_E} {C : String} {T : u_T} {fs : List Value} {v : Value}
theorem v_get (hd : decode cc pc = .ok (.getfield idx, 3)) (hx : (a, f) ∈ G) (hf : f (I a) = .inr (ci, fs)) (hc : vwCl[ci]? = some (C, T, N)) (hin : ∀ w ∈ u_ws C T N, w ∈ gw) (hk : kf < N) (hl : Cond.fieldLink y.cls idx (T kf).1 (T kf).2.1 (T kf).2.2.1 ∈ gw) (hv : fs[kf]? = some v) (hp : pc + 3 = pc')
    (h : z_V E l (y, cc, nL, ret, hh) R mc ms Q k n G I sz pc' lv (v :: st)) : z_V E l (y, cc, nL, ret, hh) R mc ms Q k n G I sz pc lv (.ref a :: st) := by
  subst hp
  intro p e s m args below meth c C0 H locs ls hW hS hL
  obtain ⟨hx0, hb, hr, hml, hown, hts, hlk, hnm, het, hU, hb0, hst⟩ := id C0
  exact va_get (D := E.1) (ci := ci) hx0 hb hts hin hown hU.1 (z_P1 hW hx hf) 0 rfl hc kf hk (hts _ hl) (fun _ h9 => h9) hv hd (h p e s m args below meth c C0 H locs ls hW hS hL)
theorem v_put {x : Value} {ty : FieldType} (hd : decode cc pc = .ok (.putfield idx, 3)) (hx : (a, f) ∈ G) (hf : f (I a) = .inr (ci, fs)) (hc : vwCl[ci]? = some (C, T, N)) (hin : ∀ w ∈ u_ws C T N, w ∈ gw) (ty0 : Nat → FieldType) (hty : ∀ k, k < N → parseFieldDescriptor (T k).2.2.1 = some (ty0 k)) (hnm9 : ∀ a, a < N → ∀ b, b < N → a ≠ b → (T a).2.1 ≠ (T b).2.1) (hk : kf < N) (hl : Cond.fieldLink y.cls idx (T kf).1 (T kf).2.1 (T kf).2.2.1 ∈ gw) (hfin : (T kf).2.2.2 = false)
    (hdsc : parseFieldDescriptor (T kf).2.2.1 = some ty) (hn : narrow ty x = x) (hfit : fits ty x = true) (hlen : kf < fs.length) (hI : ∀ q, q ≠ a → I' q = I q) (hf' : f (I' a) = .inr (ci, fs.set kf x)) (hp : pc + 3 = pc')
    (h : z_V E l (y, cc, nL, ret, hh) R mc ms Q k n G I' sz pc' lv st) : z_V E l (y, cc, nL, ret, hh) R mc ms Q k n G I sz pc lv (x :: .ref a :: st) := by
  subst hp
  intro p e s m args below meth c C0 H locs ls hW hS hL
  obtain ⟨hx0, hb, hr, hml, hown, hts, hlk, hnm, het, hU, hb0, hst0⟩ := id C0
  have hap := va_apart (own := y.cls) hts hin ty0 hty hnm9 hU.1 hc
  have hA := hW.2.2.1 _ hx
  obtain ⟨r, h1, cell, q1, q2, q3, q4⟩ := z_P1 hW hx hf 0 _ rfl
  have hr : r = (C, T, N) := Option.some.inj (h1.symm.trans hc)
  subst hr
  obtain ⟨hSl, hfc, kC, hkC, hkind⟩ := hU.1.1 ci _ hc
  obtain ⟨cf, kf9, fi, fl, hi, hsl⟩ := hSl kf hk
  have hlay := hts _ (hin _ (u_in_lay hk))
  unfold u_lay at hlay
  rw [if_neg (by rw [hfin]; decide)] at hlay
  have hst := (u_facts hfc hkC (u_lays hts hin hk) hi).1
  have h6 := u_store hfc hkC hkind hlay hi hdsc hn hfit
  refine W.putK hx0 hb (f := fl) ⟨hown, hts _ hl, ⟨_, _, _, hi⟩, hst⟩ (by rw [q2]; exact h6) q1 q3 (by rw [hsl]; exact k2_hasslot (q4 kf hk)) rfl rfl hd fun H' e1 e2 e3 => ?_
  rw [hsl] at e1 ⊢
  refine h p e s m args below meth c C0 H' _ ls (hW.put hx ?_ hI e2 e3) (hS.put e2 e3 hA.2) hL
  rw [hf']
  exact ⟨_, hc, t_OB.to (V := updV (vp_V fs) kf x) ⟨_, e1, q2, q3, t_set q4 hap hk x⟩ (fun j _ => vp_updV_set hlen x j)⟩
variable {j N1 : Nat} {i x : Int32}
theorem z_idx (hi : i = nI j) (hj : j < N1) (hN : N1 < 2 ^ 31) : vp_in i N1 ∧ i.toNatClampNeg = j := by
  subst hi
  exact ⟨vp_in_nI hj hN, nI_clamp (by omega)⟩
/-- arrays whose numbers are read from the memory -/
def sI (E : zE) (t : Nat) (len : Nat) : (Nat → Int32) → va_E := fun i => .inl (E.2.1 t, (len, .inl i))
theorem v_iald (hd : decode cc pc = .ok (.iaload, 1)) (j : Nat) (hi : i = nI j) (hx : (a, sI E 0 N1) ∈ G) (hj : j < N1) (hN : N1 < 2 ^ 31) (hp : pc + 1 = pc')
    (h : z_V E l (y, cc, nL, ret, hh) R mc ms Q k n G I sz pc' lv (.int (I a j) :: st)) : z_V E l (y, cc, nL, ret, hh) R mc ms Q k n G I sz pc lv (.int i :: .ref a :: st) := by
  subst hp
  intro p e s m args below meth c C0 H locs ls hW hS hL
  obtain ⟨hx0, hb, hr, hml, hown, hts, hlk, hnm, het, hU, hb0, hst⟩ := id C0
  have hq := z_idx hi hj hN
  refine va_iald (D := E.1) hx0 hb hU.1 (z_P1 hW hx rfl) 0 0 rfl rfl hq.1 hd ?_
  rw [hq.2]
  exact h p e s m args below meth c C0 H locs ls hW hS hL
theorem v_zald (hd : decode cc pc = .ok (.baload, 1)) (j : Nat) (hi : i = nI j) (hx : (a, sI E 1 N1) ∈ G) (hj : j < N1) (hN : N1 < 2 ^ 31) (hp : pc + 1 = pc')
    (h : z_V E l (y, cc, nL, ret, hh) R mc ms Q k n G I sz pc' lv (.int (I a j) :: st)) : z_V E l (y, cc, nL, ret, hh) R mc ms Q k n G I sz pc lv (.int i :: .ref a :: st) := by
  subst hp
  intro p e s m args below meth c C0 H locs ls hW hS hL
  obtain ⟨hx0, hb, hr, hml, hown, hts, hlk, hnm, het, hU, hb0, hst⟩ := id C0
  have hq := z_idx hi hj hN
  refine va_zald (D := E.1) hx0 hb hU.1 (z_P1 hW hx rfl) 0 1 rfl rfl hq.1 hd ?_
  rw [hq.2]
  exact h p e s m args below meth c C0 H locs ls hW hS hL
theorem v_cald (hd : decode cc pc = .ok (.caload, 1)) (j : Nat) (hi : i = nI j) (hx : (a, sI E 2 N1) ∈ G) (hj : j < N1) (hN : N1 < 2 ^ 31) (hp : pc + 1 = pc')
    (h : z_V E l (y, cc, nL, ret, hh) R mc ms Q k n G I sz pc' lv (.int (I a j) :: st)) : z_V E l (y, cc, nL, ret, hh) R mc ms Q k n G I sz pc lv (.int i :: .ref a :: st) := by
  subst hp
  intro p e s m args below meth c C0 H locs ls hW hS hL
  obtain ⟨hx0, hb, hr, hml, hown, hts, hlk, hnm, het, hU, hb0, hst⟩ := id C0
  have hq := z_idx hi hj hN
  refine va_cald (D := E.1) hx0 hb hU.1 (z_P1 hW hx rfl) 0 2 rfl rfl hq.1 hd ?_
  rw [hq.2]
  exact h p e s m args below meth c C0 H locs ls hW hS hL
/-- the law's row of longs: each is an int's -/
def sJ (E : zE) (len : Nat) : (Nat → Int32) → va_E := fun i => .inl (E.2.1 3, (len, .inr (.inl (fun j => (i j).toInt64))))
theorem v_lald (hd : decode cc pc = .ok (.laload, 1)) (j : Nat) (hi : i = nI j) (hx : (a, sJ E N1) ∈ G) (hj : j < N1) (hN : N1 < 2 ^ 31) (hp : pc + 1 = pc')
    (h : z_V E l (y, cc, nL, ret, hh) R mc ms Q k n G I sz pc' lv (.long (I a j).toInt64 :: st)) : z_V E l (y, cc, nL, ret, hh) R mc ms Q k n G I sz pc lv (.int i :: .ref a :: st) := by
  subst hp
  intro p e s m args below meth c C0 H locs ls hW hS hL
  obtain ⟨hx0, hb, hr, hml, hown, hts, hlk, hnm, het, hU, hb0, hst⟩ := id C0
  have hq := z_idx hi hj hN
  refine va_lald (D := E.1) hx0 hb hU.1 (z_P1 hW hx rfl) 0 3 rfl rfl hq.1 hd ?_
  rw [hq.2]
  exact h p e s m args below meth c C0 H locs ls hW hS hL
/-- rows of references, fixed: to the cells from b on, in steps of w -/
def sR (E : zE) (t : Nat) (len b w : Nat) : (Nat → Int32) → va_E := fun _ => .inl (E.2.1 t, (len, .inr (.inr (.inr (.inr (fun k => some (b + w * k)))))))
theorem v_aald {t b w : Nat} {Cn : String} (ht : (z_tys E)[t]? = some (E.2.1 t, .object Cn)) (hd : decode cc pc = .ok (.aaload, 1)) (j : Nat) (hi : i = nI j) (hx : (a, sR E t N1 b w) ∈ G) (hj : j < N1) (hN : N1 < 2 ^ 31) (hp : pc + 1 = pc')
    (h : z_V E l (y, cc, nL, ret, hh) R mc ms Q k n G I sz pc' lv (.ref (b + w * j) :: st)) : z_V E l (y, cc, nL, ret, hh) R mc ms Q k n G I sz pc lv (.int i :: .ref a :: st) := by
  subst hp
  intro p e s m args below meth c C0 H locs ls hW hS hL
  obtain ⟨hx0, hb, hr, hml, hown, hts, hlk, hnm, het, hU, hb0, hst⟩ := id C0
  have hq := z_idx hi hj hN
  refine va_aldq (D := E.1) hx0 hb hU.1 (z_P1 hW hx rfl) 0 t rfl ht hq.1 hd ?_
  rw [hq.2]
  exact h p e s m args below meth c C0 H locs ls hW hS hL
theorem v_ast0 {t : Nat} {z : Int32} {g g' : Nat → Int32} {cA : ClassId} {H H1 : Heap} (e : H1[a]? = some ((arrV cA N1 (fun j => .int (g j))).setSlot j (.int z))) (hg : g' = upd g j z) : H1[a]? = some (vp_cell cA (N1, .inl g')) := by
  rw [e, vp_cell_i, arrV_store, hg]
  congr 2
  funext q
  by_cases hq : q = j
  · subst hq
    simp [updV, upd]
  · simp [updV, upd, hq]
theorem v_iast (hd : decode cc pc = .ok (.iastore, 1)) (j : Nat) (hi : i = nI j) (hx : (a, sI E 0 N1) ∈ G) (hj : j < N1) (hN : N1 < 2 ^ 31) (hp : pc + 1 = pc')
    (h : z_V E l (y, cc, nL, ret, hh) R mc ms Q k n G (z_up I a j x) sz pc' lv st) : z_V E l (y, cc, nL, ret, hh) R mc ms Q k n G I sz pc lv (.int x :: .int i :: .ref a :: st) := by
  subst hp
  intro p e s m args below meth c C0 H locs ls hW hS hL
  obtain ⟨hx0, hb, hr, hml, hown, hts, hlk, hnm, het, hU, hb0, hst⟩ := id C0
  have hq := z_idx hi hj hN
  have hP := z_P1 hW hx rfl
  refine W.iast hx0 hb (hP 0 _ rfl) ((hU.1.2 0 _ rfl).1 N1 (fun j => .int (I a j))) (fun q => by cases q) (by show ¬ (i < 0 ∨ (arrV _ _ _).slots.size ≤ _); rw [arrV_size]; exact hq.1) rfl rfl hd fun H1 e1 z oq => ?_
  rw [hq.2] at e1 ⊢
  exact h p e s m args below meth c C0 H1 _ ls (hW.put hx (v_ast0 (t := 0) (H := H) e1 (z_up_at I a j x)) (fun q h => z_up_ne I a j x h) z oq) (hS.put z oq (hW.2.2.1 _ hx).2) hL
theorem v_zast (hd : decode cc pc = .ok (.bastore, 1)) (j : Nat) (hi : i = nI j) (hx : (a, sI E 1 N1) ∈ G) (hj : j < N1) (hN : N1 < 2 ^ 31) (hv : narrow .boolean (.int x) = .int x) (hp : pc + 1 = pc')
    (h : z_V E l (y, cc, nL, ret, hh) R mc ms Q k n G (z_up I a j x) sz pc' lv st) : z_V E l (y, cc, nL, ret, hh) R mc ms Q k n G I sz pc lv (.int x :: .int i :: .ref a :: st) := by
  subst hp
  intro p e s m args below meth c C0 H locs ls hW hS hL
  obtain ⟨hx0, hb, hr, hml, hown, hts, hlk, hnm, het, hU, hb0, hst⟩ := id C0
  have hq := z_idx hi hj hN
  have hP := z_P1 hW hx rfl
  refine W.zast hx0 hb (hP 0 _ rfl) ((hU.1.2 1 _ rfl).1 N1 (fun j => .int (I a j))) (fun q => by cases q) (by show ¬ (i < 0 ∨ (arrV _ _ _).slots.size ≤ _); rw [arrV_size]; exact hq.1) rfl rfl hd fun H1 e1 z oq => ?_
  rw [hv] at e1
  rw [hq.2] at e1 ⊢
  exact h p e s m args below meth c C0 H1 _ ls (hW.put hx (v_ast0 (t := 0) (H := H) e1 (z_up_at I a j x)) (fun q h => z_up_ne I a j x h) z oq) (hS.put z oq (hW.2.2.1 _ hx).2) hL
theorem v_cast (hd : decode cc pc = .ok (.castore, 1)) (j : Nat) (hi : i = nI j) (hx : (a, sI E 2 N1) ∈ G) (hj : j < N1) (hN : N1 < 2 ^ 31) (hv : narrow .char (.int x) = .int x) (hp : pc + 1 = pc')
    (h : z_V E l (y, cc, nL, ret, hh) R mc ms Q k n G (z_up I a j x) sz pc' lv st) : z_V E l (y, cc, nL, ret, hh) R mc ms Q k n G I sz pc lv (.int x :: .int i :: .ref a :: st) := by
  subst hp
  intro p e s m args below meth c C0 H locs ls hW hS hL
  obtain ⟨hx0, hb, hr, hml, hown, hts, hlk, hnm, het, hU, hb0, hst⟩ := id C0
  have hq := z_idx hi hj hN
  have hP := z_P1 hW hx rfl
  refine W.cast hx0 hb (hP 0 _ rfl) ((hU.1.2 2 _ rfl).1 N1 (fun j => .int (I a j))) (fun q => by cases q) (by show ¬ (i < 0 ∨ (arrV _ _ _).slots.size ≤ _); rw [arrV_size]; exact hq.1) rfl rfl hd fun H1 e1 z oq => ?_
  rw [hv] at e1
  rw [hq.2] at e1 ⊢
  exact h p e s m args below meth c C0 H1 _ ls (hW.put hx (v_ast0 (t := 0) (H := H) e1 (z_up_at I a j x)) (fun q h => z_up_ne I a j x h) z oq) (hS.put z oq (hW.2.2.1 _ hx).2) hL
theorem v_last (hd : decode cc pc = .ok (.lastore, 1)) (j : Nat) (hi : i = nI j) (hx : (a, sJ E N1) ∈ G) (hj : j < N1) (hN : N1 < 2 ^ 31) (hp : pc + 1 = pc')
    (h : z_V E l (y, cc, nL, ret, hh) R mc ms Q k n G (z_up I a j x) sz pc' lv st) : z_V E l (y, cc, nL, ret, hh) R mc ms Q k n G I sz pc lv (.long x.toInt64 :: .int i :: .ref a :: st) := by
  subst hp
  intro p e s m args below meth c C0 H locs ls hW hS hL
  obtain ⟨hx0, hb, hr, hml, hown, hts, hlk, hnm, het, hU, hb0, hst⟩ := id C0
  have hq := z_idx hi hj hN
  have hP := z_P1 hW hx rfl
  refine W.last hx0 hb (hP 0 _ rfl) ((hU.1.2 3 _ rfl).1 N1 (fun j => .long (I a j).toInt64)) (fun q => by cases q) (by show ¬ (i < 0 ∨ (arrV _ _ _).slots.size ≤ _); rw [arrV_size]; exact hq.1) rfl rfl hd fun H1 e1 z oq => ?_
  rw [hq.2] at e1 ⊢
  refine h p e s m args below meth c C0 H1 _ ls (hW.put hx ?_ (fun q h => z_up_ne I a j x h) z oq) (hS.put z oq (hW.2.2.1 _ hx).2) hL
  show H1[a]? = some (vp_cell _ _)
  rw [e1, z_up_at]
  rw [vp_cell_l, vp_cell_l, arrV_store]
  congr 2
  funext q
  by_cases hq : q = j
  · subst hq
    simp [updV, upd]
  · simp [updV, upd, hq]
end ZHEAP
end
section
/-! CONTRACTS, and the rows of the judgement for calls, ends, new cells, statics and throws -/
def z_Pc (E : zE) (G : zG) (I : zI) (sz : Nat) (av : List Value) : Array Value → State → Prop := va_Pc av (fun U => z_W E G I sz U.heap ∧ z_U E U ∧ (E.2.2.1 ≤ U.heap.size ∧ z_St E U U.heap))
theorem z_Pc_blind {E : zE} {G : zG} {I : zI} {sz : Nat} {av : List Value} : FrameBlind (z_Pc E G I sz av) := fun a U g mk q => ⟨q.1, q.2.1, z_U.same (u := U) (U := U.calling g mk a) rfl q.2.2.1, q.2.2.2.1, z_St.step (u := U) (U := U.calling g mk a) (Vm.Alike.refl U.vm) (fun _ _ _ => rfl) q.2.2.2.2⟩
/-- a method that throws nothing -/
def z_q (Q : Option Value → zG → zI → Nat → Prop) : zQ := fun o G I sz => match o with
  | .inl v => Q v G I sz
  | .inr _ => False
def z_cw (M : zM) : Cond := .code M.1 M.2.1 M.2.2.1 M.2.2.2.1
/-- a CONTRACT: called with these arguments in this world it answers as Q says -/
def z_Ct (E : zE) (l : Launch) (M : zM) (d mc ms : Nat) (av : List Value) (G : zG) (I : zI) (sz : Nat) (Q : Option Value → zG → zI → Nat → Prop) : Prop := Met l M.1 (z_cw M :: gw) (z_rm d mc ms) (z_Pc E G I sz av) (z_Qc E (z_q Q)) mc ms (z_A E)
/-- .. or throws -/
def z_Cx (E : zE) (l : Launch) (M : zM) (d mc ms : Nat) (av : List Value) (G : zG) (I : zI) (sz : Nat) (Q : zQ) : Prop := vx_Met l M.1 (z_cw M :: gw) (z_rm d mc ms) (z_Pc E G I sz av) (z_Qc E Q) (z_Xc E Q) mc ms (z_A E)
def z_cwW (M : zM) : Cond := .codeWith M.1 M.2.1 M.2.2.1 M.2.2.2.1 M.2.2.2.2
/-- a method with handlers of its own, that throws nothing -/
def z_Cw (E : zE) (l : Launch) (M : zM) (d mc ms : Nat) (av : List Value) (G : zG) (I : zI) (sz : Nat) (Q : Option Value → zG → zI → Nat → Prop) : Prop := Met l M.1 (z_cwW M :: gw) (z_rm d mc ms) (z_Pc E G I sz av) (z_Qc E (z_q Q)) mc ms (z_A E)
theorem z_body {E : zE} {p : Program} {l : Launch} {y : MethodName} {cc : ByteArray} {nL : Nat} {ret : Option FieldType} {hh : List (Nat × Nat × Nat × Nat)} {w0 : Cond} {rm : Room} {e : Env} {s : State} {m : MethodId} {args : Array Value} {below : List Frame} {meth : Method} {c : Code} {s₁ : State} {mc ms : Nat} {Q : zQ} {av : List Value} {G : zG} {I : zI} {sz : Nat} {lv : List (Option Value)}
    (B : BodyLoose p l y (headSpec (w0 :: gw) rm) cc nL ret e s m args below meth c s₁) (hml : c.maxLocals = nL) (het : c.exceptionTable.toList = tableOf hh) (hPc : z_Pc E G I sz av args s) (hl : l.stackTraces = false) (hlv : z_pr 0 lv = lv_args 0 av) (hlen : (lg_sl av).length ≤ nL)
    (h : z_V E l (y, cc, nL, ret, hh) rm mc ms Q 0 0 G I sz 0 lv []) : W p l e (headSpec (w0 :: gw) rm).room s m args below meth c s.heap [] 0 0 (vx_MQ below (z_Qc E Q) (z_Xc E Q) args s mc ms (z_A E)) (entryFrame m args nL) := by
  obtain ⟨rfl, hW, hU, hb0, hst⟩ := hPc
  have hts := atoms_spec (ws := w0 :: gw) B.pre
  have hlh := lv_entry av (n := nL) hlen
  rw [lg_entry_eq]
  exact h p e s m _ below meth c ⟨B.exec, B.bytes, B.returns, hml, findClass_of_methodNamed B.named, fun w hw => hts w (List.mem_cons_of_mem _ hw), B.notSynchronized, (name_of_methodNamed B.named B.method).1, het, hU, ⟨hb0, hst⟩, hl⟩ s.heap [] _ hW va_S.rf ⟨hlh.1, hlh.2.1, by rw [hlv]; exact hlh.2.2⟩
theorem z_noX {below : List Frame} {E : zE} {Q : Option Value → zG → zI → Nat → Prop} {args : Array Value} {s t : State} {mc ms : Nat} (h : vx_MQ below (z_Qc E (z_q Q)) (z_Xc E (z_q Q)) args s mc ms (z_A E) t) : MQ below (z_Qc E (z_q Q)) args s mc ms (z_A E) t := by
  obtain ⟨o, h1, h2, h3⟩ := h
  rcases h3 with h3 | ⟨q, -, X, ce, L, ⟨⟨G, I, sz, hq, -⟩, -⟩, -⟩
  · exact ⟨o, h1, h2, h3.1, h3.2⟩
  · exact hq.elim
section ZCALL
variable {E : zE} {l : Launch} {y : MethodName} {cc : ByteArray} {nL : Nat} {ret : Option FieldType} {hh : List (Nat × Nat × Nat × Nat)} {d mc ms : Nat} {Q : zQ} {k n : Nat} {G : zG} {I : zI} {sz pc pc' : Nat} {lv : List (Option Value)} {st : List Value} {av : List Value}
theorem z_Ct.of {Q : Option Value → zG → zI → Nat → Prop} (hl : l.stackTraces = false) (hy : plainName y.cls = true) (lv : List (Option Value)) (hlv : z_pr 0 lv = lv_args 0 av) (hlen : (lg_sl av).length ≤ nL) (h : z_V E l (y, cc, nL, ret, []) (z_rm d mc ms) mc ms (z_q Q) 0 0 G I sz 0 lv []) : z_Ct E l (y, cc, nL, ret, []) d mc ms av G I sz Q := by
  refine Met.ofW (cc := cc) (maxL := nL) (ret := ret) hy rfl ?_
  intro p e s m args below meth c s₁ B hml hv
  have ht : c.exceptionTable.toList = tableOf [] := by
    obtain ⟨meth9, c9, h1, h2, -, -, -, -, h7, -⟩ := Cond.code_spec B.named (atoms_spec (ws := z_cw (y, cc, nL, ret, []) :: gw) B.pre _ List.mem_cons_self)
    cases Option.some.inj (h1.symm.trans B.method)
    cases Option.some.inj (h2.symm.trans (Stand.of_body B).code)
    rw [Array.isEmpty_iff.mp h7]
    rfl
  intro T hT X
  obtain ⟨t, a1, b1⟩ := z_body B hml ht hv hl hlv hlen h T hT X
  exact ⟨t, a1, z_noX b1⟩
theorem z_Cx.of {Q : zQ} (hl : l.stackTraces = false) (hy : plainName y.cls = true) (lv : List (Option Value)) (hlv : z_pr 0 lv = lv_args 0 av) (hlen : (lg_sl av).length ≤ nL) (h : z_V E l (y, cc, nL, ret, []) (z_rm d mc ms) mc ms Q 0 0 G I sz 0 lv []) : z_Cx E l (y, cc, nL, ret, []) d mc ms av G I sz Q := by
  refine vx_ofW (cc := cc) (maxL := nL) (ret := ret) hy rfl ?_
  intro p e s m args below meth c s₁ B hml ht hv
  refine z_body B hml ?_ hv hl hlv hlen h
  cases hc : c.exceptionTable.toList with
  | nil => rfl
  | cons x r => exact (ht x (by rw [hc]; exact List.mem_cons_self)).elim
theorem z_Cw.of {Q : Option Value → zG → zI → Nat → Prop} (hl : l.stackTraces = false) (hy : plainName y.cls = true) (lv : List (Option Value)) (hlv : z_pr 0 lv = lv_args 0 av) (hlen : (lg_sl av).length ≤ nL) (h : z_V E l (y, cc, nL, ret, hh) (z_rm d mc ms) mc ms (z_q Q) 0 0 G I sz 0 lv []) : z_Cw E l (y, cc, nL, ret, hh) d mc ms av G I sz Q := by
  have h9 : vx_Met l y (z_cwW (y, cc, nL, ret, hh) :: gw) (z_rm d mc ms) (z_Pc E G I sz av) (z_Qc E (z_q Q)) (z_Xc E (z_q Q)) mc ms (z_A E) := by
    refine vx_ofWH (cc := cc) (maxL := nL) (ret := ret) (hh := hh) hy rfl ?_
    intro p e s m args below meth c s₁ B hml hv
    exact z_body B hml (vx_table (x := y) B (atoms_spec (ws := z_cwW (y, cc, nL, ret, hh) :: gw) B.pre _ List.mem_cons_self)) hv hl hlv hlen h
  intro p e ha hc hk s m args below hf happ hp hk9
  obtain ⟨k9, o, g1, g2, g3, g4⟩ := h9 p e ha hc hk s m args below hf happ hp hk9
  refine ⟨k9, o, g1, g2, g3, ?_⟩
  rcases g4 with g4 | ⟨q, -, X, ce, L, ⟨⟨G, I, sz, hq, -⟩, -⟩, -⟩
  · exact g4
  · exact hq.elim
/-- ends -/
theorem v_iret {R : Room} {x : Int32} (hd : decode cc pc = .ok (.ireturn, 1)) (hr9 : ret = some .int) (hk : k ≤ mc) (hn : n ≤ ms) (hQ : Q (.inl (some (.int x))) G I sz) : z_V E l (y, cc, nL, ret, hh) R mc ms Q k n G I sz pc lv [.int x] := by
  intro p e s m args below meth c C0 H locs ls hW hS hL
  obtain ⟨hx0, hb, hr, hml, hown, hts, hlk, hnm, het, hU, hb0, hst⟩ := id C0
  exact W.widen hk hn (vx_ret (W.iret (v := x) hx0 hb (hr.trans hr9) (fun t ht hWm => ⟨⟨_, G, I, sz, rfl, hQ, by rw [ht]; exact hW⟩, hS.F ht⟩) hS.2.2 hd (hlocks := hlk)))
theorem v_zret {R : Room} {x : Int32} (hd : decode cc pc = .ok (.ireturn, 1)) (hr9 : ret = some .boolean) (hk : k ≤ mc) (hn : n ≤ ms) (hv : narrow .boolean (.int x) = .int x) (hQ : Q (.inl (some (.int x))) G I sz) : z_V E l (y, cc, nL, ret, hh) R mc ms Q k n G I sz pc lv [.int x] := by
  intro p e s m args below meth c C0 H locs ls hW hS hL
  obtain ⟨hx0, hb, hr, hml, hown, hts, hlk, hnm, het, hU, hb0, hst⟩ := id C0
  exact W.widen hk hn (vx_ret (W.zret (v := x) hx0 hb (hr.trans hr9) hv (fun t ht hWm => ⟨⟨_, G, I, sz, rfl, hQ, by rw [ht]; exact hW⟩, hS.F ht⟩) hS.2.2 hd (hlocks := hlk)))
theorem v_lret {R : Room} {x : Int64} (hd : decode cc pc = .ok (.lreturn, 1)) (hr9 : ret = some .long) (hk : k ≤ mc) (hn : n ≤ ms) (hQ : Q (.inl (some (.long x))) G I sz) : z_V E l (y, cc, nL, ret, hh) R mc ms Q k n G I sz pc lv [.long x] := by
  intro p e s m args below meth c C0 H locs ls hW hS hL
  obtain ⟨hx0, hb, hr, hml, hown, hts, hlk, hnm, het, hU, hb0, hst⟩ := id C0
  exact W.widen hk hn (vx_ret (W.lret (v := x) hx0 hb (hr.trans hr9) (fun t ht hWm => ⟨⟨_, G, I, sz, rfl, hQ, by rw [ht]; exact hW⟩, hS.F ht⟩) hS.2.2 hd (hlocks := hlk)))
theorem v_vret {R : Room} (hd : decode cc pc = .ok (.return_, 1)) (hr9 : ret = none) (hk : k ≤ mc) (hn : n ≤ ms) (hQ : Q (.inl none) G I sz) : z_V E l (y, cc, nL, ret, hh) R mc ms Q k n G I sz pc lv [] := by
  intro p e s m args below meth c C0 H locs ls hW hS hL
  obtain ⟨hx0, hb, hr, hml, hown, hts, hlk, hnm, het, hU, hb0, hst⟩ := id C0
  exact W.widen hk hn (vx_ret (W.vret hx0 hb (hr.trans hr9) (fun t ht hWm => ⟨⟨_, G, I, sz, rfl, hQ, by rw [ht]; exact hW⟩, hS.F ht⟩) hS.2.2 hd (hlocks := hlk)))
theorem v_aret {R : Room} {v : Value} {Cn : String} (hd : decode cc pc = .ok (.areturn, 1)) (hr9 : ret = some (.object Cn)) (hk : k ≤ mc) (hn : n ≤ ms) (hv : v = .null ∨ ∃ a, v = .ref a) (hQ : Q (.inl (some v)) G I sz) : z_V E l (y, cc, nL, ret, hh) R mc ms Q k n G I sz pc lv [v] := by
  intro p e s m args below meth c C0 H locs ls hW hS hL
  obtain ⟨hx0, hb, hr, hml, hown, hts, hlk, hnm, het, hU, hb0, hst⟩ := id C0
  exact W.widen hk hn (vx_ret (W.aret (v := v) hx0 hb (hr.trans hr9) (Or.inl ⟨_, rfl⟩) hv (fun t ht hWm => ⟨⟨_, G, I, sz, rfl, hQ, by rw [ht]; exact hW⟩, hS.F ht⟩) hS.2.2 hd (hlocks := hlk)))
theorem v_widen {R : Room} {k1 n1 : Nat} (hk : k ≤ k1) (hn : n ≤ n1) (h : z_V E l (y, cc, nL, ret, hh) R mc ms Q k1 n1 G I sz pc lv st) : z_V E l (y, cc, nL, ret, hh) R mc ms Q k n G I sz pc lv st := fun p e s m args below meth c C0 H locs ls hW hS hL => W.widen hk hn (h p e s m args below meth c C0 H locs ls hW hS hL)
/-- fewer locals are known -/
theorem v_lv {R : Room} {lv' : List (Option Value)} (hs : ∀ (j : Nat) (v : Value), lv'[j]? = some (some v) → lv[j]? = some (some v)) (h : z_V E l (y, cc, nL, ret, hh) R mc ms Q k n G I sz pc lv' st) : z_V E l (y, cc, nL, ret, hh) R mc ms Q k n G I sz pc lv st := fun p e s m args below meth c C0 H locs ls hW hS hL => h p e s m args below meth c C0 H locs ls hW hS (hL.nil hs)
theorem z_run {p : Program} {e : Env} {R : Room} {s : State} {m : MethodId} {args a : Array Value} {below : List Frame} {meth : Method} {c : Code} {H : Heap} {locs : List Loc} {ls : Array Slot} {stk : List Value} {mc1 ms1 : Nat} {Qf : State → Prop} {Q1 : Option Value → zG → zI → Nat → Prop}
    (hr : va_Run p l e R s m args below meth c H locs k n mc1 ms1 (F0 m pc ls stk) st (z_Qc E (z_q Q1) a) (z_A E)) (hS : va_S (z_A E) s.heap H locs)
    (kk : ∀ v G' I' sz' H1 locs1, Q1 v G' I' sz' → z_W E G' I' sz' H1 → va_S (z_A E) s.heap H1 locs1 → W p l e R s m args below meth c H1 locs1 (k + mc1) (n + ms1) Qf (F0 m (pc + 3) ls (v.toList ++ st))) : W p l e R s m args below meth c H locs k n Qf (F0 m pc ls stk) := by
  intro T hT X
  obtain ⟨v, st₀, t, T', L, h0, X', hL, e1, e2, ⟨⟨v', G', I', sz', hv, hq, hw⟩, hF⟩, stp⟩ := hr T hT X
  cases hv
  obtain ⟨k1, k2, k3⟩ := vx_keep h0 e1 hS (fun q _ h => h) (fun q h => h) hL hF
  obtain ⟨t2, a1, b1⟩ := kk v G' I' sz' T'.heap (locs ++ L) hq (by rw [e1]; exact hw) k3 T' rfl X'
  exact ⟨t2, stp t2 a1, b1⟩
theorem z_pre {s : State} {H : Heap} {locs : List Loc} (hU : z_U E s) (hb0 : E.2.2.1 ≤ s.heap.size) (hst : z_St E s s.heap) (hW : z_W E G I sz H) (hS : va_S (z_A E) s.heap H locs) (av : List Value) : ∀ U : State, U.heap = H → s.WarmedH U.vm → z_Pc E G I sz av av.toArray U :=
  fun U hU9 hWm => ⟨rfl, by rw [hU9]; exact hW, hU.warm hWm, by rw [hU9]; exact Nat.le_trans hb0 hS.1, by rw [hU9]; exact hst.step hWm.alike hS.2.1⟩
/-- what the tables say of a method that is called: by an object, or static -/
def z_mw (y1 : MethodName) (cc1 : ByteArray) (nL1 : Nat) (ret1 : Option FieldType) (na : Nat) : Prop := Cond.initialized y1.cls ∈ gw ∧ Cond.code y1 cc1 nL1 ret1 ∈ gw ∧ (y1.cls ≠ "java/lang/invoke/MethodHandle" ∧ y1.cls ≠ "java/lang/invoke/VarHandle" ∧ (parseMethodDescriptor y1.desc).map (fun d => d.parameters.length) = some na) ∧ nL1 ≤ 19
def z_mi (y1 : MethodName) : Prop := Cond.instanceMethod y1 ∈ gw ∧ Cond.selects y1.cls y1 y1 ∈ gw
theorem z_room {d1 d nL1 mc1 ms1 : Nat} (h1 : d1 + 1 ≤ d) (h2 : nL1 ≤ 19) : (z_rm d1 mc1 ms1).frames + 1 ≤ (z_rm d mc ms).frames ∧ 8 + (nL1 + 11) + (z_rm d1 mc1 ms1).locals ≤ (z_rm d mc ms).locals := by
  simp only [z_rm]
  exact ⟨h1, by omega⟩
theorem z_cat {pc : Nat} {m : MethodId} {ls : Array Slot} {stk : List Value} (h : (st.map fun v => v.category).sum ≤ 8) : 2 * (F0 m pc ls stk).monitorRoom + (st.map fun v => v.category).sum ≤ 8 := lv_room h
variable {y1 : MethodName} {cc1 : ByteArray} {nL1 : Nat} {ret1 : Option FieldType} {hh1 : List (Nat × Nat × Nat × Nat)} {d1 mc1 ms1 na idx b ci N : Nat} {As stk : List Value} {f : (Nat → Int32) → va_E} {T : u_T} {fs : List Value}
theorem v_callV {Q1 : Option Value → zG → zI → Nat → Prop} (hC : z_Ct E l (y1, cc1, nL1, ret1, hh1) d1 mc1 ms1 (.ref b :: As) G I sz Q1) (hd : decode cc pc = .ok (.invokevirtual idx, 3)) (hl : Cond.methodLink y.cls idx y1 ∈ gw) (hm : z_mw y1 cc1 nL1 ret1 na) (hi : z_mi y1) (hx : (b, f) ∈ G) (hf : f (I b) = .inr (ci, fs)) (hc : vwCl[ci]? = some (y1.cls, T, N))
    (hst : stk = As.reverse ++ .ref b :: st) (hna : As.length = na) (hd1 : d1 + 1 ≤ d) (hcap : k + mc1 ≤ mc ∧ n + ms1 ≤ ms) (hcat : (st.map fun v => v.category).sum ≤ 8) (hp : pc + 3 = pc')
    (h : ∀ v G' I' sz', Q1 v G' I' sz' → z_V E l (y, cc, nL, ret, hh) (z_rm d mc ms) mc ms Q (k + mc1) (n + ms1) G' I' sz' pc' lv (v.toList ++ st)) : z_V E l (y, cc, nL, ret, hh) (z_rm d mc ms) mc ms Q k n G I sz pc lv stk := by
  subst hp
  intro p e s m args below meth c C0 H locs ls hW hS hL
  obtain ⟨hx0, hb, hr, hml, hown, hts, hlk, hnm, het, hU, ⟨hb0, hst0⟩, htr⟩ := id C0
  obtain ⟨hm1, hm2, hm3, hm4⟩ := hm
  have hGI : GoodIn gw (wsV y.cls idx y1.cls y1 (z_cw (y1, cc1, nL1, ret1, hh1) :: gw)) := fun w hw => by
    rcases List.mem_append.mp hw with hw | hw
    · simp only [List.mem_cons, List.not_mem_nil, or_false] at hw
      rcases hw with rfl | rfl | rfl | rfl
      · exact gw_good _ hl
      · exact gw_good _ hi.1
      · exact gw_good _ hi.2
      · exact gw_good _ hm1
    · exact gw_cons hm2 w hw
  refine z_run (va_runV (As := As) (rest := st) (g := F0 m pc ls stk) ⟨hx0, hb, hml, hown, hts⟩ hC (cwV (R := z_rm d mc ms) (own := y.cls) (C := y1.cls) (index := idx) na hts hGI rfl rfl rfl ⟨rfl, hm3⟩ (z_room hd1 hm4)) ⟨z_Pc_blind, va_recv hU.1 (z_P1 hW hx hf) (q0 := 0) hc rfl, z_pre hU hb0 hst0 hW hS _⟩ rfl hna hL.1 hst (z_cat hcat) hd hcap) hS ?_
  exact fun v G' I' sz' H1 locs1 hq hw hs => h v G' I' sz' hq p e s m args below meth c C0 H1 locs1 ls hw hs hL
theorem v_callS {Q1 : Option Value → zG → zI → Nat → Prop} (hC : z_Ct E l (y1, cc1, nL1, ret1, hh1) d1 mc1 ms1 As G I sz Q1) (hd : decode cc pc = .ok (.invokestatic idx, 3)) (hl : Cond.methodLink y.cls idx y1 ∈ gw) (hm : z_mw y1 cc1 nL1 ret1 na) (hi : Cond.static y1 ∈ gw)
    (hst : stk = As.reverse ++ st) (hna : As.length = na) (hd1 : d1 + 1 ≤ d) (hcap : k + mc1 ≤ mc ∧ n + ms1 ≤ ms) (hcat : (st.map fun v => v.category).sum ≤ 8) (hp : pc + 3 = pc')
    (h : ∀ v G' I' sz', Q1 v G' I' sz' → z_V E l (y, cc, nL, ret, hh) (z_rm d mc ms) mc ms Q (k + mc1) (n + ms1) G' I' sz' pc' lv (v.toList ++ st)) : z_V E l (y, cc, nL, ret, hh) (z_rm d mc ms) mc ms Q k n G I sz pc lv stk := by
  subst hp
  intro p e s m args below meth c C0 H locs ls hW hS hL
  obtain ⟨hx0, hb, hr, hml, hown, hts, hlk, hnm, het, hU, ⟨hb0, hst0⟩, htr⟩ := id C0
  obtain ⟨hm1, hm2, hm3, hm4⟩ := hm
  have hGI : GoodIn gw (va_wsS y.cls idx y1 (z_cw (y1, cc1, nL1, ret1, hh1) :: gw)) := fun w hw => by
    rcases List.mem_append.mp hw with hw | hw
    · simp only [List.mem_cons, List.not_mem_nil, or_false] at hw
      rcases hw with rfl | rfl | rfl
      · exact gw_good _ hl
      · exact gw_good _ hi
      · exact gw_good _ hm1
    · exact gw_cons hm2 w hw
  refine z_run (va_runS (As := As) (rest := st) (g := F0 m pc ls stk) ⟨hx0, hb, hml, hown, hts⟩ hC (va_cwS (R := z_rm d mc ms) (own := y.cls) (index := idx) na hts hGI rfl rfl rfl hm3 (z_room hd1 hm4)) ⟨z_Pc_blind, z_pre hU hb0 hst0 hW hS _⟩ rfl hna hL.1 hst (z_cat hcat) hd hcap) hS ?_
  exact fun v G' I' sz' H1 locs1 hq hw hs => h v G' I' sz' hq p e s m args below meth c C0 H1 locs1 ls hw hs hL
theorem v_callSN {host : String} {Q1 : Option Value → zG → zI → Nat → Prop} (hC : z_Ct E l (y1, cc1, nL1, ret1, hh1) d1 mc1 ms1 As G I sz Q1) (hd : decode cc pc = .ok (.invokestatic idx, 3)) (hl : Cond.methodLinkNest y.cls idx y1 host ∈ z_nst) (hm : z_mw y1 cc1 nL1 ret1 na) (hi : Cond.static y1 ∈ gw)
    (hst : stk = As.reverse ++ st) (hna : As.length = na) (hd1 : d1 + 1 ≤ d) (hcap : k + mc1 ≤ mc ∧ n + ms1 ≤ ms) (hcat : (st.map fun v => v.category).sum ≤ 8) (hp : pc + 3 = pc')
    (h : ∀ v G' I' sz', Q1 v G' I' sz' → z_V E l (y, cc, nL, ret, hh) (z_rm d mc ms) mc ms Q (k + mc1) (n + ms1) G' I' sz' pc' lv (v.toList ++ st)) : z_V E l (y, cc, nL, ret, hh) (z_rm d mc ms) mc ms Q k n G I sz pc lv stk := by
  subst hp
  intro p e s m args below meth c C0 H locs ls hW hS hL
  obtain ⟨hx0, hb, hr, hml, hown, hts, hlk, hnm, het, hU, ⟨hb0, hst0⟩, htr⟩ := id C0
  obtain ⟨hm1, hm2, hm3, hm4⟩ := hm
  refine z_run (va_runSN (As := As) (rest := st) (g := F0 m pc ls stk) ⟨hx0, hb, hml, hown, hts⟩ hC ⟨va_cnB (R := z_rm d mc ms) (own := y.cls) (index := idx) na hts (gw_cons hm2) rfl rfl rfl (hU.2.1 _ hl) (hts _ hm1) hm3 (z_room hd1 hm4), hts _ hi, trivial⟩ ⟨z_Pc_blind, z_pre hU hb0 hst0 hW hS _⟩ rfl hna hL.1 hst (z_cat hcat) hd hcap) hS ?_
  exact fun v G' I' sz' H1 locs1 hq hw hs => h v G' I' sz' hq p e s m args below meth c C0 H1 locs1 ls hw hs hL
theorem v_callI {Q1 : Option Value → zG → zI → Nat → Prop} (hC : z_Ct E l (y1, cc1, nL1, none, hh1) d1 mc1 ms1 (.ref b :: As) G I sz Q1) (hd : decode cc pc = .ok (.invokespecial idx, 3)) (hl : Cond.methodLink y.cls idx y1 ∈ gw) (hm : z_mw y1 cc1 nL1 none na) (hi : Cond.instanceMethod y1 ∈ gw) (hin : y1.name = "<init>")
    (hst : stk = As.reverse ++ .ref b :: st) (hna : As.length = na) (hd1 : d1 + 1 ≤ d) (hcap : k + mc1 ≤ mc ∧ n + ms1 ≤ ms) (hcat : (st.map fun v => v.category).sum ≤ 8) (hp : pc + 3 = pc')
    (h : ∀ v G' I' sz', Q1 v G' I' sz' → z_V E l (y, cc, nL, ret, hh) (z_rm d mc ms) mc ms Q (k + mc1) (n + ms1) G' I' sz' pc' lv (v.toList ++ st)) : z_V E l (y, cc, nL, ret, hh) (z_rm d mc ms) mc ms Q k n G I sz pc lv stk := by
  subst hp
  intro p e s m args below meth c C0 H locs ls hW hS hL
  obtain ⟨hx0, hb, hr, hml, hown, hts, hlk, hnm, het, hU, ⟨hb0, hst0⟩, htr⟩ := id C0
  obtain ⟨hm1, hm2, hm3, hm4⟩ := hm
  refine z_run (va_runI (As := As) (rest := st) (g := F0 m pc ls stk) ⟨hx0, hb, hml, hown, hts⟩ hC (cwI (R := z_rm d mc ms) (own := y.cls) (index := idx) na hts (gw_cons hm2) rfl rfl rfl (hts _ hm1) (hts _ hl) (hts _ hi) hin hm3 (z_room hd1 hm4)) ⟨z_Pc_blind, z_pre hU hb0 hst0 hW hS _⟩ rfl hna hL.1 hst (z_cat hcat) hd hcap) hS ?_
  exact fun v G' I' sz' H1 locs1 hq hw hs => h v G' I' sz' hq p e s m args below meth c C0 H1 locs1 ls hw hs hL
theorem v_callIN {host : String} {Q1 : Option Value → zG → zI → Nat → Prop} (hC : z_Ct E l (y1, cc1, nL1, none, hh1) d1 mc1 ms1 (.ref b :: As) G I sz Q1) (hd : decode cc pc = .ok (.invokespecial idx, 3)) (hl : Cond.methodLinkNest y.cls idx y1 host ∈ z_nst) (hm : z_mw y1 cc1 nL1 none na) (hi : Cond.instanceMethod y1 ∈ gw) (hin : y1.name = "<init>")
    (hst : stk = As.reverse ++ .ref b :: st) (hna : As.length = na) (hd1 : d1 + 1 ≤ d) (hcap : k + mc1 ≤ mc ∧ n + ms1 ≤ ms) (hcat : (st.map fun v => v.category).sum ≤ 8) (hp : pc + 3 = pc')
    (h : ∀ v G' I' sz', Q1 v G' I' sz' → z_V E l (y, cc, nL, ret, hh) (z_rm d mc ms) mc ms Q (k + mc1) (n + ms1) G' I' sz' pc' lv (v.toList ++ st)) : z_V E l (y, cc, nL, ret, hh) (z_rm d mc ms) mc ms Q k n G I sz pc lv stk := by
  subst hp
  intro p e s m args below meth c C0 H locs ls hW hS hL
  obtain ⟨hx0, hb, hr, hml, hown, hts, hlk, hnm, het, hU, ⟨hb0, hst0⟩, htr⟩ := id C0
  obtain ⟨hm1, hm2, hm3, hm4⟩ := hm
  refine z_run (va_runIN (As := As) (rest := st) (g := F0 m pc ls stk) ⟨hx0, hb, hml, hown, hts⟩ hC ⟨va_cnB (R := z_rm d mc ms) (own := y.cls) (index := idx) na hts (gw_cons hm2) rfl rfl rfl (hU.2.1 _ hl) (hts _ hm1) hm3 (z_room hd1 hm4), hin, hts _ hi⟩ ⟨z_Pc_blind, z_pre hU hb0 hst0 hW hS _⟩ rfl hna hL.1 hst (z_cat hcat) hd hcap) hS ?_
  exact fun v G' I' sz' H1 locs1 hq hw hs => h v G' I' sz' hq p e s m args below meth c C0 H1 locs1 ls hw hs hL
theorem v_objInit {a : Nat} (hd : decode cc pc = .ok (.invokespecial idx, 3)) (hl : Cond.methodLink y.cls idx Lib.objectInit ∈ gw) (hi : Cond.instanceMethod Lib.objectInit ∈ gw) (hco : Cond.code Lib.objectInit ⟨#[0xb1]⟩ 1 none ∈ gw) (hd1 : 1 ≤ d) (hcat : (st.map fun v => v.category).sum ≤ 8) (hp : pc + 3 = pc')
    (h : z_V E l (y, cc, nL, ret, hh) (z_rm d mc ms) mc ms Q k n G I sz pc' lv st) : z_V E l (y, cc, nL, ret, hh) (z_rm d mc ms) mc ms Q k n G I sz pc lv (.ref a :: st) := by
  subst hp
  intro p e s m args below meth c C0 H locs ls hW hS hL
  obtain ⟨hx0, hb, hr, hml, hown, hts, hlk, hnm, het, hU, ⟨hb0, hst0⟩, htr⟩ := id C0
  refine W.objInit hx0 hb hown (hts _ hl) (hts _ hi) (hts _ hco) rfl (by rw [hml]; exact hL.1) rfl hd hd1 ?_ ?_
  · show 2 * 0 + _ + 12 ≤ 38 * d
    omega
  · exact h p e s m args below meth c C0 H locs ls hW hS hL
/-- new cells -/
theorem v_new {C : String} (hd : decode cc pc = .ok (.new idx, 3)) (f : (Nat → Int32) → va_E) (hcl : Cond.classLink y.cls idx C ∈ gw) (hins : Cond.instantiable C N ∈ gw) (hini : Cond.initialized C ∈ gw) (hin : ∀ w ∈ u_ws C T N, w ∈ gw) (ty : Nat → FieldType) (hty : ∀ k, k < N → parseFieldDescriptor (T k).2.2.1 = some (ty k)) (hc : vwCl[ci]? = some (C, T, N)) (hf : f (fun _ => 0) = .inr (ci, fs)) (hfs : ∀ j, j < N → defaultValue (ty j) = vp_V fs j) (hcap : k + 1 ≤ mc ∧ n + N ≤ ms) (hp : pc + 3 = pc')
    (h : z_V E l (y, cc, nL, ret, hh) (z_rm d mc ms) mc ms Q (k + 1) (n + N) ((sz, f) :: G) (z_ne I sz) (sz + 1) pc' lv (.ref sz :: st)) : z_V E l (y, cc, nL, ret, hh) (z_rm d mc ms) mc ms Q k n G I sz pc lv st := by
  subst hp
  intro p e s m args below meth c C0 H locs ls hW hS hL
  obtain ⟨hx0, hb, hr, hml, hown, hts, hlk, hnm, het, hU, ⟨hb0, hst0⟩, htr⟩ := id C0
  have hKn := hU.1.1 ci _ hc
  refine W.newcK hx0 hb hown (hts _ hcl) (hts _ hins) (hts _ hini) rfl hd hcap.1 hcap.2 hKn.2.1 hW.1 fun H1 kC hkC e1 z1 o1 => ?_
  refine h p e s m args below meth c C0 H1 locs ls (hW.push ?_ z1 o1) ⟨Nat.le_trans hS.1 (by rw [z1, hW.1]; omega), fun q h1 h2 => (o1 q (by rw [← hW.1]; exact Nat.lt_of_lt_of_le h1 hS.1)).trans (hS.2.1 q h1 h2), hS.2.2⟩ hL
  rw [hf]
  exact ⟨_, hc, (u_born ty hts hin hKn hkC e1 hty).to hfs⟩
/-- an array class, by its name -/
theorem z_ra {s : State} {t : Nat} {ty : FieldType} (hU : z_U E s) (ht : (z_tys E)[t]? = some (E.2.1 t, ty)) (hne : ∀ C, ty ≠ .object C) {cA : ClassId} (h : s.vm.findClass ("[" ++ ty.toString) = some cA) : cA = E.2.1 t := by
  have h2 := (hU.1.2 t _ ht).2
  have h3 : s.vm.findClass ("[" ++ ty.toString) = some (E.2.1 t) := by
    cases ty with
    | object C => exact absurd rfl (hne C)
    | _ => exact h2
  exact Option.some.inj (h.symm.trans h3)
theorem v_newa {atype : ArrayType} {ty : FieldType} {z : Int32} {N1 : Nat} (t : Nat) (hd : decode cc pc = .ok (.newarray atype, 2)) (f : (Nat → Int32) → va_E) (a0 : vp_A) (hf : f (fun _ => 0) = .inl (E.2.1 t, a0)) (hty : newarray.typeOf atype = ty) (harr : Cond.arrayClass ty ∈ gw) (ht : (z_tys E)[t]? = some (E.2.1 t, ty)) (hne : ∀ C, ty ≠ .object C) (ha0 : ∀ cA : ClassId, vp_cell cA a0 = arrV cA N1 (fun _ => defaultValue ty)) (hz : ¬ z < 0) (hN : z.toNatClampNeg = N1) (hby : N1 * componentBytes ty ≤ 536870912) (hcap : k + 1 ≤ mc ∧ n + N1 ≤ ms) (hp : pc + 2 = pc')
    (h : z_V E l (y, cc, nL, ret, hh) (z_rm d mc ms) mc ms Q (k + 1) (n + N1) ((sz, f) :: G) (z_ne I sz) (sz + 1) pc' lv (.ref sz :: st)) : z_V E l (y, cc, nL, ret, hh) (z_rm d mc ms) mc ms Q k n G I sz pc lv (.int z :: st) := by
  subst hp
  subst hty
  intro p e s m args below meth c C0 H locs ls hW hS hL
  obtain ⟨hx0, hb, hr, hml, hown, hts, hlk, hnm, het, hU, ⟨hb0, hst0⟩, htr⟩ := id C0
  refine va_newaK hx0 hb (hts _ harr) rfl hd rfl hz hN hby hcap.1 hcap.2 hW.1 fun H1 cA e1 z1 o1 hAr hNm => ?_
  refine h p e s m args below meth c C0 H1 locs ls (hW.push ?_ z1 o1) ⟨Nat.le_trans hS.1 (by rw [z1, hW.1]; omega), fun q h1 h2 => (o1 q (by rw [← hW.1]; exact Nat.lt_of_lt_of_le h1 hS.1)).trans (hS.2.1 q h1 h2), hS.2.2⟩ hL
  rw [hf]
  show H1[sz]? = some (vp_cell _ _)
  rw [ha0, ← z_ra hU ht hne hNm]
  exact e1
/-- a row of references, new: all null -/
def sN (E : zE) (t len : Nat) (g : Nat → Option Nat) : (Nat → Int32) → va_E := fun _ => .inl (E.2.1 t, (len, .inr (.inr (.inr (.inr g)))))
theorem v_newq {Cn : String} {z : Int32} {N1 : Nat} (t : Nat) (hd : decode cc pc = .ok (.anewarray idx, 3)) (hcl : Cond.classLink y.cls idx Cn ∈ gw) (hAO : Cn = RX2 ∨ Cn = RX1) (ht : (z_tys E)[t]? = some (E.2.1 t, .object Cn)) (hz : ¬ z < 0) (hN : z.toNatClampNeg = N1) (hby : N1 * 4 ≤ 536870912) (hcap : k + 1 ≤ mc ∧ n + N1 ≤ ms) (hp : pc + 3 = pc')
    (h : z_V E l (y, cc, nL, ret, hh) (z_rm d mc ms) mc ms Q (k + 1) (n + N1) ((sz, sN E t N1 (fun _ => none)) :: G) (z_ne I sz) (sz + 1) pc' lv (.ref sz :: st)) : z_V E l (y, cc, nL, ret, hh) (z_rm d mc ms) mc ms Q k n G I sz pc lv (.int z :: st) := by
  subst hp
  subst hN
  intro p e s m args below meth c C0 H locs ls hW hS hL
  obtain ⟨hx0, hb, hr, hml, hown, hts, hlk, hnm, het, hU, ⟨hb0, hst0⟩, htr⟩ := id C0
  have hao : va_AO Cn s := by
    rcases hAO with rfl | rfl
    · exact hU.2.2.1.1
    · exact hU.2.2.1.2
  refine W.anew hx0 hb hown (hts _ hcl) (va_AO.use hao) rfl hd rfl hz hby hcap.1 hcap.2 fun cA kA comp f1 f2 f3 f4 => ?_
  rw [show H.size = sz from hW.1]
  generalize hH1 : H.push ({ cls := cA, slots := Array.replicate z.toNatClampNeg .null, vm := .none } : Cell) = H1
  have z1 : H1.size = sz + 1 := by rw [← hH1, Array.size_push, hW.1]
  have e1 : H1[sz]? = some (arrV cA z.toNatClampNeg (fun _ => .null)) := by rw [← hH1, ← hW.1, Array.getElem?_push_size, ← arrV_new]
  have o1 : ∀ q : Nat, q < sz → H1[q]? = H[q]? := fun q hq => by rw [← hH1, Array.getElem?_push, if_neg (by rw [hW.1]; exact Nat.ne_of_lt hq)]
  refine h p e s m args below meth c C0 H1 locs ls (hW.push ?_ z1 o1) ⟨Nat.le_trans hS.1 (by rw [z1, hW.1]; omega), fun q h1 h2 => (o1 q (by rw [← hW.1]; exact Nat.lt_of_lt_of_le h1 hS.1)).trans (hS.2.1 q h1 h2), hS.2.2⟩ hL
  obtain ⟨kA9, comp9, g1, g2, g3, g4⟩ := (hU.1.2 t _ ht).2
  have hcA : cA = E.2.1 t := Option.some.inj (f1.symm.trans g4)
  show H1[sz]? = some (vp_cell _ _)
  rw [← hcA, vp_cell_q]
  exact e1
end ZCALL
end
section
/-! THROWS, their catching, statics, fields that a constructor sets once, stores into rows of references; and what the tables say, counted out -/
/-- q of class X is thrown in the method at pc -/
def z_VX (E : zE) (l : Launch) (M : zM) (R : Room) (mc ms : Nat) (Q : zQ) (k n : Nat) (G : zG) (I : zI) (sz : Nat) (X : String) (pc : Nat) (lv : List (Option Value)) (st : List Value) : Prop :=
  ∀ (p : Program) (e : Env) (s : State) (m : MethodId) (args : Array Value) (below : List Frame) (meth : Method) (c : Code), z_C E M p l s m args meth c →
  ∀ (H : Heap) (locs : List Loc) (ls : Array Slot) (q : Addr) (ce : Cell), z_W E G I sz H → va_S (z_A E) s.heap H locs → z_L ls M.2.2.1 lv → H[q]? = some ce → ce.vm = .none → s.vm.findClass X = some ce.cls →
    vx_W p l e R s m args below meth c H locs k n (vx_MQ below (z_Qc E Q) (z_Xc E Q) args s mc ms (z_A E)) (F0 m pc ls st) q
section ZTHROW
variable {E : zE} {l : Launch} {y : MethodName} {cc : ByteArray} {nL : Nat} {ret : Option FieldType} {hh : List (Nat × Nat × Nat × Nat)} {d mc ms : Nat} {Q : zQ} {k n : Nat} {G : zG} {I : zI} {sz pc pc' : Nat} {lv : List (Option Value)} {st : List Value} {av : List Value} {R : Room}
variable {y1 : MethodName} {cc1 : ByteArray} {nL1 : Nat} {ret1 : Option FieldType} {hh1 : List (Nat × Nat × Nat × Nat)} {d1 mc1 ms1 na idx b ci N : Nat} {As stk : List Value} {f : (Nat → Int32) → va_E} {T : u_T} {fs : List Value}
theorem v_catch {X : String} (pre : List ExceptionTableEntry) (x : ExceptionTableEntry) (suf : List ExceptionTableEntry) (hsplit : tableOf hh = pre ++ x :: suf) (hpass : ∀ z ∈ pre, covers z pc = false ∨ (z.catchType ≠ 0 ∧ ∃ nm : String, Cond.classLink y.cls z.catchType nm ∈ gw ∧ (X, nm) ∈ z_ncs)) (hcov : covers x pc = true) (h0 : x.catchType ≠ 0) (hlk : Cond.classLink y.cls x.catchType X ∈ gw) (hcast : Cond.castable X X ∈ z_nst)
    (h : ∀ q : Nat, z_V E l (y, cc, nL, ret, hh) R mc ms Q k n G I sz x.handlerPc lv [.ref q]) : z_VX E l (y, cc, nL, ret, hh) R mc ms Q k n G I sz X pc lv st := by
  intro p e s m args below meth c C0 H locs ls q ce hW hS hL hce hcv hcl
  obtain ⟨hx0, hb, hr, hml, hown, hts, hlk0, hnm, het, hU, ⟨hb0, hst0⟩, htr⟩ := id C0
  exact vx_catch hown pre x suf (het.trans hsplit) (fun z hz => (hpass z hz).elim Or.inl (fun ⟨g1, nm, g2, g3⟩ => Or.inr ⟨g1, nm, hts _ g2, hU.2.2.2 _ g3⟩)) hcov h0 (hts _ hlk) (va_Nw.use (z_nw_ont hcast) (hU.2.1 _ hcast)) hce hcv hcl (h q p e s m args below meth c C0 H locs ls hW hS hL)
theorem v_callVX {Q1 : zQ} (hC : z_Cx E l (y1, cc1, nL1, ret1, hh1) d1 mc1 ms1 (.ref b :: As) G I sz Q1) (hd : decode cc pc = .ok (.invokevirtual idx, 3)) (hl : Cond.methodLink y.cls idx y1 ∈ gw) (hm : z_mw y1 cc1 nL1 ret1 na) (hi : z_mi y1) (hx : (b, f) ∈ G) (hf : f (I b) = .inr (ci, fs)) (hc : vwCl[ci]? = some (y1.cls, T, N))
    (hst : stk = As.reverse ++ .ref b :: st) (hna : As.length = na) (hd1 : d1 + 1 ≤ d) (hcap : k + mc1 ≤ mc ∧ n + ms1 ≤ ms) (hcat : (st.map fun v => v.category).sum ≤ 8) (hp : pc + 3 = pc')
    (h : ∀ v G' I' sz', Q1 (.inl v) G' I' sz' → z_V E l (y, cc, nL, ret, hh) (z_rm d mc ms) mc ms Q (k + mc1) (n + ms1) G' I' sz' pc' lv (v.toList ++ st))
    (hX : ∀ X G' I' sz', Q1 (.inr X) G' I' sz' → z_VX E l (y, cc, nL, ret, hh) (z_rm d mc ms) mc ms Q (k + mc1) (n + ms1) G' I' sz' X pc lv st) : z_V E l (y, cc, nL, ret, hh) (z_rm d mc ms) mc ms Q k n G I sz pc lv stk := by
  subst hp
  intro p e s m args below meth c C0 H locs ls hW hS hL
  obtain ⟨hx0, hb, hr, hml, hown, hts, hlk, hnm, het, hU, ⟨hb0, hst0⟩, htr⟩ := id C0
  obtain ⟨hm1, hm2, hm3, hm4⟩ := hm
  have hGI : GoodIn gw (wsV y.cls idx y1.cls y1 (z_cw (y1, cc1, nL1, ret1, hh1) :: gw)) := fun w hw => by
    rcases List.mem_append.mp hw with hw | hw
    · simp only [List.mem_cons, List.not_mem_nil, or_false] at hw
      rcases hw with rfl | rfl | rfl | rfl
      · exact gw_good _ hl
      · exact gw_good _ hi.1
      · exact gw_good _ hi.2
      · exact gw_good _ hm1
    · exact gw_cons hm2 w hw
  have hr9 := vx_runV (below := below) (meth := meth) (R := z_rm d mc ms) (cells := k) (slots := n) (locs := locs) (e := e) (As := As) (rest := st) (g := F0 m pc ls stk) ⟨hx0, hb, hml, hown, hts⟩ hC (cwV (R := z_rm d mc ms) (own := y.cls) (C := y1.cls) (index := idx) na hts hGI rfl rfl rfl ⟨rfl, hm3⟩ (z_room hd1 hm4)) ⟨z_Pc_blind, va_recv hU.1 (z_P1 hW hx hf) (q0 := 0) hc rfl, z_pre hU hb0 hst0 hW hS _⟩ rfl hna hL.1 hst (z_cat hcat) hd hcap
  intro T0 hT X
  rcases hr9 T0 hT X with ⟨v, st₀, t, T', L, h0, X', hL9, e1, e2, ⟨⟨v', G', I', sz', hv, hq, hw⟩, hF⟩, stp⟩ | ⟨q, st₀, t, T', L, E9, ce, h0, X', hL9, e1, e2, ⟨⟨G', I', sz', hq, hw⟩, hF⟩, hce, hcv, hcl, stp⟩
  · cases hv
    obtain ⟨k1, k2, k3⟩ := vx_keep h0 e1 hS (fun q _ h => h) (fun q h => h) hL9 hF
    obtain ⟨t2, a1, b1⟩ := h v G' I' sz' hq p e s m args below meth c C0 T'.heap (locs ++ L) ls (by rw [e1]; exact hw) k3 hL T' rfl X'
    exact ⟨t2, stp t2 a1, b1⟩
  · obtain ⟨k1, k2, k3⟩ := vx_keep h0 e1 hS (fun q _ h => h) (fun q h => h) hL9 hF
    obtain ⟨t2, a1, b1⟩ := hX E9 G' I' sz' hq p e s m args below meth c C0 T'.heap (locs ++ L) ls q ce (by rw [e1]; exact hw) k3 hL (by rw [e1]; exact hce) hcv hcl T' rfl X'
    exact ⟨t2, stp.trans a1, b1⟩
/-- a static method with handlers of its own -/
theorem v_callSW {Q1 : Option Value → zG → zI → Nat → Prop} (hC : z_Cw E l (y1, cc1, nL1, ret1, hh1) d1 mc1 ms1 As G I sz Q1) (hd : decode cc pc = .ok (.invokestatic idx, 3)) (hl : Cond.methodLink y.cls idx y1 ∈ gw) (hini : Cond.initialized y1.cls ∈ gw) (hco : Cond.codeWith y1 cc1 nL1 ret1 hh1 ∈ gw) (hm : (y1.cls ≠ "java/lang/invoke/MethodHandle" ∧ y1.cls ≠ "java/lang/invoke/VarHandle" ∧ (parseMethodDescriptor y1.desc).map (fun d => d.parameters.length) = some na) ∧ nL1 ≤ 19) (hi : Cond.static y1 ∈ gw)
    (hst : stk = As.reverse ++ st) (hna : As.length = na) (hd1 : d1 + 1 ≤ d) (hcap : k + mc1 ≤ mc ∧ n + ms1 ≤ ms) (hcat : (st.map fun v => v.category).sum ≤ 8) (hp : pc + 3 = pc')
    (h : ∀ v G' I' sz', Q1 v G' I' sz' → z_V E l (y, cc, nL, ret, hh) (z_rm d mc ms) mc ms Q (k + mc1) (n + ms1) G' I' sz' pc' lv (v.toList ++ st)) : z_V E l (y, cc, nL, ret, hh) (z_rm d mc ms) mc ms Q k n G I sz pc lv stk := by
  subst hp
  intro p e s m args below meth c C0 H locs ls hW hS hL
  obtain ⟨hx0, hb, hr, hml, hown, hts, hlk, hnm, het, hU, ⟨hb0, hst0⟩, htr⟩ := id C0
  have hGI : GoodIn gw (va_wsS y.cls idx y1 (z_cwW (y1, cc1, nL1, ret1, hh1) :: gw)) := fun w hw => by
    rcases List.mem_append.mp hw with hw | hw
    · simp only [List.mem_cons, List.not_mem_nil, or_false] at hw
      rcases hw with rfl | rfl | rfl
      · exact gw_good _ hl
      · exact gw_good _ hi
      · exact gw_good _ hini
    · exact gw_cons hco w hw
  refine z_run (vx_runSW (As := As) (rest := st) (g := F0 m pc ls stk) ⟨hx0, hb, hml, hown, hts⟩ hC (vx_cwSW (R := z_rm d mc ms) (own := y.cls) (index := idx) na hts hGI rfl rfl rfl hm.1 (z_room hd1 hm.2)) ⟨z_Pc_blind, z_pre hU hb0 hst0 hW hS _⟩ rfl hna hL.1 hst (z_cat hcat) hd hcap) hS ?_
  exact fun v G' I' sz' H1 locs1 hq hw hs => h v G' I' sz' hq p e s m args below meth c C0 H1 locs1 ls hw hs hL
/-- 'throw new X()' -/
theorem v_throw0 {X : String} {names : List String} {ik ic : Nat} (hd : decode cc pc = .ok (.new ik, 3)) (d3 : decode cc (pc + 3) = .ok (.dup, 1)) (d4 : decode cc (pc + 4) = .ok (.invokespecial ic, 3)) (d7 : decode cc (pc + 7) = .ok (.athrow, 1)) (hcls : Bundle.fit X = true) (hnames : ∀ z ∈ names, Bundle.fit z = true) (hk9 : Cond.classLink y.cls ik X ∈ gw) (hini : Cond.initialized X ∈ gw) (hat : ∀ w ∈ vx_at0 y.cls ic X names, w ∈ gw ∨ w ∈ z_nst) (hgood : ∀ w ∈ Cond.classLink y.cls ik X :: Cond.initialized X :: vx_at0 y.cls ic X names, vx_ot w = true)
    (hh0 : hh = []) (hfr : names.length + 3 < d) (hlo : (st.map fun v => v.category).sum + (13 * (names.length + 1) + 42) ≤ 38 * d) (hcap : k + 1 ≤ mc ∧ n + 6 ≤ ms) (hQ : ∀ sz', sz ≤ sz' → Q (.inr X) G I sz') : z_V E l (y, cc, nL, ret, hh) (z_rm d mc ms) mc ms Q k n G I sz pc lv st := by
  intro p e s m args below meth c C0 H locs ls hW hS hL
  obtain ⟨hx0, hb, hr, hml, hown, hts, hlk, hnm, het, hU, ⟨hb0, hst0⟩, htr⟩ := id C0
  subst hh0
  have hw9 : ∀ w ∈ vx_at0 y.cls ic X names, w.before args s = true := fun w hw => (hat w hw).elim (hts w) (fun g => va_Nw.use (z_nw_ont g) (hU.2.1 w g))
  refine vx_throw0 (R := z_rm d mc ms) hx0 hb htr hown hcls hnames (hts _ hk9) (hts _ hini) hw9 hgood hst0.2.2.2.1 hst0.2.2.2.2.1 hS (hL.1.trans hml.symm) hd d3 d4 d7 (fun x hx => by rw [het] at hx; cases hx) hfr hlo hcap.1 hcap.2 hlk ?_ hS.2.2 hcap.1 hcap.2
  intro t ht h1 h2
  refine ⟨⟨G, I, t.heap.size, hQ _ (by rw [← hW.1]; exact h1), rfl, Nat.le_trans hW.2.1 (by rw [← hW.1]; exact h1), fun x hx => ⟨(hW.2.2.1 x hx).1.kept (h2 _ (hW.2.2.1 x hx).1.lt), (hW.2.2.1 x hx).2⟩, hW.2.2.2⟩, Nat.le_trans hS.1 h1, fun q g1 g2 => (h2 q (Nat.lt_of_lt_of_le g1 hS.1)).trans (hS.2.1 q g1 g2)⟩
/-- statics -/
theorem v_gets {nm : String} {a : Nat} {g : Nat → Int32} (hd : decode cc pc = .ok (.getstatic idx, 3)) (hl : Cond.fieldLink y.cls idx "StripeTasks" nm "[I" ∈ gw) (hz : ∀ U H, z_St E U H → z_sa nm a g E U H) (hp : pc + 3 = pc')
    (h : z_V E l (y, cc, nL, ret, hh) R mc ms Q k n G I sz pc' lv (.ref a :: st)) : z_V E l (y, cc, nL, ret, hh) R mc ms Q k n G I sz pc lv st := by
  subst hp
  intro p e s m args below meth c C0 H locs ls hW hS hL
  obtain ⟨hx0, hb, hr, hml, hown, hts, hlk, hnm, het, hU, ⟨hb0, hst0⟩, htr⟩ := id C0
  exact va_gets hx0 hb (hz _ _ hst0).1 hS hown (hts _ hl) (fun _ h9 => h9) hd (h p e s m args below meth c C0 H locs ls hW hS hL)
theorem v_getsN {nm host : String} {a : Nat} {g : Nat → Int32} (hd : decode cc pc = .ok (.getstatic idx, 3)) (hl : Cond.fieldLinkNest y.cls idx "StripeTasks" nm "[I" host ∈ z_nst) (hz : ∀ U H, z_St E U H → z_sa nm a g E U H) (hp : pc + 3 = pc')
    (h : z_V E l (y, cc, nL, ret, hh) R mc ms Q k n G I sz pc' lv (.ref a :: st)) : z_V E l (y, cc, nL, ret, hh) R mc ms Q k n G I sz pc lv st := by
  subst hp
  intro p e s m args below meth c C0 H locs ls hW hS hL
  obtain ⟨hx0, hb, hr, hml, hown, hts, hlk, hnm, het, hU, ⟨hb0, hst0⟩, htr⟩ := id C0
  exact va_getsN hx0 hb (hz _ _ hst0).1 hS hown (va_Nw.use (z_nw_ont hl) (hU.2.1 _ hl)) (fun _ h9 => h9) hd (h p e s m args below meth c C0 H locs ls hW hS hL)
theorem v_sald {nm : String} {a j : Nat} {i : Int32} {g : Nat → Int32} (hd : decode cc pc = .ok (.iaload, 1)) (hz : ∀ U H, z_St E U H → z_sa nm a g E U H) (hi : i = nI j) (hj : j < 3) (hp : pc + 1 = pc')
    (h : z_V E l (y, cc, nL, ret, hh) R mc ms Q k n G I sz pc' lv (.int (g j) :: st)) : z_V E l (y, cc, nL, ret, hh) R mc ms Q k n G I sz pc lv (.int i :: .ref a :: st) := by
  subst hp
  intro p e s m args below meth c C0 H locs ls hW hS hL
  obtain ⟨hx0, hb, hr, hml, hown, hts, hlk, hnm, het, hU, ⟨hb0, hst0⟩, htr⟩ := id C0
  have hq := z_idx hi hj (by decide : 3 < 2 ^ 31)
  exact va_ti hx0 hb (hz _ _ hst0).2 hS hq.1 (by rw [hq.2]) hd (h p e s m args below meth c C0 H locs ls hW hS hL)
/-- the script that the law reads -/
theorem v_slen (hd : decode cc pc = .ok (.arraylength, 1)) (hp : pc + 1 = pc') (h : z_V E l (y, cc, nL, ret, hh) R mc ms Q k n G I sz pc' lv (.int (nI E.2.2.2.2.2.1) :: st)) : z_V E l (y, cc, nL, ret, hh) R mc ms Q k n G I sz pc lv (.ref E.2.2.2.2.1 :: st) := by
  subst hp
  intro p e s m args below meth c C0 H locs ls hW hS hL
  obtain ⟨hx0, hb, hr, hml, hown, hts, hlk, hnm, het, hU, ⟨hb0, hst0⟩, htr⟩ := id C0
  obtain ⟨g1, g2⟩ := hst0.2.2.2.2.2
  have hl : E.2.2.2.2.1 < s.heap.size := by
    obtain ⟨scr, e1, -⟩ := g1
    exact (Array.getElem?_eq_some_iff.mp e1).1
  exact va_slen hx0 hb g1 hl g2 hS hd (h p e s m args below meth c C0 H locs ls hW hS hL)
theorem v_sld {j : Nat} {i : Int32} (hd : decode cc pc = .ok (.iaload, 1)) (hi : i = nI j) (hj : j < E.2.2.2.2.2.1) (hN : E.2.2.2.2.2.1 < 2 ^ 31) (hp : pc + 1 = pc') (h : z_V E l (y, cc, nL, ret, hh) R mc ms Q k n G I sz pc' lv (.int (E.2.2.2.2.2.2 j) :: st)) : z_V E l (y, cc, nL, ret, hh) R mc ms Q k n G I sz pc lv (.int i :: .ref E.2.2.2.2.1 :: st) := by
  subst hp
  intro p e s m args below meth c C0 H locs ls hW hS hL
  obtain ⟨hx0, hb, hr, hml, hown, hts, hlk, hnm, het, hU, ⟨hb0, hst0⟩, htr⟩ := id C0
  obtain ⟨g1, g2⟩ := hst0.2.2.2.2.2
  have hl : E.2.2.2.2.1 < s.heap.size := by
    obtain ⟨scr, e1, -⟩ := g1
    exact (Array.getElem?_eq_some_iff.mp e1).1
  have hq := z_idx hi hj hN
  refine va_sld hx0 hb g1 hl g2 hS hq.1 hd ?_
  rw [hq.2]
  exact h p e s m args below meth c C0 H locs ls hW hS hL
/-- a constructor sets a final field: the cell is told anew -/
theorem v_putF {pre suf : zG} {a kf : Nat} {f f' : (Nat → Int32) → va_E} {C : String} {x : Value} {ty : FieldType} (hd : decode cc pc = .ok (.putfield idx, 3)) (hf : f (I a) = .inr (ci, fs)) (hc : vwCl[ci]? = some (C, T, N)) (hin : ∀ w ∈ u_ws C T N, w ∈ gw) (ty0 : Nat → FieldType) (hty : ∀ k, k < N → parseFieldDescriptor (T k).2.2.1 = some (ty0 k)) (hnm9 : ∀ a, a < N → ∀ b, b < N → a ≠ b → (T a).2.1 ≠ (T b).2.1) (hk : kf < N) (hl : Cond.fieldLink y.cls idx (T kf).1 (T kf).2.1 (T kf).2.2.1 ∈ gw) (hfin : (T kf).2.2.2 = true) (hin2 : y.name = "<init>") (hdecl : (T kf).1 = y.cls)
    (hdsc : parseFieldDescriptor (T kf).2.2.1 = some ty) (hn : narrow ty x = x) (hfit : fits ty x = true) (hlen : kf < fs.length) (hf' : f' (I a) = .inr (ci, fs.set kf x)) (hp : pc + 3 = pc')
    (h : z_V E l (y, cc, nL, ret, hh) R mc ms Q k n (pre ++ (a, f') :: suf) I sz pc' lv st) : z_V E l (y, cc, nL, ret, hh) R mc ms Q k n (pre ++ (a, f) :: suf) I sz pc lv (x :: .ref a :: st) := by
  subst hp
  intro p e s m args below meth c C0 H locs ls hW hS hL
  obtain ⟨hx0, hb, hr, hml, hown, hts, hlk, hnm, het, hU, hb0, hst0⟩ := id C0
  have hx : (a, f) ∈ pre ++ (a, f) :: suf := by simp
  have hap := va_apart (own := y.cls) hts hin ty0 hty hnm9 hU.1 hc
  have hA := hW.2.2.1 _ hx
  obtain ⟨r, h1, cell, q1, q2, q3, q4⟩ := z_P1 hW hx hf 0 _ rfl
  have hr : r = (C, T, N) := Option.some.inj (h1.symm.trans hc)
  subst hr
  obtain ⟨hSl, hfc, kC, hkC, hkind⟩ := hU.1.1 ci _ hc
  obtain ⟨cf, kf9, fi, fl, hi, hsl⟩ := hSl kf hk
  have hlay := hts _ (hin _ (u_in_lay hk))
  unfold u_lay at hlay
  rw [if_pos hfin] at hlay
  have hst := (u_facts hfc hkC (u_lays hts hin hk) hi).1
  have hcf : m.cls = cf := by
    obtain ⟨_, _, c', _, _, _, -, -, hf9, -, -, -, hown2, -⟩ := Cond.laysFinal_spec hlay
    have e1 : c' = cf := by have := hi.symm.trans hf9; simp at this; exact this.1.symm
    rw [hdecl] at hown2
    rw [← e1]; exact Option.some.inj (hown.symm.trans hown2)
  have h6 := u_fits hfc hkC hkind (Or.inr hlay) hi hdsc hn hfit
  refine W.putFinK hx0 hb hown (hts _ hl) hi hst hcf (hnm.trans hin2) (by rw [q2]; exact h6) q1 q3 (by rw [hsl]; exact k2_hasslot (q4 kf hk)) rfl rfl hd fun H' e1 e2 e3 => ?_
  rw [hsl] at e1 ⊢
  refine h p e s m args below meth c C0 H' _ ls (hW.putG ?_ (fun _ _ => rfl) e2 e3) (hS.put e2 e3 hA.2) hL
  rw [hf']
  exact ⟨_, hc, t_OB.to (V := updV (vp_V fs) kf x) ⟨_, e1, q2, q3, t_set q4 hap hk x⟩ (fun j _ => vp_updV_set hlen x j)⟩
theorem v_aast {pre suf : zG} {a v t j N1 : Nat} {i : Int32} {g : Nat → Option Nat} {fv : (Nat → Int32) → va_E} {r : vw_C} {vs : List Value} (hd : decode cc pc = .ok (.aastore, 1)) (ht : (z_tys E)[t]? = some (E.2.1 t, .object r.1)) (hi : i = nI j) (hj : j < N1) (hN : N1 < 2 ^ 31) (hv : (v, fv) ∈ pre ++ (a, sN E t N1 g) :: suf) (hfv : fv (I v) = .inr (ci, vs)) (hc : vwCl[ci]? = some r) (hp : pc + 1 = pc')
    (h : z_V E l (y, cc, nL, ret, hh) R mc ms Q k n (pre ++ (a, sN E t N1 (va_up g j (some v))) :: suf) I sz pc' lv st) : z_V E l (y, cc, nL, ret, hh) R mc ms Q k n (pre ++ (a, sN E t N1 g) :: suf) I sz pc lv (.ref v :: .int i :: .ref a :: st) := by
  subst hp
  intro p e s m args below meth c C0 H locs ls hW hS hL
  obtain ⟨hx0, hb, hr, hml, hown, hts, hlk, hnm, het, hU, hb0, hst0⟩ := id C0
  have hx : (a, sN E t N1 g) ∈ pre ++ (a, sN E t N1 g) :: suf := by simp
  have hq := z_idx hi hj hN
  have hP := z_P1 hW hx rfl
  obtain ⟨r', hr', cellV, g1, g2, g3, -⟩ := z_P1 hW hv hfv 0 _ rfl
  have hcls := (hU.1.1 ci r hc).2
  obtain ⟨kA, comp, k1, k2, k3, -⟩ := (hU.1.2 t _ ht).2
  have hcomp : comp = E.1.1 ci := Option.some.inj (k3.symm.trans hcls.1)
  subst hcomp
  obtain ⟨kC, hkC, -⟩ := hcls.2
  refine W.aast hx0 hb (hP 0 _ rfl) (fun q h => by cases h) (fun h => by cases h) k1 k2 rfl hkC ⟨fun q => hq.1 (Or.inl q), by show _ < (arrV _ _ _).slots.size; rw [arrV_size, hq.2]; exact hj⟩ g1 (fun q h => by rw [g3] at h; cases h) (by rw [g2]; exact hkC) (by rw [g2]; exact va_assign hcls) rfl rfl hd fun H1 e1 z oq => ?_
  rw [hq.2] at e1 ⊢
  refine h p e s m args below meth c C0 H1 _ ls (hW.putG ?_ (fun _ _ => rfl) z oq) (hS.put z oq (hW.2.2.1 _ hx).2) hL
  show H1[a]? = some (vp_cell _ _)
  rw [e1]
  rw [vp_cell_q, vp_cell_q, arrV_store]
  congr 2
  funext q
  by_cases hq : q = j
  · subst hq
    simp [updV, va_up, va_rf]
  · simp [updV, va_up, hq]
end ZTHROW
end
section
/-! WHAT THE TABLES SAY, by place; the shapes of the cells; a row of the judgement a field (written by wip/whole/mk_words.py) -/
theorem gw_list (ws : List Cond) (ps : List Nat) (h : ps.map (fun i => lw_tbl[i]?) = ws.map some) (g : ws.all goodWord = true) : ∀ w ∈ ws, w ∈ gw := by
  intro w hw
  refine List.mem_filter.mpr ⟨?_, List.all_eq_true.mp g w hw⟩
  have h1 : some w ∈ ps.map (fun i => lw_tbl[i]?) := by rw [h]; exact List.mem_map.mpr ⟨w, hw, rfl⟩
  obtain ⟨i, -, hi⟩ := List.mem_map.mp h1
  exact List.mem_of_getElem? hi
def z_b (c : Bool) : Int32 := if c then 1 else 0
theorem z_b_nar (c : Bool) : narrow .boolean (.int (z_b c)) = .int (z_b c) := by cases c <;> rfl
theorem ac_int : Cond.arrayClass .int ∈ gw := gw_at 113 (by decide +kernel) rfl
theorem ac_boolean : Cond.arrayClass .boolean ∈ gw := gw_at 112 (by decide +kernel) rfl
theorem ac_char : Cond.arrayClass .char ∈ gw := gw_at 65 (by decide +kernel) rfl
theorem ac_long : Cond.arrayClass .long ∈ gw := gw_at 1042 (by decide +kernel) rfl
theorem ini_X0 : Cond.initialized RX0 ∈ gw := gw_at 17 (by decide +kernel) rfl
theorem ins_X0 : Cond.instantiable RX0 3 ∈ gw := gw_at 168 (by decide +kernel) rfl
theorem ini_X1 : Cond.initialized RX1 ∈ gw := gw_at 15 (by decide +kernel) rfl
theorem ins_X1 : Cond.instantiable RX1 11 ∈ gw := gw_at 67 (by decide +kernel) rfl
theorem ini_X2 : Cond.initialized RX2 ∈ gw := gw_at 16 (by decide +kernel) rfl
theorem ins_X2 : Cond.instantiable RX2 7 ∈ gw := gw_at 74 (by decide +kernel) rfl
theorem ini_X3 : Cond.initialized RX3 ∈ gw := gw_at 14 (by decide +kernel) rfl
theorem ins_X3 : Cond.instantiable RX3 7 ∈ gw := gw_at 35 (by decide +kernel) rfl
theorem ini_X4 : Cond.initialized RX4 ∈ gw := gw_at 13 (by decide +kernel) rfl
theorem ins_X4 : Cond.instantiable RX4 6 ∈ gw := gw_at 27 (by decide +kernel) rfl
theorem ini_X5 : Cond.initialized RX5 ∈ gw := gw_at 18 (by decide +kernel) rfl
theorem ins_X5 : Cond.instantiable RX5 11 ∈ gw := gw_at 759 (by decide +kernel) rfl
theorem ini_L : Cond.initialized RL ∈ gw := gw_at 12 (by decide +kernel) rfl
theorem ini_IAE : Cond.initialized "java/lang/IllegalArgumentException" ∈ gw := gw_at 22 (by decide +kernel) rfl
theorem cst_IAE : Cond.castable "java/lang/IllegalArgumentException" "java/lang/IllegalArgumentException" ∈ z_nst := z_nst_at 277 (by decide +kernel) rfl
theorem ini_ISE : Cond.initialized "java/lang/IllegalStateException" ∈ gw := gw_at 23 (by decide +kernel) rfl
theorem cst_ISE : Cond.castable "java/lang/IllegalStateException" "java/lang/IllegalStateException" ∈ z_nst := z_nst_at 344 (by decide +kernel) rfl
theorem ini_IOOBE : Cond.initialized "java/lang/IndexOutOfBoundsException" ∈ gw := gw_at 25 (by decide +kernel) rfl
theorem cst_IOOBE : Cond.castable "java/lang/IndexOutOfBoundsException" "java/lang/IndexOutOfBoundsException" ∈ z_nst := z_nst_at 528 (by decide +kernel) rfl
theorem cl_L_8 : Cond.classLink RL 8 RX4 ∈ gw := gw_at 26 (by decide +kernel) rfl
theorem cl_X4_7 : Cond.classLink RX4 7 RX3 ∈ gw := gw_at 34 (by decide +kernel) rfl
theorem cl_X4_16 : Cond.classLink RX4 16 RX1 ∈ gw := gw_at 66 (by decide +kernel) rfl
theorem cl_X1_9 : Cond.classLink RX1 9 RX2 ∈ gw := gw_at 72 (by decide +kernel) rfl
theorem cl_X4_26 : Cond.classLink RX4 26 RX0 ∈ gw := gw_at 167 (by decide +kernel) rfl
theorem cl_X0_9 : Cond.classLink RX0 9 RX1 ∈ gw := gw_at 173 (by decide +kernel) rfl
theorem cl_L_13 : Cond.classLink RL 13 "java/lang/IllegalArgumentException" ∈ gw := gw_at 268 (by decide +kernel) rfl
theorem cl_L_15 : Cond.classLink RL 15 "java/lang/IllegalStateException" ∈ gw := gw_at 269 (by decide +kernel) rfl
theorem cl_X4_45 : Cond.classLink RX4 45 "java/lang/IllegalArgumentException" ∈ gw := gw_at 275 (by decide +kernel) rfl
theorem cl_X4_52 : Cond.classLink RX4 52 "java/lang/IllegalStateException" ∈ gw := gw_at 342 (by decide +kernel) rfl
theorem cl_L_28 : Cond.classLink RL 28 "java/lang/IndexOutOfBoundsException" ∈ gw := gw_at 520 (by decide +kernel) rfl
theorem cl_X4_123 : Cond.classLink RX4 123 "java/lang/IndexOutOfBoundsException" ∈ gw := gw_at 526 (by decide +kernel) rfl
theorem cn_X4_260 : Cond.constantLong RX4 260 (100000) ∈ gw := gw_at 720 (by decide +kernel) rfl
theorem cn_X4_266 : Cond.constantLong RX4 266 (6364136223846793005) ∈ gw := gw_at 736 (by decide +kernel) rfl
theorem cn_X4_268 : Cond.constantLong RX4 268 (1442695040888963407) ∈ gw := gw_at 737 (by decide +kernel) rfl
theorem cl_L_91 : Cond.classLink RL 91 RX5 ∈ gw := gw_at 758 (by decide +kernel) rfl
theorem cn_X5_94 : Cond.constantLong RX5 94 (255) ∈ gw := gw_at 809 (by decide +kernel) rfl
theorem cn_X5_88 : Cond.constantLong RX5 88 (9) ∈ gw := gw_at 837 (by decide +kernel) rfl
theorem cn_X5_41 : Cond.constantLong RX5 41 (11) ∈ gw := gw_at 857 (by decide +kernel) rfl
theorem cn_X5_155 : Cond.constantLong RX5 155 (8) ∈ gw := gw_at 914 (by decide +kernel) rfl
theorem cn_X5_163 : Cond.constantLong RX5 163 (5) ∈ gw := gw_at 928 (by decide +kernel) rfl
theorem cn_X5_165 : Cond.constantLong RX5 165 (2) ∈ gw := gw_at 933 (by decide +kernel) rfl
theorem cn_X5_167 : Cond.constantLong RX5 167 (6) ∈ gw := gw_at 946 (by decide +kernel) rfl
theorem cn_X5_169 : Cond.constantLong RX5 169 (996) ∈ gw := gw_at 947 (by decide +kernel) rfl
theorem cn_X5_174 : Cond.constantLong RX5 174 (60) ∈ gw := gw_at 972 (by decide +kernel) rfl
theorem cn_X5_90 : Cond.constantLong RX5 90 (20) ∈ gw := gw_at 980 (by decide +kernel) rfl
theorem cn_X5_92 : Cond.constantLong RX5 92 (99) ∈ gw := gw_at 981 (by decide +kernel) rfl
theorem cn_X5_180 : Cond.constantLong RX5 180 (12) ∈ gw := gw_at 994 (by decide +kernel) rfl
theorem cn_X5_188 : Cond.constantLong RX5 188 (200) ∈ gw := gw_at 1009 (by decide +kernel) rfl
theorem cn_X5_190 : Cond.constantLong RX5 190 (100000) ∈ gw := gw_at 1018 (by decide +kernel) rfl
theorem cn_X5_192 : Cond.constantLong RX5 192 (3) ∈ gw := gw_at 1019 (by decide +kernel) rfl
theorem cn_X5_197 : Cond.constantLong RX5 197 (6364136223846793005) ∈ gw := gw_at 1028 (by decide +kernel) rfl
theorem cn_X5_199 : Cond.constantLong RX5 199 (1442695040888963407) ∈ gw := gw_at 1029 (by decide +kernel) rfl
theorem cn_L_172 : Cond.constantLong RL 172 (4294967295) ∈ gw := gw_at 1041 (by decide +kernel) rfl
theorem oi_i : Cond.instanceMethod Lib.objectInit ∈ gw := gw_at 32 (by decide +kernel) rfl
theorem oi_c : Cond.code Lib.objectInit ⟨#[0xb1]⟩ 1 none ∈ gw := gw_at 33 (by decide +kernel) rfl
theorem in_X0 : ∀ w ∈ u_ws RX0 TX0 3, w ∈ gw := gw_list _ [180, 182, 184] (by decide +kernel) (by decide +kernel)
theorem in_X1 : ∀ w ∈ u_ws RX1 TX1 11, w ∈ gw := gw_list _ [144, 146, 148, 150, 152, 154, 156, 158, 160, 162, 164] (by decide +kernel) (by decide +kernel)
theorem in_X2 : ∀ w ∈ u_ws RX2 TX2 7, w ∈ gw := gw_list _ [97, 99, 101, 103, 105, 107, 109] (by decide +kernel) (by decide +kernel)
theorem in_X3 : ∀ w ∈ u_ws RX3 TX3 7, w ∈ gw := gw_list _ [50, 52, 54, 56, 58, 60, 62] (by decide +kernel) (by decide +kernel)
theorem in_X4 : ∀ w ∈ u_ws RX4 TX4 6, w ∈ gw := gw_list _ [193, 195, 197, 199, 201, 203] (by decide +kernel) (by decide +kernel)
theorem in_X5 : ∀ w ∈ u_ws RX5 TX5 11, w ∈ gw := gw_list _ [778, 780, 782, 784, 786, 788, 790, 792, 794, 796, 798] (by decide +kernel) (by decide +kernel)
def sHi (a : Nat) : (Nat → Int32) → va_E := fun i => .inr (0, [.ref (a + 1), .int (i 1), .int (i 2)])
def sHi0 : (Nat → Int32) → va_E := fun i => .inr (0, [.null, .int (i 1), .int (i 2)])
def sSt (a : Nat) : (Nat → Int32) → va_E := fun i => .inr (1, [.ref (a + 1), .ref (a + 2), .ref (a + 3), .int (i 3), .int (i 4), .int (i 5), .int (i 6), .int (i 7), .int (i 8), .int (i 9), .int (i 10)])
def sSt0 : (Nat → Int32) → va_E := fun i => .inr (1, [.null, .null, .null, .int (i 3), .int (i 4), .int (i 5), .int (i 6), .int (i 7), .int (i 8), .int (i 9), .int (i 10)])
def sTk : (Nat → Int32) → va_E := fun i => .inr (2, [.int (i 0), .int (i 1), .int (i 2), .int (i 3), .int (i 4), .int (i 5), .int (i 6)])
def sTx (a : Nat) : (Nat → Int32) → va_E := fun i => .inr (3, [.ref (a + 1), .int (i 1), .int (i 2), .int (i 3), .int (i 4), .int (i 5), .int (i 6)])
def sTx0 : (Nat → Int32) → va_E := fun i => .inr (3, [.null, .int (i 1), .int (i 2), .int (i 3), .int (i 4), .int (i 5), .int (i 6)])
def sSk (a : Nat) : (Nat → Int32) → va_E := fun _ => .inr (4, [.ref (a + 1), .ref (a + 3), .ref (a + 13), .ref (a + 23), .ref (a + 165), .ref (a + 166)])
def sSk0 : (Nat → Int32) → va_E := fun _ => .inr (4, [.null, .null, .null, .null, .null, .null])
def sMd (a : Nat) : (Nat → Int32) → va_E := fun i => .inr (5, [.int (i 0), .ref (a + 1), .int (i 2), .ref (a + 2), .ref (a + 3), .ref (a + 4), .int (i 6), .ref (a + 5), .ref (a + 6), .int (i 9), .int (i 10)])
def sMd0 : (Nat → Int32) → va_E := fun i => .inr (5, [.int (i 0), .null, .int (i 2), .null, .null, .null, .int (i 6), .null, .null, .int (i 9), .int (i 10)])
section ZFIELDS
variable {E : zE} {l : Launch} {y : MethodName} {cc : ByteArray} {nL : Nat} {ret : Option FieldType} {hh : List (Nat × Nat × Nat × Nat)} {R : Room} {mc ms : Nat} {Q : zQ} {k n : Nat} {G : zG} {I : zI} {sz pc pc' : Nat} {lv : List (Option Value)} {st : List Value} {a : Nat}
theorem fl_X3_9 : Cond.fieldLink RX3 9 (TX3 0).1 (TX3 0).2.1 (TX3 0).2.2.1 ∈ gw := gw_at 40 (by decide +kernel) rfl
/-- StripeTasks$Text.characters -/
theorem g_X3_9 (hy : y.cls = RX3) (hd : decode cc pc = .ok (.getfield 9, 3)) (hx : (a, sTx a) ∈ G) (hp : pc + 3 = pc') (h : z_V E l (y, cc, nL, ret, hh) R mc ms Q k n G I sz pc' lv (.ref (a + 1) :: st)) : z_V E l (y, cc, nL, ret, hh) R mc ms Q k n G I sz pc lv (.ref a :: st) := v_get (ci := 3) (kf := 0) hd hx rfl rfl in_X3 (by decide) (by rw [hy]; exact fl_X3_9) rfl hp h
theorem fl_X3_15 : Cond.fieldLink RX3 15 (TX3 1).1 (TX3 1).2.1 (TX3 1).2.2.1 ∈ gw := gw_at 41 (by decide +kernel) rfl
/-- StripeTasks$Text.length -/
theorem g_X3_15 (hy : y.cls = RX3) (hd : decode cc pc = .ok (.getfield 15, 3)) (hx : (a, sTx a) ∈ G) (hp : pc + 3 = pc') (h : z_V E l (y, cc, nL, ret, hh) R mc ms Q k n G I sz pc' lv (.int (I a 1) :: st)) : z_V E l (y, cc, nL, ret, hh) R mc ms Q k n G I sz pc lv (.ref a :: st) := v_get (ci := 3) (kf := 1) hd hx rfl rfl in_X3 (by decide) (by rw [hy]; exact fl_X3_15) rfl hp h
theorem p_X3_15 {x : Int32} (hy : y.cls = RX3) (hd : decode cc pc = .ok (.putfield 15, 3)) (hx : (a, sTx a) ∈ G) (hp : pc + 3 = pc') (h : z_V E l (y, cc, nL, ret, hh) R mc ms Q k n G (z_up I a 1 x) sz pc' lv st) : z_V E l (y, cc, nL, ret, hh) R mc ms Q k n G I sz pc lv (.int x :: .ref a :: st) := v_put (ci := 3) (kf := 1) (I' := z_up I a 1 x) hd hx rfl rfl in_X3 tyX3 tyX3_ok nmX3 (by decide) (by rw [hy]; exact fl_X3_15) rfl (ty := .int) (by decide +kernel) rfl rfl (by simp) (fun q h => z_up_ne I a 1 x h) (by rw [z_up_at]; rfl) hp h
theorem fl_X3_19 : Cond.fieldLink RX3 19 (TX3 2).1 (TX3 2).2.1 (TX3 2).2.2.1 ∈ gw := gw_at 42 (by decide +kernel) rfl
/-- StripeTasks$Text.at -/
theorem g_X3_19 (hy : y.cls = RX3) (hd : decode cc pc = .ok (.getfield 19, 3)) (hx : (a, sTx a) ∈ G) (hp : pc + 3 = pc') (h : z_V E l (y, cc, nL, ret, hh) R mc ms Q k n G I sz pc' lv (.int (I a 2) :: st)) : z_V E l (y, cc, nL, ret, hh) R mc ms Q k n G I sz pc lv (.ref a :: st) := v_get (ci := 3) (kf := 2) hd hx rfl rfl in_X3 (by decide) (by rw [hy]; exact fl_X3_19) rfl hp h
theorem p_X3_19 {x : Int32} (hy : y.cls = RX3) (hd : decode cc pc = .ok (.putfield 19, 3)) (hx : (a, sTx a) ∈ G) (hp : pc + 3 = pc') (h : z_V E l (y, cc, nL, ret, hh) R mc ms Q k n G (z_up I a 2 x) sz pc' lv st) : z_V E l (y, cc, nL, ret, hh) R mc ms Q k n G I sz pc lv (.int x :: .ref a :: st) := v_put (ci := 3) (kf := 2) (I' := z_up I a 2 x) hd hx rfl rfl in_X3 tyX3 tyX3_ok nmX3 (by decide) (by rw [hy]; exact fl_X3_19) rfl (ty := .int) (by decide +kernel) rfl rfl (by simp) (fun q h => z_up_ne I a 2 x h) (by rw [z_up_at]; rfl) hp h
theorem fl_X3_22 : Cond.fieldLink RX3 22 (TX3 3).1 (TX3 3).2.1 (TX3 3).2.2.1 ∈ gw := gw_at 43 (by decide +kernel) rfl
/-- StripeTasks$Text.wrong -/
theorem g_X3_22 (hy : y.cls = RX3) (hd : decode cc pc = .ok (.getfield 22, 3)) (hx : (a, sTx a) ∈ G) (hp : pc + 3 = pc') (h : z_V E l (y, cc, nL, ret, hh) R mc ms Q k n G I sz pc' lv (.int (I a 3) :: st)) : z_V E l (y, cc, nL, ret, hh) R mc ms Q k n G I sz pc lv (.ref a :: st) := v_get (ci := 3) (kf := 3) hd hx rfl rfl in_X3 (by decide) (by rw [hy]; exact fl_X3_22) rfl hp h
theorem p_X3_22 {x : Int32} (hn9 : narrow .boolean (.int x) = .int x) (hf9 : fits .boolean (.int x) = true) (hy : y.cls = RX3) (hd : decode cc pc = .ok (.putfield 22, 3)) (hx : (a, sTx a) ∈ G) (hp : pc + 3 = pc') (h : z_V E l (y, cc, nL, ret, hh) R mc ms Q k n G (z_up I a 3 x) sz pc' lv st) : z_V E l (y, cc, nL, ret, hh) R mc ms Q k n G I sz pc lv (.int x :: .ref a :: st) := v_put (ci := 3) (kf := 3) (I' := z_up I a 3 x) hd hx rfl rfl in_X3 tyX3 tyX3_ok nmX3 (by decide) (by rw [hy]; exact fl_X3_22) rfl (ty := .boolean) (by decide +kernel) hn9 hf9 (by simp) (fun q h => z_up_ne I a 3 x h) (by rw [z_up_at]; rfl) hp h
theorem fl_X3_26 : Cond.fieldLink RX3 26 (TX3 4).1 (TX3 4).2.1 (TX3 4).2.2.1 ∈ gw := gw_at 44 (by decide +kernel) rfl
/-- StripeTasks$Text.letter -/
theorem g_X3_26 (hy : y.cls = RX3) (hd : decode cc pc = .ok (.getfield 26, 3)) (hx : (a, sTx a) ∈ G) (hp : pc + 3 = pc') (h : z_V E l (y, cc, nL, ret, hh) R mc ms Q k n G I sz pc' lv (.int (I a 4) :: st)) : z_V E l (y, cc, nL, ret, hh) R mc ms Q k n G I sz pc lv (.ref a :: st) := v_get (ci := 3) (kf := 4) hd hx rfl rfl in_X3 (by decide) (by rw [hy]; exact fl_X3_26) rfl hp h
theorem p_X3_26 {x : Int32} (hy : y.cls = RX3) (hd : decode cc pc = .ok (.putfield 26, 3)) (hx : (a, sTx a) ∈ G) (hp : pc + 3 = pc') (h : z_V E l (y, cc, nL, ret, hh) R mc ms Q k n G (z_up I a 4 x) sz pc' lv st) : z_V E l (y, cc, nL, ret, hh) R mc ms Q k n G I sz pc lv (.int x :: .ref a :: st) := v_put (ci := 3) (kf := 4) (I' := z_up I a 4 x) hd hx rfl rfl in_X3 tyX3 tyX3_ok nmX3 (by decide) (by rw [hy]; exact fl_X3_26) rfl (ty := .int) (by decide +kernel) rfl rfl (by simp) (fun q h => z_up_ne I a 4 x h) (by rw [z_up_at]; rfl) hp h
theorem fl_X4_78 : Cond.fieldLink RX4 78 (TX3 4).1 (TX3 4).2.1 (TX3 4).2.2.1 ∈ gw := gw_at 45 (by decide +kernel) rfl
/-- StripeTasks$Text.letter -/
theorem g_X4_78 (hy : y.cls = RX4) (hd : decode cc pc = .ok (.getfield 78, 3)) (hx : (a, sTx a) ∈ G) (hp : pc + 3 = pc') (h : z_V E l (y, cc, nL, ret, hh) R mc ms Q k n G I sz pc' lv (.int (I a 4) :: st)) : z_V E l (y, cc, nL, ret, hh) R mc ms Q k n G I sz pc lv (.ref a :: st) := v_get (ci := 3) (kf := 4) hd hx rfl rfl in_X3 (by decide) (by rw [hy]; exact fl_X4_78) rfl hp h
theorem p_X4_78 {x : Int32} (hy : y.cls = RX4) (hd : decode cc pc = .ok (.putfield 78, 3)) (hx : (a, sTx a) ∈ G) (hp : pc + 3 = pc') (h : z_V E l (y, cc, nL, ret, hh) R mc ms Q k n G (z_up I a 4 x) sz pc' lv st) : z_V E l (y, cc, nL, ret, hh) R mc ms Q k n G I sz pc lv (.int x :: .ref a :: st) := v_put (ci := 3) (kf := 4) (I' := z_up I a 4 x) hd hx rfl rfl in_X3 tyX3 tyX3_ok nmX3 (by decide) (by rw [hy]; exact fl_X4_78) rfl (ty := .int) (by decide +kernel) rfl rfl (by simp) (fun q h => z_up_ne I a 4 x h) (by rw [z_up_at]; rfl) hp h
theorem fl_X3_29 : Cond.fieldLink RX3 29 (TX3 5).1 (TX3 5).2.1 (TX3 5).2.2.1 ∈ gw := gw_at 46 (by decide +kernel) rfl
/-- StripeTasks$Text.first -/
theorem g_X3_29 (hy : y.cls = RX3) (hd : decode cc pc = .ok (.getfield 29, 3)) (hx : (a, sTx a) ∈ G) (hp : pc + 3 = pc') (h : z_V E l (y, cc, nL, ret, hh) R mc ms Q k n G I sz pc' lv (.int (I a 5) :: st)) : z_V E l (y, cc, nL, ret, hh) R mc ms Q k n G I sz pc lv (.ref a :: st) := v_get (ci := 3) (kf := 5) hd hx rfl rfl in_X3 (by decide) (by rw [hy]; exact fl_X3_29) rfl hp h
theorem p_X3_29 {x : Int32} (hy : y.cls = RX3) (hd : decode cc pc = .ok (.putfield 29, 3)) (hx : (a, sTx a) ∈ G) (hp : pc + 3 = pc') (h : z_V E l (y, cc, nL, ret, hh) R mc ms Q k n G (z_up I a 5 x) sz pc' lv st) : z_V E l (y, cc, nL, ret, hh) R mc ms Q k n G I sz pc lv (.int x :: .ref a :: st) := v_put (ci := 3) (kf := 5) (I' := z_up I a 5 x) hd hx rfl rfl in_X3 tyX3 tyX3_ok nmX3 (by decide) (by rw [hy]; exact fl_X3_29) rfl (ty := .int) (by decide +kernel) rfl rfl (by simp) (fun q h => z_up_ne I a 5 x h) (by rw [z_up_at]; rfl) hp h
theorem fl_X4_82 : Cond.fieldLink RX4 82 (TX3 5).1 (TX3 5).2.1 (TX3 5).2.2.1 ∈ gw := gw_at 47 (by decide +kernel) rfl
/-- StripeTasks$Text.first -/
theorem g_X4_82 (hy : y.cls = RX4) (hd : decode cc pc = .ok (.getfield 82, 3)) (hx : (a, sTx a) ∈ G) (hp : pc + 3 = pc') (h : z_V E l (y, cc, nL, ret, hh) R mc ms Q k n G I sz pc' lv (.int (I a 5) :: st)) : z_V E l (y, cc, nL, ret, hh) R mc ms Q k n G I sz pc lv (.ref a :: st) := v_get (ci := 3) (kf := 5) hd hx rfl rfl in_X3 (by decide) (by rw [hy]; exact fl_X4_82) rfl hp h
theorem p_X4_82 {x : Int32} (hy : y.cls = RX4) (hd : decode cc pc = .ok (.putfield 82, 3)) (hx : (a, sTx a) ∈ G) (hp : pc + 3 = pc') (h : z_V E l (y, cc, nL, ret, hh) R mc ms Q k n G (z_up I a 5 x) sz pc' lv st) : z_V E l (y, cc, nL, ret, hh) R mc ms Q k n G I sz pc lv (.int x :: .ref a :: st) := v_put (ci := 3) (kf := 5) (I' := z_up I a 5 x) hd hx rfl rfl in_X3 tyX3 tyX3_ok nmX3 (by decide) (by rw [hy]; exact fl_X4_82) rfl (ty := .int) (by decide +kernel) rfl rfl (by simp) (fun q h => z_up_ne I a 5 x h) (by rw [z_up_at]; rfl) hp h
theorem fl_X3_32 : Cond.fieldLink RX3 32 (TX3 6).1 (TX3 6).2.1 (TX3 6).2.2.1 ∈ gw := gw_at 48 (by decide +kernel) rfl
/-- StripeTasks$Text.second -/
theorem g_X3_32 (hy : y.cls = RX3) (hd : decode cc pc = .ok (.getfield 32, 3)) (hx : (a, sTx a) ∈ G) (hp : pc + 3 = pc') (h : z_V E l (y, cc, nL, ret, hh) R mc ms Q k n G I sz pc' lv (.int (I a 6) :: st)) : z_V E l (y, cc, nL, ret, hh) R mc ms Q k n G I sz pc lv (.ref a :: st) := v_get (ci := 3) (kf := 6) hd hx rfl rfl in_X3 (by decide) (by rw [hy]; exact fl_X3_32) rfl hp h
theorem p_X3_32 {x : Int32} (hy : y.cls = RX3) (hd : decode cc pc = .ok (.putfield 32, 3)) (hx : (a, sTx a) ∈ G) (hp : pc + 3 = pc') (h : z_V E l (y, cc, nL, ret, hh) R mc ms Q k n G (z_up I a 6 x) sz pc' lv st) : z_V E l (y, cc, nL, ret, hh) R mc ms Q k n G I sz pc lv (.int x :: .ref a :: st) := v_put (ci := 3) (kf := 6) (I' := z_up I a 6 x) hd hx rfl rfl in_X3 tyX3 tyX3_ok nmX3 (by decide) (by rw [hy]; exact fl_X3_32) rfl (ty := .int) (by decide +kernel) rfl rfl (by simp) (fun q h => z_up_ne I a 6 x h) (by rw [z_up_at]; rfl) hp h
theorem fl_X4_85 : Cond.fieldLink RX4 85 (TX3 6).1 (TX3 6).2.1 (TX3 6).2.2.1 ∈ gw := gw_at 49 (by decide +kernel) rfl
/-- StripeTasks$Text.second -/
theorem g_X4_85 (hy : y.cls = RX4) (hd : decode cc pc = .ok (.getfield 85, 3)) (hx : (a, sTx a) ∈ G) (hp : pc + 3 = pc') (h : z_V E l (y, cc, nL, ret, hh) R mc ms Q k n G I sz pc' lv (.int (I a 6) :: st)) : z_V E l (y, cc, nL, ret, hh) R mc ms Q k n G I sz pc lv (.ref a :: st) := v_get (ci := 3) (kf := 6) hd hx rfl rfl in_X3 (by decide) (by rw [hy]; exact fl_X4_85) rfl hp h
theorem p_X4_85 {x : Int32} (hy : y.cls = RX4) (hd : decode cc pc = .ok (.putfield 85, 3)) (hx : (a, sTx a) ∈ G) (hp : pc + 3 = pc') (h : z_V E l (y, cc, nL, ret, hh) R mc ms Q k n G (z_up I a 6 x) sz pc' lv st) : z_V E l (y, cc, nL, ret, hh) R mc ms Q k n G I sz pc lv (.int x :: .ref a :: st) := v_put (ci := 3) (kf := 6) (I' := z_up I a 6 x) hd hx rfl rfl in_X3 tyX3 tyX3_ok nmX3 (by decide) (by rw [hy]; exact fl_X4_85) rfl (ty := .int) (by decide +kernel) rfl rfl (by simp) (fun q h => z_up_ne I a 6 x h) (by rw [z_up_at]; rfl) hp h
theorem fl_X2_9 : Cond.fieldLink RX2 9 (TX2 0).1 (TX2 0).2.1 (TX2 0).2.2.1 ∈ gw := gw_at 79 (by decide +kernel) rfl
/-- StripeTasks$Task.width -/
theorem g_X2_9 (hy : y.cls = RX2) (hd : decode cc pc = .ok (.getfield 9, 3)) (hx : (a, sTk) ∈ G) (hp : pc + 3 = pc') (h : z_V E l (y, cc, nL, ret, hh) R mc ms Q k n G I sz pc' lv (.int (I a 0) :: st)) : z_V E l (y, cc, nL, ret, hh) R mc ms Q k n G I sz pc lv (.ref a :: st) := v_get (ci := 2) (kf := 0) hd hx rfl rfl in_X2 (by decide) (by rw [hy]; exact fl_X2_9) rfl hp h
theorem p_X2_9 {x : Int32} (hy : y.cls = RX2) (hd : decode cc pc = .ok (.putfield 9, 3)) (hx : (a, sTk) ∈ G) (hp : pc + 3 = pc') (h : z_V E l (y, cc, nL, ret, hh) R mc ms Q k n G (z_up I a 0 x) sz pc' lv st) : z_V E l (y, cc, nL, ret, hh) R mc ms Q k n G I sz pc lv (.int x :: .ref a :: st) := v_put (ci := 2) (kf := 0) (I' := z_up I a 0 x) hd hx rfl rfl in_X2 tyX2 tyX2_ok nmX2 (by decide) (by rw [hy]; exact fl_X2_9) rfl (ty := .int) (by decide +kernel) rfl rfl (by simp) (fun q h => z_up_ne I a 0 x h) (by rw [z_up_at]; rfl) hp h
theorem fl_X4_126 : Cond.fieldLink RX4 126 (TX2 0).1 (TX2 0).2.1 (TX2 0).2.2.1 ∈ gw := gw_at 80 (by decide +kernel) rfl
/-- StripeTasks$Task.width -/
theorem g_X4_126 (hy : y.cls = RX4) (hd : decode cc pc = .ok (.getfield 126, 3)) (hx : (a, sTk) ∈ G) (hp : pc + 3 = pc') (h : z_V E l (y, cc, nL, ret, hh) R mc ms Q k n G I sz pc' lv (.int (I a 0) :: st)) : z_V E l (y, cc, nL, ret, hh) R mc ms Q k n G I sz pc lv (.ref a :: st) := v_get (ci := 2) (kf := 0) hd hx rfl rfl in_X2 (by decide) (by rw [hy]; exact fl_X4_126) rfl hp h
theorem p_X4_126 {x : Int32} (hy : y.cls = RX4) (hd : decode cc pc = .ok (.putfield 126, 3)) (hx : (a, sTk) ∈ G) (hp : pc + 3 = pc') (h : z_V E l (y, cc, nL, ret, hh) R mc ms Q k n G (z_up I a 0 x) sz pc' lv st) : z_V E l (y, cc, nL, ret, hh) R mc ms Q k n G I sz pc lv (.int x :: .ref a :: st) := v_put (ci := 2) (kf := 0) (I' := z_up I a 0 x) hd hx rfl rfl in_X2 tyX2 tyX2_ok nmX2 (by decide) (by rw [hy]; exact fl_X4_126) rfl (ty := .int) (by decide +kernel) rfl rfl (by simp) (fun q h => z_up_ne I a 0 x h) (by rw [z_up_at]; rfl) hp h
theorem fl_X1_113 : Cond.fieldLink RX1 113 (TX2 0).1 (TX2 0).2.1 (TX2 0).2.2.1 ∈ gw := gw_at 81 (by decide +kernel) rfl
/-- StripeTasks$Task.width -/
theorem g_X1_113 (hy : y.cls = RX1) (hd : decode cc pc = .ok (.getfield 113, 3)) (hx : (a, sTk) ∈ G) (hp : pc + 3 = pc') (h : z_V E l (y, cc, nL, ret, hh) R mc ms Q k n G I sz pc' lv (.int (I a 0) :: st)) : z_V E l (y, cc, nL, ret, hh) R mc ms Q k n G I sz pc lv (.ref a :: st) := v_get (ci := 2) (kf := 0) hd hx rfl rfl in_X2 (by decide) (by rw [hy]; exact fl_X1_113) rfl hp h
theorem p_X1_113 {x : Int32} (hy : y.cls = RX1) (hd : decode cc pc = .ok (.putfield 113, 3)) (hx : (a, sTk) ∈ G) (hp : pc + 3 = pc') (h : z_V E l (y, cc, nL, ret, hh) R mc ms Q k n G (z_up I a 0 x) sz pc' lv st) : z_V E l (y, cc, nL, ret, hh) R mc ms Q k n G I sz pc lv (.int x :: .ref a :: st) := v_put (ci := 2) (kf := 0) (I' := z_up I a 0 x) hd hx rfl rfl in_X2 tyX2 tyX2_ok nmX2 (by decide) (by rw [hy]; exact fl_X1_113) rfl (ty := .int) (by decide +kernel) rfl rfl (by simp) (fun q h => z_up_ne I a 0 x h) (by rw [z_up_at]; rfl) hp h
theorem fl_X2_15 : Cond.fieldLink RX2 15 (TX2 1).1 (TX2 1).2.1 (TX2 1).2.2.1 ∈ gw := gw_at 82 (by decide +kernel) rfl
/-- StripeTasks$Task.value -/
theorem g_X2_15 (hy : y.cls = RX2) (hd : decode cc pc = .ok (.getfield 15, 3)) (hx : (a, sTk) ∈ G) (hp : pc + 3 = pc') (h : z_V E l (y, cc, nL, ret, hh) R mc ms Q k n G I sz pc' lv (.int (I a 1) :: st)) : z_V E l (y, cc, nL, ret, hh) R mc ms Q k n G I sz pc lv (.ref a :: st) := v_get (ci := 2) (kf := 1) hd hx rfl rfl in_X2 (by decide) (by rw [hy]; exact fl_X2_15) rfl hp h
theorem p_X2_15 {x : Int32} (hy : y.cls = RX2) (hd : decode cc pc = .ok (.putfield 15, 3)) (hx : (a, sTk) ∈ G) (hp : pc + 3 = pc') (h : z_V E l (y, cc, nL, ret, hh) R mc ms Q k n G (z_up I a 1 x) sz pc' lv st) : z_V E l (y, cc, nL, ret, hh) R mc ms Q k n G I sz pc lv (.int x :: .ref a :: st) := v_put (ci := 2) (kf := 1) (I' := z_up I a 1 x) hd hx rfl rfl in_X2 tyX2 tyX2_ok nmX2 (by decide) (by rw [hy]; exact fl_X2_15) rfl (ty := .int) (by decide +kernel) rfl rfl (by simp) (fun q h => z_up_ne I a 1 x h) (by rw [z_up_at]; rfl) hp h
theorem fl_X4_131 : Cond.fieldLink RX4 131 (TX2 1).1 (TX2 1).2.1 (TX2 1).2.2.1 ∈ gw := gw_at 83 (by decide +kernel) rfl
/-- StripeTasks$Task.value -/
theorem g_X4_131 (hy : y.cls = RX4) (hd : decode cc pc = .ok (.getfield 131, 3)) (hx : (a, sTk) ∈ G) (hp : pc + 3 = pc') (h : z_V E l (y, cc, nL, ret, hh) R mc ms Q k n G I sz pc' lv (.int (I a 1) :: st)) : z_V E l (y, cc, nL, ret, hh) R mc ms Q k n G I sz pc lv (.ref a :: st) := v_get (ci := 2) (kf := 1) hd hx rfl rfl in_X2 (by decide) (by rw [hy]; exact fl_X4_131) rfl hp h
theorem p_X4_131 {x : Int32} (hy : y.cls = RX4) (hd : decode cc pc = .ok (.putfield 131, 3)) (hx : (a, sTk) ∈ G) (hp : pc + 3 = pc') (h : z_V E l (y, cc, nL, ret, hh) R mc ms Q k n G (z_up I a 1 x) sz pc' lv st) : z_V E l (y, cc, nL, ret, hh) R mc ms Q k n G I sz pc lv (.int x :: .ref a :: st) := v_put (ci := 2) (kf := 1) (I' := z_up I a 1 x) hd hx rfl rfl in_X2 tyX2 tyX2_ok nmX2 (by decide) (by rw [hy]; exact fl_X4_131) rfl (ty := .int) (by decide +kernel) rfl rfl (by simp) (fun q h => z_up_ne I a 1 x h) (by rw [z_up_at]; rfl) hp h
theorem fl_X1_96 : Cond.fieldLink RX1 96 (TX2 1).1 (TX2 1).2.1 (TX2 1).2.2.1 ∈ gw := gw_at 84 (by decide +kernel) rfl
/-- StripeTasks$Task.value -/
theorem g_X1_96 (hy : y.cls = RX1) (hd : decode cc pc = .ok (.getfield 96, 3)) (hx : (a, sTk) ∈ G) (hp : pc + 3 = pc') (h : z_V E l (y, cc, nL, ret, hh) R mc ms Q k n G I sz pc' lv (.int (I a 1) :: st)) : z_V E l (y, cc, nL, ret, hh) R mc ms Q k n G I sz pc lv (.ref a :: st) := v_get (ci := 2) (kf := 1) hd hx rfl rfl in_X2 (by decide) (by rw [hy]; exact fl_X1_96) rfl hp h
theorem p_X1_96 {x : Int32} (hy : y.cls = RX1) (hd : decode cc pc = .ok (.putfield 96, 3)) (hx : (a, sTk) ∈ G) (hp : pc + 3 = pc') (h : z_V E l (y, cc, nL, ret, hh) R mc ms Q k n G (z_up I a 1 x) sz pc' lv st) : z_V E l (y, cc, nL, ret, hh) R mc ms Q k n G I sz pc lv (.int x :: .ref a :: st) := v_put (ci := 2) (kf := 1) (I' := z_up I a 1 x) hd hx rfl rfl in_X2 tyX2 tyX2_ok nmX2 (by decide) (by rw [hy]; exact fl_X1_96) rfl (ty := .int) (by decide +kernel) rfl rfl (by simp) (fun q h => z_up_ne I a 1 x h) (by rw [z_up_at]; rfl) hp h
theorem fl_X2_18 : Cond.fieldLink RX2 18 (TX2 2).1 (TX2 2).2.1 (TX2 2).2.2.1 ∈ gw := gw_at 85 (by decide +kernel) rfl
/-- StripeTasks$Task.saved -/
theorem g_X2_18 (hy : y.cls = RX2) (hd : decode cc pc = .ok (.getfield 18, 3)) (hx : (a, sTk) ∈ G) (hp : pc + 3 = pc') (h : z_V E l (y, cc, nL, ret, hh) R mc ms Q k n G I sz pc' lv (.int (I a 2) :: st)) : z_V E l (y, cc, nL, ret, hh) R mc ms Q k n G I sz pc lv (.ref a :: st) := v_get (ci := 2) (kf := 2) hd hx rfl rfl in_X2 (by decide) (by rw [hy]; exact fl_X2_18) rfl hp h
theorem p_X2_18 {x : Int32} (hy : y.cls = RX2) (hd : decode cc pc = .ok (.putfield 18, 3)) (hx : (a, sTk) ∈ G) (hp : pc + 3 = pc') (h : z_V E l (y, cc, nL, ret, hh) R mc ms Q k n G (z_up I a 2 x) sz pc' lv st) : z_V E l (y, cc, nL, ret, hh) R mc ms Q k n G I sz pc lv (.int x :: .ref a :: st) := v_put (ci := 2) (kf := 2) (I' := z_up I a 2 x) hd hx rfl rfl in_X2 tyX2 tyX2_ok nmX2 (by decide) (by rw [hy]; exact fl_X2_18) rfl (ty := .int) (by decide +kernel) rfl rfl (by simp) (fun q h => z_up_ne I a 2 x h) (by rw [z_up_at]; rfl) hp h
theorem fl_X4_134 : Cond.fieldLink RX4 134 (TX2 2).1 (TX2 2).2.1 (TX2 2).2.2.1 ∈ gw := gw_at 86 (by decide +kernel) rfl
/-- StripeTasks$Task.saved -/
theorem g_X4_134 (hy : y.cls = RX4) (hd : decode cc pc = .ok (.getfield 134, 3)) (hx : (a, sTk) ∈ G) (hp : pc + 3 = pc') (h : z_V E l (y, cc, nL, ret, hh) R mc ms Q k n G I sz pc' lv (.int (I a 2) :: st)) : z_V E l (y, cc, nL, ret, hh) R mc ms Q k n G I sz pc lv (.ref a :: st) := v_get (ci := 2) (kf := 2) hd hx rfl rfl in_X2 (by decide) (by rw [hy]; exact fl_X4_134) rfl hp h
theorem p_X4_134 {x : Int32} (hy : y.cls = RX4) (hd : decode cc pc = .ok (.putfield 134, 3)) (hx : (a, sTk) ∈ G) (hp : pc + 3 = pc') (h : z_V E l (y, cc, nL, ret, hh) R mc ms Q k n G (z_up I a 2 x) sz pc' lv st) : z_V E l (y, cc, nL, ret, hh) R mc ms Q k n G I sz pc lv (.int x :: .ref a :: st) := v_put (ci := 2) (kf := 2) (I' := z_up I a 2 x) hd hx rfl rfl in_X2 tyX2 tyX2_ok nmX2 (by decide) (by rw [hy]; exact fl_X4_134) rfl (ty := .int) (by decide +kernel) rfl rfl (by simp) (fun q h => z_up_ne I a 2 x h) (by rw [z_up_at]; rfl) hp h
theorem fl_X2_21 : Cond.fieldLink RX2 21 (TX2 3).1 (TX2 3).2.1 (TX2 3).2.2.1 ∈ gw := gw_at 87 (by decide +kernel) rfl
/-- StripeTasks$Task.worked -/
theorem g_X2_21 (hy : y.cls = RX2) (hd : decode cc pc = .ok (.getfield 21, 3)) (hx : (a, sTk) ∈ G) (hp : pc + 3 = pc') (h : z_V E l (y, cc, nL, ret, hh) R mc ms Q k n G I sz pc' lv (.int (I a 3) :: st)) : z_V E l (y, cc, nL, ret, hh) R mc ms Q k n G I sz pc lv (.ref a :: st) := v_get (ci := 2) (kf := 3) hd hx rfl rfl in_X2 (by decide) (by rw [hy]; exact fl_X2_21) rfl hp h
theorem p_X2_21 {x : Int32} (hy : y.cls = RX2) (hd : decode cc pc = .ok (.putfield 21, 3)) (hx : (a, sTk) ∈ G) (hp : pc + 3 = pc') (h : z_V E l (y, cc, nL, ret, hh) R mc ms Q k n G (z_up I a 3 x) sz pc' lv st) : z_V E l (y, cc, nL, ret, hh) R mc ms Q k n G I sz pc lv (.int x :: .ref a :: st) := v_put (ci := 2) (kf := 3) (I' := z_up I a 3 x) hd hx rfl rfl in_X2 tyX2 tyX2_ok nmX2 (by decide) (by rw [hy]; exact fl_X2_21) rfl (ty := .int) (by decide +kernel) rfl rfl (by simp) (fun q h => z_up_ne I a 3 x h) (by rw [z_up_at]; rfl) hp h
theorem fl_X4_137 : Cond.fieldLink RX4 137 (TX2 3).1 (TX2 3).2.1 (TX2 3).2.2.1 ∈ gw := gw_at 88 (by decide +kernel) rfl
/-- StripeTasks$Task.worked -/
theorem g_X4_137 (hy : y.cls = RX4) (hd : decode cc pc = .ok (.getfield 137, 3)) (hx : (a, sTk) ∈ G) (hp : pc + 3 = pc') (h : z_V E l (y, cc, nL, ret, hh) R mc ms Q k n G I sz pc' lv (.int (I a 3) :: st)) : z_V E l (y, cc, nL, ret, hh) R mc ms Q k n G I sz pc lv (.ref a :: st) := v_get (ci := 2) (kf := 3) hd hx rfl rfl in_X2 (by decide) (by rw [hy]; exact fl_X4_137) rfl hp h
theorem p_X4_137 {x : Int32} (hy : y.cls = RX4) (hd : decode cc pc = .ok (.putfield 137, 3)) (hx : (a, sTk) ∈ G) (hp : pc + 3 = pc') (h : z_V E l (y, cc, nL, ret, hh) R mc ms Q k n G (z_up I a 3 x) sz pc' lv st) : z_V E l (y, cc, nL, ret, hh) R mc ms Q k n G I sz pc lv (.int x :: .ref a :: st) := v_put (ci := 2) (kf := 3) (I' := z_up I a 3 x) hd hx rfl rfl in_X2 tyX2 tyX2_ok nmX2 (by decide) (by rw [hy]; exact fl_X4_137) rfl (ty := .int) (by decide +kernel) rfl rfl (by simp) (fun q h => z_up_ne I a 3 x h) (by rw [z_up_at]; rfl) hp h
theorem fl_X2_24 : Cond.fieldLink RX2 24 (TX2 4).1 (TX2 4).2.1 (TX2 4).2.2.1 ∈ gw := gw_at 89 (by decide +kernel) rfl
/-- StripeTasks$Task.unsaved -/
theorem g_X2_24 (hy : y.cls = RX2) (hd : decode cc pc = .ok (.getfield 24, 3)) (hx : (a, sTk) ∈ G) (hp : pc + 3 = pc') (h : z_V E l (y, cc, nL, ret, hh) R mc ms Q k n G I sz pc' lv (.int (I a 4) :: st)) : z_V E l (y, cc, nL, ret, hh) R mc ms Q k n G I sz pc lv (.ref a :: st) := v_get (ci := 2) (kf := 4) hd hx rfl rfl in_X2 (by decide) (by rw [hy]; exact fl_X2_24) rfl hp h
theorem p_X2_24 {x : Int32} (hy : y.cls = RX2) (hd : decode cc pc = .ok (.putfield 24, 3)) (hx : (a, sTk) ∈ G) (hp : pc + 3 = pc') (h : z_V E l (y, cc, nL, ret, hh) R mc ms Q k n G (z_up I a 4 x) sz pc' lv st) : z_V E l (y, cc, nL, ret, hh) R mc ms Q k n G I sz pc lv (.int x :: .ref a :: st) := v_put (ci := 2) (kf := 4) (I' := z_up I a 4 x) hd hx rfl rfl in_X2 tyX2 tyX2_ok nmX2 (by decide) (by rw [hy]; exact fl_X2_24) rfl (ty := .int) (by decide +kernel) rfl rfl (by simp) (fun q h => z_up_ne I a 4 x h) (by rw [z_up_at]; rfl) hp h
theorem fl_X4_253 : Cond.fieldLink RX4 253 (TX2 4).1 (TX2 4).2.1 (TX2 4).2.2.1 ∈ gw := gw_at 90 (by decide +kernel) rfl
/-- StripeTasks$Task.unsaved -/
theorem g_X4_253 (hy : y.cls = RX4) (hd : decode cc pc = .ok (.getfield 253, 3)) (hx : (a, sTk) ∈ G) (hp : pc + 3 = pc') (h : z_V E l (y, cc, nL, ret, hh) R mc ms Q k n G I sz pc' lv (.int (I a 4) :: st)) : z_V E l (y, cc, nL, ret, hh) R mc ms Q k n G I sz pc lv (.ref a :: st) := v_get (ci := 2) (kf := 4) hd hx rfl rfl in_X2 (by decide) (by rw [hy]; exact fl_X4_253) rfl hp h
theorem p_X4_253 {x : Int32} (hy : y.cls = RX4) (hd : decode cc pc = .ok (.putfield 253, 3)) (hx : (a, sTk) ∈ G) (hp : pc + 3 = pc') (h : z_V E l (y, cc, nL, ret, hh) R mc ms Q k n G (z_up I a 4 x) sz pc' lv st) : z_V E l (y, cc, nL, ret, hh) R mc ms Q k n G I sz pc lv (.int x :: .ref a :: st) := v_put (ci := 2) (kf := 4) (I' := z_up I a 4 x) hd hx rfl rfl in_X2 tyX2 tyX2_ok nmX2 (by decide) (by rw [hy]; exact fl_X4_253) rfl (ty := .int) (by decide +kernel) rfl rfl (by simp) (fun q h => z_up_ne I a 4 x h) (by rw [z_up_at]; rfl) hp h
theorem fl_X2_30 : Cond.fieldLink RX2 30 (TX2 5).1 (TX2 5).2.1 (TX2 5).2.2.1 ∈ gw := gw_at 91 (by decide +kernel) rfl
/-- StripeTasks$Task.status -/
theorem g_X2_30 (hy : y.cls = RX2) (hd : decode cc pc = .ok (.getfield 30, 3)) (hx : (a, sTk) ∈ G) (hp : pc + 3 = pc') (h : z_V E l (y, cc, nL, ret, hh) R mc ms Q k n G I sz pc' lv (.int (I a 5) :: st)) : z_V E l (y, cc, nL, ret, hh) R mc ms Q k n G I sz pc lv (.ref a :: st) := v_get (ci := 2) (kf := 5) hd hx rfl rfl in_X2 (by decide) (by rw [hy]; exact fl_X2_30) rfl hp h
theorem p_X2_30 {x : Int32} (hy : y.cls = RX2) (hd : decode cc pc = .ok (.putfield 30, 3)) (hx : (a, sTk) ∈ G) (hp : pc + 3 = pc') (h : z_V E l (y, cc, nL, ret, hh) R mc ms Q k n G (z_up I a 5 x) sz pc' lv st) : z_V E l (y, cc, nL, ret, hh) R mc ms Q k n G I sz pc lv (.int x :: .ref a :: st) := v_put (ci := 2) (kf := 5) (I' := z_up I a 5 x) hd hx rfl rfl in_X2 tyX2 tyX2_ok nmX2 (by decide) (by rw [hy]; exact fl_X2_30) rfl (ty := .int) (by decide +kernel) rfl rfl (by simp) (fun q h => z_up_ne I a 5 x h) (by rw [z_up_at]; rfl) hp h
theorem fl_X4_140 : Cond.fieldLink RX4 140 (TX2 5).1 (TX2 5).2.1 (TX2 5).2.2.1 ∈ gw := gw_at 92 (by decide +kernel) rfl
/-- StripeTasks$Task.status -/
theorem g_X4_140 (hy : y.cls = RX4) (hd : decode cc pc = .ok (.getfield 140, 3)) (hx : (a, sTk) ∈ G) (hp : pc + 3 = pc') (h : z_V E l (y, cc, nL, ret, hh) R mc ms Q k n G I sz pc' lv (.int (I a 5) :: st)) : z_V E l (y, cc, nL, ret, hh) R mc ms Q k n G I sz pc lv (.ref a :: st) := v_get (ci := 2) (kf := 5) hd hx rfl rfl in_X2 (by decide) (by rw [hy]; exact fl_X4_140) rfl hp h
theorem p_X4_140 {x : Int32} (hy : y.cls = RX4) (hd : decode cc pc = .ok (.putfield 140, 3)) (hx : (a, sTk) ∈ G) (hp : pc + 3 = pc') (h : z_V E l (y, cc, nL, ret, hh) R mc ms Q k n G (z_up I a 5 x) sz pc' lv st) : z_V E l (y, cc, nL, ret, hh) R mc ms Q k n G I sz pc lv (.int x :: .ref a :: st) := v_put (ci := 2) (kf := 5) (I' := z_up I a 5 x) hd hx rfl rfl in_X2 tyX2 tyX2_ok nmX2 (by decide) (by rw [hy]; exact fl_X4_140) rfl (ty := .int) (by decide +kernel) rfl rfl (by simp) (fun q h => z_up_ne I a 5 x h) (by rw [z_up_at]; rfl) hp h
theorem fl_X1_84 : Cond.fieldLink RX1 84 (TX2 5).1 (TX2 5).2.1 (TX2 5).2.2.1 ∈ gw := gw_at 93 (by decide +kernel) rfl
/-- StripeTasks$Task.status -/
theorem g_X1_84 (hy : y.cls = RX1) (hd : decode cc pc = .ok (.getfield 84, 3)) (hx : (a, sTk) ∈ G) (hp : pc + 3 = pc') (h : z_V E l (y, cc, nL, ret, hh) R mc ms Q k n G I sz pc' lv (.int (I a 5) :: st)) : z_V E l (y, cc, nL, ret, hh) R mc ms Q k n G I sz pc lv (.ref a :: st) := v_get (ci := 2) (kf := 5) hd hx rfl rfl in_X2 (by decide) (by rw [hy]; exact fl_X1_84) rfl hp h
theorem p_X1_84 {x : Int32} (hy : y.cls = RX1) (hd : decode cc pc = .ok (.putfield 84, 3)) (hx : (a, sTk) ∈ G) (hp : pc + 3 = pc') (h : z_V E l (y, cc, nL, ret, hh) R mc ms Q k n G (z_up I a 5 x) sz pc' lv st) : z_V E l (y, cc, nL, ret, hh) R mc ms Q k n G I sz pc lv (.int x :: .ref a :: st) := v_put (ci := 2) (kf := 5) (I' := z_up I a 5 x) hd hx rfl rfl in_X2 tyX2 tyX2_ok nmX2 (by decide) (by rw [hy]; exact fl_X1_84) rfl (ty := .int) (by decide +kernel) rfl rfl (by simp) (fun q h => z_up_ne I a 5 x h) (by rw [z_up_at]; rfl) hp h
theorem fl_X2_33 : Cond.fieldLink RX2 33 (TX2 6).1 (TX2 6).2.1 (TX2 6).2.2.1 ∈ gw := gw_at 94 (by decide +kernel) rfl
/-- StripeTasks$Task.first -/
theorem g_X2_33 (hy : y.cls = RX2) (hd : decode cc pc = .ok (.getfield 33, 3)) (hx : (a, sTk) ∈ G) (hp : pc + 3 = pc') (h : z_V E l (y, cc, nL, ret, hh) R mc ms Q k n G I sz pc' lv (.int (I a 6) :: st)) : z_V E l (y, cc, nL, ret, hh) R mc ms Q k n G I sz pc lv (.ref a :: st) := v_get (ci := 2) (kf := 6) hd hx rfl rfl in_X2 (by decide) (by rw [hy]; exact fl_X2_33) rfl hp h
theorem p_X2_33 {x : Int32} (hy : y.cls = RX2) (hd : decode cc pc = .ok (.putfield 33, 3)) (hx : (a, sTk) ∈ G) (hp : pc + 3 = pc') (h : z_V E l (y, cc, nL, ret, hh) R mc ms Q k n G (z_up I a 6 x) sz pc' lv st) : z_V E l (y, cc, nL, ret, hh) R mc ms Q k n G I sz pc lv (.int x :: .ref a :: st) := v_put (ci := 2) (kf := 6) (I' := z_up I a 6 x) hd hx rfl rfl in_X2 tyX2 tyX2_ok nmX2 (by decide) (by rw [hy]; exact fl_X2_33) rfl (ty := .int) (by decide +kernel) rfl rfl (by simp) (fun q h => z_up_ne I a 6 x h) (by rw [z_up_at]; rfl) hp h
theorem fl_X4_143 : Cond.fieldLink RX4 143 (TX2 6).1 (TX2 6).2.1 (TX2 6).2.2.1 ∈ gw := gw_at 95 (by decide +kernel) rfl
/-- StripeTasks$Task.first -/
theorem g_X4_143 (hy : y.cls = RX4) (hd : decode cc pc = .ok (.getfield 143, 3)) (hx : (a, sTk) ∈ G) (hp : pc + 3 = pc') (h : z_V E l (y, cc, nL, ret, hh) R mc ms Q k n G I sz pc' lv (.int (I a 6) :: st)) : z_V E l (y, cc, nL, ret, hh) R mc ms Q k n G I sz pc lv (.ref a :: st) := v_get (ci := 2) (kf := 6) hd hx rfl rfl in_X2 (by decide) (by rw [hy]; exact fl_X4_143) rfl hp h
theorem p_X4_143 {x : Int32} (hy : y.cls = RX4) (hd : decode cc pc = .ok (.putfield 143, 3)) (hx : (a, sTk) ∈ G) (hp : pc + 3 = pc') (h : z_V E l (y, cc, nL, ret, hh) R mc ms Q k n G (z_up I a 6 x) sz pc' lv st) : z_V E l (y, cc, nL, ret, hh) R mc ms Q k n G I sz pc lv (.int x :: .ref a :: st) := v_put (ci := 2) (kf := 6) (I' := z_up I a 6 x) hd hx rfl rfl in_X2 tyX2 tyX2_ok nmX2 (by decide) (by rw [hy]; exact fl_X4_143) rfl (ty := .int) (by decide +kernel) rfl rfl (by simp) (fun q h => z_up_ne I a 6 x h) (by rw [z_up_at]; rfl) hp h
theorem fl_X1_159 : Cond.fieldLink RX1 159 (TX2 6).1 (TX2 6).2.1 (TX2 6).2.2.1 ∈ gw := gw_at 96 (by decide +kernel) rfl
/-- StripeTasks$Task.first -/
theorem g_X1_159 (hy : y.cls = RX1) (hd : decode cc pc = .ok (.getfield 159, 3)) (hx : (a, sTk) ∈ G) (hp : pc + 3 = pc') (h : z_V E l (y, cc, nL, ret, hh) R mc ms Q k n G I sz pc' lv (.int (I a 6) :: st)) : z_V E l (y, cc, nL, ret, hh) R mc ms Q k n G I sz pc lv (.ref a :: st) := v_get (ci := 2) (kf := 6) hd hx rfl rfl in_X2 (by decide) (by rw [hy]; exact fl_X1_159) rfl hp h
theorem p_X1_159 {x : Int32} (hy : y.cls = RX1) (hd : decode cc pc = .ok (.putfield 159, 3)) (hx : (a, sTk) ∈ G) (hp : pc + 3 = pc') (h : z_V E l (y, cc, nL, ret, hh) R mc ms Q k n G (z_up I a 6 x) sz pc' lv st) : z_V E l (y, cc, nL, ret, hh) R mc ms Q k n G I sz pc lv (.int x :: .ref a :: st) := v_put (ci := 2) (kf := 6) (I' := z_up I a 6 x) hd hx rfl rfl in_X2 tyX2 tyX2_ok nmX2 (by decide) (by rw [hy]; exact fl_X1_159) rfl (ty := .int) (by decide +kernel) rfl rfl (by simp) (fun q h => z_up_ne I a 6 x h) (by rw [z_up_at]; rfl) hp h
theorem fl_X1_11 : Cond.fieldLink RX1 11 (TX1 0).1 (TX1 0).2.1 (TX1 0).2.2.1 ∈ gw := gw_at 124 (by decide +kernel) rfl
/-- StripeTasks$State.tasks -/
theorem g_X1_11 (hy : y.cls = RX1) (hd : decode cc pc = .ok (.getfield 11, 3)) (hx : (a, sSt a) ∈ G) (hp : pc + 3 = pc') (h : z_V E l (y, cc, nL, ret, hh) R mc ms Q k n G I sz pc' lv (.ref (a + 1) :: st)) : z_V E l (y, cc, nL, ret, hh) R mc ms Q k n G I sz pc lv (.ref a :: st) := v_get (ci := 1) (kf := 0) hd hx rfl rfl in_X1 (by decide) (by rw [hy]; exact fl_X1_11) rfl hp h
theorem fl_X1_17 : Cond.fieldLink RX1 17 (TX1 1).1 (TX1 1).2.1 (TX1 1).2.2.1 ∈ gw := gw_at 125 (by decide +kernel) rfl
/-- StripeTasks$State.bad -/
theorem g_X1_17 (hy : y.cls = RX1) (hd : decode cc pc = .ok (.getfield 17, 3)) (hx : (a, sSt a) ∈ G) (hp : pc + 3 = pc') (h : z_V E l (y, cc, nL, ret, hh) R mc ms Q k n G I sz pc' lv (.ref (a + 2) :: st)) : z_V E l (y, cc, nL, ret, hh) R mc ms Q k n G I sz pc lv (.ref a :: st) := v_get (ci := 1) (kf := 1) hd hx rfl rfl in_X1 (by decide) (by rw [hy]; exact fl_X1_17) rfl hp h
theorem fl_X1_21 : Cond.fieldLink RX1 21 (TX1 2).1 (TX1 2).2.1 (TX1 2).2.2.1 ∈ gw := gw_at 126 (by decide +kernel) rfl
/-- StripeTasks$State.settings -/
theorem g_X1_21 (hy : y.cls = RX1) (hd : decode cc pc = .ok (.getfield 21, 3)) (hx : (a, sSt a) ∈ G) (hp : pc + 3 = pc') (h : z_V E l (y, cc, nL, ret, hh) R mc ms Q k n G I sz pc' lv (.ref (a + 3) :: st)) : z_V E l (y, cc, nL, ret, hh) R mc ms Q k n G I sz pc lv (.ref a :: st) := v_get (ci := 1) (kf := 2) hd hx rfl rfl in_X1 (by decide) (by rw [hy]; exact fl_X1_21) rfl hp h
theorem fl_X4_173 : Cond.fieldLink RX4 173 (TX1 2).1 (TX1 2).2.1 (TX1 2).2.2.1 ∈ gw := gw_at 127 (by decide +kernel) rfl
/-- StripeTasks$State.settings -/
theorem g_X4_173 (hy : y.cls = RX4) (hd : decode cc pc = .ok (.getfield 173, 3)) (hx : (a, sSt a) ∈ G) (hp : pc + 3 = pc') (h : z_V E l (y, cc, nL, ret, hh) R mc ms Q k n G I sz pc' lv (.ref (a + 3) :: st)) : z_V E l (y, cc, nL, ret, hh) R mc ms Q k n G I sz pc lv (.ref a :: st) := v_get (ci := 1) (kf := 2) hd hx rfl rfl in_X1 (by decide) (by rw [hy]; exact fl_X4_173) rfl hp h
theorem fl_X1_32 : Cond.fieldLink RX1 32 (TX1 3).1 (TX1 3).2.1 (TX1 3).2.2.1 ∈ gw := gw_at 128 (by decide +kernel) rfl
/-- StripeTasks$State.count -/
theorem g_X1_32 (hy : y.cls = RX1) (hd : decode cc pc = .ok (.getfield 32, 3)) (hx : (a, sSt a) ∈ G) (hp : pc + 3 = pc') (h : z_V E l (y, cc, nL, ret, hh) R mc ms Q k n G I sz pc' lv (.int (I a 3) :: st)) : z_V E l (y, cc, nL, ret, hh) R mc ms Q k n G I sz pc lv (.ref a :: st) := v_get (ci := 1) (kf := 3) hd hx rfl rfl in_X1 (by decide) (by rw [hy]; exact fl_X1_32) rfl hp h
theorem p_X1_32 {x : Int32} (hy : y.cls = RX1) (hd : decode cc pc = .ok (.putfield 32, 3)) (hx : (a, sSt a) ∈ G) (hp : pc + 3 = pc') (h : z_V E l (y, cc, nL, ret, hh) R mc ms Q k n G (z_up I a 3 x) sz pc' lv st) : z_V E l (y, cc, nL, ret, hh) R mc ms Q k n G I sz pc lv (.int x :: .ref a :: st) := v_put (ci := 1) (kf := 3) (I' := z_up I a 3 x) hd hx rfl rfl in_X1 tyX1 tyX1_ok nmX1 (by decide) (by rw [hy]; exact fl_X1_32) rfl (ty := .int) (by decide +kernel) rfl rfl (by simp) (fun q h => z_up_ne I a 3 x h) (by rw [z_up_at]; rfl) hp h
theorem fl_X4_92 : Cond.fieldLink RX4 92 (TX1 3).1 (TX1 3).2.1 (TX1 3).2.2.1 ∈ gw := gw_at 129 (by decide +kernel) rfl
/-- StripeTasks$State.count -/
theorem g_X4_92 (hy : y.cls = RX4) (hd : decode cc pc = .ok (.getfield 92, 3)) (hx : (a, sSt a) ∈ G) (hp : pc + 3 = pc') (h : z_V E l (y, cc, nL, ret, hh) R mc ms Q k n G I sz pc' lv (.int (I a 3) :: st)) : z_V E l (y, cc, nL, ret, hh) R mc ms Q k n G I sz pc lv (.ref a :: st) := v_get (ci := 1) (kf := 3) hd hx rfl rfl in_X1 (by decide) (by rw [hy]; exact fl_X4_92) rfl hp h
theorem p_X4_92 {x : Int32} (hy : y.cls = RX4) (hd : decode cc pc = .ok (.putfield 92, 3)) (hx : (a, sSt a) ∈ G) (hp : pc + 3 = pc') (h : z_V E l (y, cc, nL, ret, hh) R mc ms Q k n G (z_up I a 3 x) sz pc' lv st) : z_V E l (y, cc, nL, ret, hh) R mc ms Q k n G I sz pc lv (.int x :: .ref a :: st) := v_put (ci := 1) (kf := 3) (I' := z_up I a 3 x) hd hx rfl rfl in_X1 tyX1 tyX1_ok nmX1 (by decide) (by rw [hy]; exact fl_X4_92) rfl (ty := .int) (by decide +kernel) rfl rfl (by simp) (fun q h => z_up_ne I a 3 x h) (by rw [z_up_at]; rfl) hp h
theorem fl_X1_36 : Cond.fieldLink RX1 36 (TX1 4).1 (TX1 4).2.1 (TX1 4).2.2.1 ∈ gw := gw_at 130 (by decide +kernel) rfl
/-- StripeTasks$State.ticks -/
theorem g_X1_36 (hy : y.cls = RX1) (hd : decode cc pc = .ok (.getfield 36, 3)) (hx : (a, sSt a) ∈ G) (hp : pc + 3 = pc') (h : z_V E l (y, cc, nL, ret, hh) R mc ms Q k n G I sz pc' lv (.int (I a 4) :: st)) : z_V E l (y, cc, nL, ret, hh) R mc ms Q k n G I sz pc lv (.ref a :: st) := v_get (ci := 1) (kf := 4) hd hx rfl rfl in_X1 (by decide) (by rw [hy]; exact fl_X1_36) rfl hp h
theorem p_X1_36 {x : Int32} (hy : y.cls = RX1) (hd : decode cc pc = .ok (.putfield 36, 3)) (hx : (a, sSt a) ∈ G) (hp : pc + 3 = pc') (h : z_V E l (y, cc, nL, ret, hh) R mc ms Q k n G (z_up I a 4 x) sz pc' lv st) : z_V E l (y, cc, nL, ret, hh) R mc ms Q k n G I sz pc lv (.int x :: .ref a :: st) := v_put (ci := 1) (kf := 4) (I' := z_up I a 4 x) hd hx rfl rfl in_X1 tyX1 tyX1_ok nmX1 (by decide) (by rw [hy]; exact fl_X1_36) rfl (ty := .int) (by decide +kernel) rfl rfl (by simp) (fun q h => z_up_ne I a 4 x h) (by rw [z_up_at]; rfl) hp h
theorem fl_X4_95 : Cond.fieldLink RX4 95 (TX1 4).1 (TX1 4).2.1 (TX1 4).2.2.1 ∈ gw := gw_at 131 (by decide +kernel) rfl
/-- StripeTasks$State.ticks -/
theorem g_X4_95 (hy : y.cls = RX4) (hd : decode cc pc = .ok (.getfield 95, 3)) (hx : (a, sSt a) ∈ G) (hp : pc + 3 = pc') (h : z_V E l (y, cc, nL, ret, hh) R mc ms Q k n G I sz pc' lv (.int (I a 4) :: st)) : z_V E l (y, cc, nL, ret, hh) R mc ms Q k n G I sz pc lv (.ref a :: st) := v_get (ci := 1) (kf := 4) hd hx rfl rfl in_X1 (by decide) (by rw [hy]; exact fl_X4_95) rfl hp h
theorem p_X4_95 {x : Int32} (hy : y.cls = RX4) (hd : decode cc pc = .ok (.putfield 95, 3)) (hx : (a, sSt a) ∈ G) (hp : pc + 3 = pc') (h : z_V E l (y, cc, nL, ret, hh) R mc ms Q k n G (z_up I a 4 x) sz pc' lv st) : z_V E l (y, cc, nL, ret, hh) R mc ms Q k n G I sz pc lv (.int x :: .ref a :: st) := v_put (ci := 1) (kf := 4) (I' := z_up I a 4 x) hd hx rfl rfl in_X1 tyX1 tyX1_ok nmX1 (by decide) (by rw [hy]; exact fl_X4_95) rfl (ty := .int) (by decide +kernel) rfl rfl (by simp) (fun q h => z_up_ne I a 4 x h) (by rw [z_up_at]; rfl) hp h
theorem fl_X1_39 : Cond.fieldLink RX1 39 (TX1 5).1 (TX1 5).2.1 (TX1 5).2.2.1 ∈ gw := gw_at 132 (by decide +kernel) rfl
/-- StripeTasks$State.works -/
theorem g_X1_39 (hy : y.cls = RX1) (hd : decode cc pc = .ok (.getfield 39, 3)) (hx : (a, sSt a) ∈ G) (hp : pc + 3 = pc') (h : z_V E l (y, cc, nL, ret, hh) R mc ms Q k n G I sz pc' lv (.int (I a 5) :: st)) : z_V E l (y, cc, nL, ret, hh) R mc ms Q k n G I sz pc lv (.ref a :: st) := v_get (ci := 1) (kf := 5) hd hx rfl rfl in_X1 (by decide) (by rw [hy]; exact fl_X1_39) rfl hp h
theorem p_X1_39 {x : Int32} (hy : y.cls = RX1) (hd : decode cc pc = .ok (.putfield 39, 3)) (hx : (a, sSt a) ∈ G) (hp : pc + 3 = pc') (h : z_V E l (y, cc, nL, ret, hh) R mc ms Q k n G (z_up I a 5 x) sz pc' lv st) : z_V E l (y, cc, nL, ret, hh) R mc ms Q k n G I sz pc lv (.int x :: .ref a :: st) := v_put (ci := 1) (kf := 5) (I' := z_up I a 5 x) hd hx rfl rfl in_X1 tyX1 tyX1_ok nmX1 (by decide) (by rw [hy]; exact fl_X1_39) rfl (ty := .int) (by decide +kernel) rfl rfl (by simp) (fun q h => z_up_ne I a 5 x h) (by rw [z_up_at]; rfl) hp h
theorem fl_X4_116 : Cond.fieldLink RX4 116 (TX1 5).1 (TX1 5).2.1 (TX1 5).2.2.1 ∈ gw := gw_at 133 (by decide +kernel) rfl
/-- StripeTasks$State.works -/
theorem g_X4_116 (hy : y.cls = RX4) (hd : decode cc pc = .ok (.getfield 116, 3)) (hx : (a, sSt a) ∈ G) (hp : pc + 3 = pc') (h : z_V E l (y, cc, nL, ret, hh) R mc ms Q k n G I sz pc' lv (.int (I a 5) :: st)) : z_V E l (y, cc, nL, ret, hh) R mc ms Q k n G I sz pc lv (.ref a :: st) := v_get (ci := 1) (kf := 5) hd hx rfl rfl in_X1 (by decide) (by rw [hy]; exact fl_X4_116) rfl hp h
theorem p_X4_116 {x : Int32} (hy : y.cls = RX4) (hd : decode cc pc = .ok (.putfield 116, 3)) (hx : (a, sSt a) ∈ G) (hp : pc + 3 = pc') (h : z_V E l (y, cc, nL, ret, hh) R mc ms Q k n G (z_up I a 5 x) sz pc' lv st) : z_V E l (y, cc, nL, ret, hh) R mc ms Q k n G I sz pc lv (.int x :: .ref a :: st) := v_put (ci := 1) (kf := 5) (I' := z_up I a 5 x) hd hx rfl rfl in_X1 tyX1 tyX1_ok nmX1 (by decide) (by rw [hy]; exact fl_X4_116) rfl (ty := .int) (by decide +kernel) rfl rfl (by simp) (fun q h => z_up_ne I a 5 x h) (by rw [z_up_at]; rfl) hp h
theorem fl_X1_55 : Cond.fieldLink RX1 55 (TX1 6).1 (TX1 6).2.1 (TX1 6).2.2.1 ∈ gw := gw_at 134 (by decide +kernel) rfl
/-- StripeTasks$State.jobTask -/
theorem g_X1_55 (hy : y.cls = RX1) (hd : decode cc pc = .ok (.getfield 55, 3)) (hx : (a, sSt a) ∈ G) (hp : pc + 3 = pc') (h : z_V E l (y, cc, nL, ret, hh) R mc ms Q k n G I sz pc' lv (.int (I a 6) :: st)) : z_V E l (y, cc, nL, ret, hh) R mc ms Q k n G I sz pc lv (.ref a :: st) := v_get (ci := 1) (kf := 6) hd hx rfl rfl in_X1 (by decide) (by rw [hy]; exact fl_X1_55) rfl hp h
theorem p_X1_55 {x : Int32} (hy : y.cls = RX1) (hd : decode cc pc = .ok (.putfield 55, 3)) (hx : (a, sSt a) ∈ G) (hp : pc + 3 = pc') (h : z_V E l (y, cc, nL, ret, hh) R mc ms Q k n G (z_up I a 6 x) sz pc' lv st) : z_V E l (y, cc, nL, ret, hh) R mc ms Q k n G I sz pc lv (.int x :: .ref a :: st) := v_put (ci := 1) (kf := 6) (I' := z_up I a 6 x) hd hx rfl rfl in_X1 tyX1 tyX1_ok nmX1 (by decide) (by rw [hy]; exact fl_X1_55) rfl (ty := .int) (by decide +kernel) rfl rfl (by simp) (fun q h => z_up_ne I a 6 x h) (by rw [z_up_at]; rfl) hp h
theorem fl_X4_161 : Cond.fieldLink RX4 161 (TX1 6).1 (TX1 6).2.1 (TX1 6).2.2.1 ∈ gw := gw_at 135 (by decide +kernel) rfl
/-- StripeTasks$State.jobTask -/
theorem g_X4_161 (hy : y.cls = RX4) (hd : decode cc pc = .ok (.getfield 161, 3)) (hx : (a, sSt a) ∈ G) (hp : pc + 3 = pc') (h : z_V E l (y, cc, nL, ret, hh) R mc ms Q k n G I sz pc' lv (.int (I a 6) :: st)) : z_V E l (y, cc, nL, ret, hh) R mc ms Q k n G I sz pc lv (.ref a :: st) := v_get (ci := 1) (kf := 6) hd hx rfl rfl in_X1 (by decide) (by rw [hy]; exact fl_X4_161) rfl hp h
theorem p_X4_161 {x : Int32} (hy : y.cls = RX4) (hd : decode cc pc = .ok (.putfield 161, 3)) (hx : (a, sSt a) ∈ G) (hp : pc + 3 = pc') (h : z_V E l (y, cc, nL, ret, hh) R mc ms Q k n G (z_up I a 6 x) sz pc' lv st) : z_V E l (y, cc, nL, ret, hh) R mc ms Q k n G I sz pc lv (.int x :: .ref a :: st) := v_put (ci := 1) (kf := 6) (I' := z_up I a 6 x) hd hx rfl rfl in_X1 tyX1 tyX1_ok nmX1 (by decide) (by rw [hy]; exact fl_X4_161) rfl (ty := .int) (by decide +kernel) rfl rfl (by simp) (fun q h => z_up_ne I a 6 x h) (by rw [z_up_at]; rfl) hp h
theorem fl_X1_58 : Cond.fieldLink RX1 58 (TX1 7).1 (TX1 7).2.1 (TX1 7).2.2.1 ∈ gw := gw_at 136 (by decide +kernel) rfl
/-- StripeTasks$State.jobFirst -/
theorem g_X1_58 (hy : y.cls = RX1) (hd : decode cc pc = .ok (.getfield 58, 3)) (hx : (a, sSt a) ∈ G) (hp : pc + 3 = pc') (h : z_V E l (y, cc, nL, ret, hh) R mc ms Q k n G I sz pc' lv (.int (I a 7) :: st)) : z_V E l (y, cc, nL, ret, hh) R mc ms Q k n G I sz pc lv (.ref a :: st) := v_get (ci := 1) (kf := 7) hd hx rfl rfl in_X1 (by decide) (by rw [hy]; exact fl_X1_58) rfl hp h
theorem p_X1_58 {x : Int32} (hy : y.cls = RX1) (hd : decode cc pc = .ok (.putfield 58, 3)) (hx : (a, sSt a) ∈ G) (hp : pc + 3 = pc') (h : z_V E l (y, cc, nL, ret, hh) R mc ms Q k n G (z_up I a 7 x) sz pc' lv st) : z_V E l (y, cc, nL, ret, hh) R mc ms Q k n G I sz pc lv (.int x :: .ref a :: st) := v_put (ci := 1) (kf := 7) (I' := z_up I a 7 x) hd hx rfl rfl in_X1 tyX1 tyX1_ok nmX1 (by decide) (by rw [hy]; exact fl_X1_58) rfl (ty := .int) (by decide +kernel) rfl rfl (by simp) (fun q h => z_up_ne I a 7 x h) (by rw [z_up_at]; rfl) hp h
theorem fl_X4_164 : Cond.fieldLink RX4 164 (TX1 7).1 (TX1 7).2.1 (TX1 7).2.2.1 ∈ gw := gw_at 137 (by decide +kernel) rfl
/-- StripeTasks$State.jobFirst -/
theorem g_X4_164 (hy : y.cls = RX4) (hd : decode cc pc = .ok (.getfield 164, 3)) (hx : (a, sSt a) ∈ G) (hp : pc + 3 = pc') (h : z_V E l (y, cc, nL, ret, hh) R mc ms Q k n G I sz pc' lv (.int (I a 7) :: st)) : z_V E l (y, cc, nL, ret, hh) R mc ms Q k n G I sz pc lv (.ref a :: st) := v_get (ci := 1) (kf := 7) hd hx rfl rfl in_X1 (by decide) (by rw [hy]; exact fl_X4_164) rfl hp h
theorem p_X4_164 {x : Int32} (hy : y.cls = RX4) (hd : decode cc pc = .ok (.putfield 164, 3)) (hx : (a, sSt a) ∈ G) (hp : pc + 3 = pc') (h : z_V E l (y, cc, nL, ret, hh) R mc ms Q k n G (z_up I a 7 x) sz pc' lv st) : z_V E l (y, cc, nL, ret, hh) R mc ms Q k n G I sz pc lv (.int x :: .ref a :: st) := v_put (ci := 1) (kf := 7) (I' := z_up I a 7 x) hd hx rfl rfl in_X1 tyX1 tyX1_ok nmX1 (by decide) (by rw [hy]; exact fl_X4_164) rfl (ty := .int) (by decide +kernel) rfl rfl (by simp) (fun q h => z_up_ne I a 7 x h) (by rw [z_up_at]; rfl) hp h
theorem fl_X1_61 : Cond.fieldLink RX1 61 (TX1 8).1 (TX1 8).2.1 (TX1 8).2.2.1 ∈ gw := gw_at 138 (by decide +kernel) rfl
/-- StripeTasks$State.jobTicks -/
theorem g_X1_61 (hy : y.cls = RX1) (hd : decode cc pc = .ok (.getfield 61, 3)) (hx : (a, sSt a) ∈ G) (hp : pc + 3 = pc') (h : z_V E l (y, cc, nL, ret, hh) R mc ms Q k n G I sz pc' lv (.int (I a 8) :: st)) : z_V E l (y, cc, nL, ret, hh) R mc ms Q k n G I sz pc lv (.ref a :: st) := v_get (ci := 1) (kf := 8) hd hx rfl rfl in_X1 (by decide) (by rw [hy]; exact fl_X1_61) rfl hp h
theorem p_X1_61 {x : Int32} (hy : y.cls = RX1) (hd : decode cc pc = .ok (.putfield 61, 3)) (hx : (a, sSt a) ∈ G) (hp : pc + 3 = pc') (h : z_V E l (y, cc, nL, ret, hh) R mc ms Q k n G (z_up I a 8 x) sz pc' lv st) : z_V E l (y, cc, nL, ret, hh) R mc ms Q k n G I sz pc lv (.int x :: .ref a :: st) := v_put (ci := 1) (kf := 8) (I' := z_up I a 8 x) hd hx rfl rfl in_X1 tyX1 tyX1_ok nmX1 (by decide) (by rw [hy]; exact fl_X1_61) rfl (ty := .int) (by decide +kernel) rfl rfl (by simp) (fun q h => z_up_ne I a 8 x h) (by rw [z_up_at]; rfl) hp h
theorem fl_X4_167 : Cond.fieldLink RX4 167 (TX1 8).1 (TX1 8).2.1 (TX1 8).2.2.1 ∈ gw := gw_at 139 (by decide +kernel) rfl
/-- StripeTasks$State.jobTicks -/
theorem g_X4_167 (hy : y.cls = RX4) (hd : decode cc pc = .ok (.getfield 167, 3)) (hx : (a, sSt a) ∈ G) (hp : pc + 3 = pc') (h : z_V E l (y, cc, nL, ret, hh) R mc ms Q k n G I sz pc' lv (.int (I a 8) :: st)) : z_V E l (y, cc, nL, ret, hh) R mc ms Q k n G I sz pc lv (.ref a :: st) := v_get (ci := 1) (kf := 8) hd hx rfl rfl in_X1 (by decide) (by rw [hy]; exact fl_X4_167) rfl hp h
theorem p_X4_167 {x : Int32} (hy : y.cls = RX4) (hd : decode cc pc = .ok (.putfield 167, 3)) (hx : (a, sSt a) ∈ G) (hp : pc + 3 = pc') (h : z_V E l (y, cc, nL, ret, hh) R mc ms Q k n G (z_up I a 8 x) sz pc' lv st) : z_V E l (y, cc, nL, ret, hh) R mc ms Q k n G I sz pc lv (.int x :: .ref a :: st) := v_put (ci := 1) (kf := 8) (I' := z_up I a 8 x) hd hx rfl rfl in_X1 tyX1 tyX1_ok nmX1 (by decide) (by rw [hy]; exact fl_X4_167) rfl (ty := .int) (by decide +kernel) rfl rfl (by simp) (fun q h => z_up_ne I a 8 x h) (by rw [z_up_at]; rfl) hp h
theorem fl_X1_42 : Cond.fieldLink RX1 42 (TX1 9).1 (TX1 9).2.1 (TX1 9).2.2.1 ∈ gw := gw_at 140 (by decide +kernel) rfl
/-- StripeTasks$State.jobsDone -/
theorem g_X1_42 (hy : y.cls = RX1) (hd : decode cc pc = .ok (.getfield 42, 3)) (hx : (a, sSt a) ∈ G) (hp : pc + 3 = pc') (h : z_V E l (y, cc, nL, ret, hh) R mc ms Q k n G I sz pc' lv (.int (I a 9) :: st)) : z_V E l (y, cc, nL, ret, hh) R mc ms Q k n G I sz pc lv (.ref a :: st) := v_get (ci := 1) (kf := 9) hd hx rfl rfl in_X1 (by decide) (by rw [hy]; exact fl_X1_42) rfl hp h
theorem p_X1_42 {x : Int32} (hy : y.cls = RX1) (hd : decode cc pc = .ok (.putfield 42, 3)) (hx : (a, sSt a) ∈ G) (hp : pc + 3 = pc') (h : z_V E l (y, cc, nL, ret, hh) R mc ms Q k n G (z_up I a 9 x) sz pc' lv st) : z_V E l (y, cc, nL, ret, hh) R mc ms Q k n G I sz pc lv (.int x :: .ref a :: st) := v_put (ci := 1) (kf := 9) (I' := z_up I a 9 x) hd hx rfl rfl in_X1 tyX1 tyX1_ok nmX1 (by decide) (by rw [hy]; exact fl_X1_42) rfl (ty := .int) (by decide +kernel) rfl rfl (by simp) (fun q h => z_up_ne I a 9 x h) (by rw [z_up_at]; rfl) hp h
theorem fl_X4_110 : Cond.fieldLink RX4 110 (TX1 9).1 (TX1 9).2.1 (TX1 9).2.2.1 ∈ gw := gw_at 141 (by decide +kernel) rfl
/-- StripeTasks$State.jobsDone -/
theorem g_X4_110 (hy : y.cls = RX4) (hd : decode cc pc = .ok (.getfield 110, 3)) (hx : (a, sSt a) ∈ G) (hp : pc + 3 = pc') (h : z_V E l (y, cc, nL, ret, hh) R mc ms Q k n G I sz pc' lv (.int (I a 9) :: st)) : z_V E l (y, cc, nL, ret, hh) R mc ms Q k n G I sz pc lv (.ref a :: st) := v_get (ci := 1) (kf := 9) hd hx rfl rfl in_X1 (by decide) (by rw [hy]; exact fl_X4_110) rfl hp h
theorem p_X4_110 {x : Int32} (hy : y.cls = RX4) (hd : decode cc pc = .ok (.putfield 110, 3)) (hx : (a, sSt a) ∈ G) (hp : pc + 3 = pc') (h : z_V E l (y, cc, nL, ret, hh) R mc ms Q k n G (z_up I a 9 x) sz pc' lv st) : z_V E l (y, cc, nL, ret, hh) R mc ms Q k n G I sz pc lv (.int x :: .ref a :: st) := v_put (ci := 1) (kf := 9) (I' := z_up I a 9 x) hd hx rfl rfl in_X1 tyX1 tyX1_ok nmX1 (by decide) (by rw [hy]; exact fl_X4_110) rfl (ty := .int) (by decide +kernel) rfl rfl (by simp) (fun q h => z_up_ne I a 9 x h) (by rw [z_up_at]; rfl) hp h
theorem fl_X1_45 : Cond.fieldLink RX1 45 (TX1 10).1 (TX1 10).2.1 (TX1 10).2.2.1 ∈ gw := gw_at 142 (by decide +kernel) rfl
/-- StripeTasks$State.jobsLost -/
theorem g_X1_45 (hy : y.cls = RX1) (hd : decode cc pc = .ok (.getfield 45, 3)) (hx : (a, sSt a) ∈ G) (hp : pc + 3 = pc') (h : z_V E l (y, cc, nL, ret, hh) R mc ms Q k n G I sz pc' lv (.int (I a 10) :: st)) : z_V E l (y, cc, nL, ret, hh) R mc ms Q k n G I sz pc lv (.ref a :: st) := v_get (ci := 1) (kf := 10) hd hx rfl rfl in_X1 (by decide) (by rw [hy]; exact fl_X1_45) rfl hp h
theorem p_X1_45 {x : Int32} (hy : y.cls = RX1) (hd : decode cc pc = .ok (.putfield 45, 3)) (hx : (a, sSt a) ∈ G) (hp : pc + 3 = pc') (h : z_V E l (y, cc, nL, ret, hh) R mc ms Q k n G (z_up I a 10 x) sz pc' lv st) : z_V E l (y, cc, nL, ret, hh) R mc ms Q k n G I sz pc lv (.int x :: .ref a :: st) := v_put (ci := 1) (kf := 10) (I' := z_up I a 10 x) hd hx rfl rfl in_X1 tyX1 tyX1_ok nmX1 (by decide) (by rw [hy]; exact fl_X1_45) rfl (ty := .int) (by decide +kernel) rfl rfl (by simp) (fun q h => z_up_ne I a 10 x h) (by rw [z_up_at]; rfl) hp h
theorem fl_X4_113 : Cond.fieldLink RX4 113 (TX1 10).1 (TX1 10).2.1 (TX1 10).2.2.1 ∈ gw := gw_at 143 (by decide +kernel) rfl
/-- StripeTasks$State.jobsLost -/
theorem g_X4_113 (hy : y.cls = RX4) (hd : decode cc pc = .ok (.getfield 113, 3)) (hx : (a, sSt a) ∈ G) (hp : pc + 3 = pc') (h : z_V E l (y, cc, nL, ret, hh) R mc ms Q k n G I sz pc' lv (.int (I a 10) :: st)) : z_V E l (y, cc, nL, ret, hh) R mc ms Q k n G I sz pc lv (.ref a :: st) := v_get (ci := 1) (kf := 10) hd hx rfl rfl in_X1 (by decide) (by rw [hy]; exact fl_X4_113) rfl hp h
theorem p_X4_113 {x : Int32} (hy : y.cls = RX4) (hd : decode cc pc = .ok (.putfield 113, 3)) (hx : (a, sSt a) ∈ G) (hp : pc + 3 = pc') (h : z_V E l (y, cc, nL, ret, hh) R mc ms Q k n G (z_up I a 10 x) sz pc' lv st) : z_V E l (y, cc, nL, ret, hh) R mc ms Q k n G I sz pc lv (.int x :: .ref a :: st) := v_put (ci := 1) (kf := 10) (I' := z_up I a 10 x) hd hx rfl rfl in_X1 tyX1 tyX1_ok nmX1 (by decide) (by rw [hy]; exact fl_X4_113) rfl (ty := .int) (by decide +kernel) rfl rfl (by simp) (fun q h => z_up_ne I a 10 x h) (by rw [z_up_at]; rfl) hp h
theorem fl_X0_11 : Cond.fieldLink RX0 11 (TX0 0).1 (TX0 0).2.1 (TX0 0).2.2.1 ∈ gw := gw_at 176 (by decide +kernel) rfl
/-- StripeTasks$History.states -/
theorem g_X0_11 (hy : y.cls = RX0) (hd : decode cc pc = .ok (.getfield 11, 3)) (hx : (a, sHi a) ∈ G) (hp : pc + 3 = pc') (h : z_V E l (y, cc, nL, ret, hh) R mc ms Q k n G I sz pc' lv (.ref (a + 1) :: st)) : z_V E l (y, cc, nL, ret, hh) R mc ms Q k n G I sz pc lv (.ref a :: st) := v_get (ci := 0) (kf := 0) hd hx rfl rfl in_X0 (by decide) (by rw [hy]; exact fl_X0_11) rfl hp h
theorem fl_X0_17 : Cond.fieldLink RX0 17 (TX0 1).1 (TX0 1).2.1 (TX0 1).2.2.1 ∈ gw := gw_at 177 (by decide +kernel) rfl
/-- StripeTasks$History.oldest -/
theorem g_X0_17 (hy : y.cls = RX0) (hd : decode cc pc = .ok (.getfield 17, 3)) (hx : (a, sHi a) ∈ G) (hp : pc + 3 = pc') (h : z_V E l (y, cc, nL, ret, hh) R mc ms Q k n G I sz pc' lv (.int (I a 1) :: st)) : z_V E l (y, cc, nL, ret, hh) R mc ms Q k n G I sz pc lv (.ref a :: st) := v_get (ci := 0) (kf := 1) hd hx rfl rfl in_X0 (by decide) (by rw [hy]; exact fl_X0_17) rfl hp h
theorem p_X0_17 {x : Int32} (hy : y.cls = RX0) (hd : decode cc pc = .ok (.putfield 17, 3)) (hx : (a, sHi a) ∈ G) (hp : pc + 3 = pc') (h : z_V E l (y, cc, nL, ret, hh) R mc ms Q k n G (z_up I a 1 x) sz pc' lv st) : z_V E l (y, cc, nL, ret, hh) R mc ms Q k n G I sz pc lv (.int x :: .ref a :: st) := v_put (ci := 0) (kf := 1) (I' := z_up I a 1 x) hd hx rfl rfl in_X0 tyX0 tyX0_ok nmX0 (by decide) (by rw [hy]; exact fl_X0_17) rfl (ty := .int) (by decide +kernel) rfl rfl (by simp) (fun q h => z_up_ne I a 1 x h) (by rw [z_up_at]; rfl) hp h
theorem fl_X0_21 : Cond.fieldLink RX0 21 (TX0 2).1 (TX0 2).2.1 (TX0 2).2.2.1 ∈ gw := gw_at 178 (by decide +kernel) rfl
/-- StripeTasks$History.size -/
theorem g_X0_21 (hy : y.cls = RX0) (hd : decode cc pc = .ok (.getfield 21, 3)) (hx : (a, sHi a) ∈ G) (hp : pc + 3 = pc') (h : z_V E l (y, cc, nL, ret, hh) R mc ms Q k n G I sz pc' lv (.int (I a 2) :: st)) : z_V E l (y, cc, nL, ret, hh) R mc ms Q k n G I sz pc lv (.ref a :: st) := v_get (ci := 0) (kf := 2) hd hx rfl rfl in_X0 (by decide) (by rw [hy]; exact fl_X0_21) rfl hp h
theorem p_X0_21 {x : Int32} (hy : y.cls = RX0) (hd : decode cc pc = .ok (.putfield 21, 3)) (hx : (a, sHi a) ∈ G) (hp : pc + 3 = pc') (h : z_V E l (y, cc, nL, ret, hh) R mc ms Q k n G (z_up I a 2 x) sz pc' lv st) : z_V E l (y, cc, nL, ret, hh) R mc ms Q k n G I sz pc lv (.int x :: .ref a :: st) := v_put (ci := 0) (kf := 2) (I' := z_up I a 2 x) hd hx rfl rfl in_X0 tyX0 tyX0_ok nmX0 (by decide) (by rw [hy]; exact fl_X0_21) rfl (ty := .int) (by decide +kernel) rfl rfl (by simp) (fun q h => z_up_ne I a 2 x h) (by rw [z_up_at]; rfl) hp h
theorem fl_X4_225 : Cond.fieldLink RX4 225 (TX0 2).1 (TX0 2).2.1 (TX0 2).2.2.1 ∈ gw := gw_at 179 (by decide +kernel) rfl
/-- StripeTasks$History.size -/
theorem g_X4_225 (hy : y.cls = RX4) (hd : decode cc pc = .ok (.getfield 225, 3)) (hx : (a, sHi a) ∈ G) (hp : pc + 3 = pc') (h : z_V E l (y, cc, nL, ret, hh) R mc ms Q k n G I sz pc' lv (.int (I a 2) :: st)) : z_V E l (y, cc, nL, ret, hh) R mc ms Q k n G I sz pc lv (.ref a :: st) := v_get (ci := 0) (kf := 2) hd hx rfl rfl in_X0 (by decide) (by rw [hy]; exact fl_X4_225) rfl hp h
theorem p_X4_225 {x : Int32} (hy : y.cls = RX4) (hd : decode cc pc = .ok (.putfield 225, 3)) (hx : (a, sHi a) ∈ G) (hp : pc + 3 = pc') (h : z_V E l (y, cc, nL, ret, hh) R mc ms Q k n G (z_up I a 2 x) sz pc' lv st) : z_V E l (y, cc, nL, ret, hh) R mc ms Q k n G I sz pc lv (.int x :: .ref a :: st) := v_put (ci := 0) (kf := 2) (I' := z_up I a 2 x) hd hx rfl rfl in_X0 tyX0 tyX0_ok nmX0 (by decide) (by rw [hy]; exact fl_X4_225) rfl (ty := .int) (by decide +kernel) rfl rfl (by simp) (fun q h => z_up_ne I a 2 x h) (by rw [z_up_at]; rfl) hp h
theorem fl_X4_10 : Cond.fieldLink RX4 10 (TX4 0).1 (TX4 0).2.1 (TX4 0).2.2.1 ∈ gw := gw_at 187 (by decide +kernel) rfl
/-- StripeTasks.text -/
theorem g_X4_10 (hy : y.cls = RX4) (hd : decode cc pc = .ok (.getfield 10, 3)) (hx : (a, sSk a) ∈ G) (hp : pc + 3 = pc') (h : z_V E l (y, cc, nL, ret, hh) R mc ms Q k n G I sz pc' lv (.ref (a + 1) :: st)) : z_V E l (y, cc, nL, ret, hh) R mc ms Q k n G I sz pc lv (.ref a :: st) := v_get (ci := 4) (kf := 0) hd hx rfl rfl in_X4 (by decide) (by rw [hy]; exact fl_X4_10) rfl hp h
theorem fl_X4_19 : Cond.fieldLink RX4 19 (TX4 1).1 (TX4 1).2.1 (TX4 1).2.2.1 ∈ gw := gw_at 188 (by decide +kernel) rfl
/-- StripeTasks.now -/
theorem g_X4_19 (hy : y.cls = RX4) (hd : decode cc pc = .ok (.getfield 19, 3)) (hx : (a, sSk a) ∈ G) (hp : pc + 3 = pc') (h : z_V E l (y, cc, nL, ret, hh) R mc ms Q k n G I sz pc' lv (.ref (a + 3) :: st)) : z_V E l (y, cc, nL, ret, hh) R mc ms Q k n G I sz pc lv (.ref a :: st) := v_get (ci := 4) (kf := 1) hd hx rfl rfl in_X4 (by decide) (by rw [hy]; exact fl_X4_19) rfl hp h
theorem fl_X4_23 : Cond.fieldLink RX4 23 (TX4 2).1 (TX4 2).2.1 (TX4 2).2.2.1 ∈ gw := gw_at 189 (by decide +kernel) rfl
/-- StripeTasks.trial -/
theorem g_X4_23 (hy : y.cls = RX4) (hd : decode cc pc = .ok (.getfield 23, 3)) (hx : (a, sSk a) ∈ G) (hp : pc + 3 = pc') (h : z_V E l (y, cc, nL, ret, hh) R mc ms Q k n G I sz pc' lv (.ref (a + 13) :: st)) : z_V E l (y, cc, nL, ret, hh) R mc ms Q k n G I sz pc lv (.ref a :: st) := v_get (ci := 4) (kf := 2) hd hx rfl rfl in_X4 (by decide) (by rw [hy]; exact fl_X4_23) rfl hp h
theorem fl_X4_29 : Cond.fieldLink RX4 29 (TX4 3).1 (TX4 3).2.1 (TX4 3).2.2.1 ∈ gw := gw_at 190 (by decide +kernel) rfl
/-- StripeTasks.history -/
theorem g_X4_29 (hy : y.cls = RX4) (hd : decode cc pc = .ok (.getfield 29, 3)) (hx : (a, sSk a) ∈ G) (hp : pc + 3 = pc') (h : z_V E l (y, cc, nL, ret, hh) R mc ms Q k n G I sz pc' lv (.ref (a + 23) :: st)) : z_V E l (y, cc, nL, ret, hh) R mc ms Q k n G I sz pc lv (.ref a :: st) := v_get (ci := 4) (kf := 3) hd hx rfl rfl in_X4 (by decide) (by rw [hy]; exact fl_X4_29) rfl hp h
theorem fl_X4_33 : Cond.fieldLink RX4 33 (TX4 4).1 (TX4 4).2.1 (TX4 4).2.2.1 ∈ gw := gw_at 191 (by decide +kernel) rfl
/-- StripeTasks.slots -/
theorem g_X4_33 (hy : y.cls = RX4) (hd : decode cc pc = .ok (.getfield 33, 3)) (hx : (a, sSk a) ∈ G) (hp : pc + 3 = pc') (h : z_V E l (y, cc, nL, ret, hh) R mc ms Q k n G I sz pc' lv (.ref (a + 165) :: st)) : z_V E l (y, cc, nL, ret, hh) R mc ms Q k n G I sz pc lv (.ref a :: st) := v_get (ci := 4) (kf := 4) hd hx rfl rfl in_X4 (by decide) (by rw [hy]; exact fl_X4_33) rfl hp h
theorem fl_X4_37 : Cond.fieldLink RX4 37 (TX4 5).1 (TX4 5).2.1 (TX4 5).2.2.1 ∈ gw := gw_at 192 (by decide +kernel) rfl
/-- StripeTasks.slotFilled -/
theorem g_X4_37 (hy : y.cls = RX4) (hd : decode cc pc = .ok (.getfield 37, 3)) (hx : (a, sSk a) ∈ G) (hp : pc + 3 = pc') (h : z_V E l (y, cc, nL, ret, hh) R mc ms Q k n G I sz pc' lv (.ref (a + 166) :: st)) : z_V E l (y, cc, nL, ret, hh) R mc ms Q k n G I sz pc lv (.ref a :: st) := v_get (ci := 4) (kf := 5) hd hx rfl rfl in_X4 (by decide) (by rw [hy]; exact fl_X4_37) rfl hp h
theorem fl_X4_219 : Cond.fieldLink RX4 219 RX4 "LEAST_SETTINGS" "[I" ∈ gw := gw_at 647 (by decide +kernel) rfl
theorem fl_X4_222 : Cond.fieldLink RX4 222 RX4 "MOST_SETTINGS" "[I" ∈ gw := gw_at 649 (by decide +kernel) rfl
theorem fl_X5_33 : Cond.fieldLink RX5 33 (TX5 0).1 (TX5 0).2.1 (TX5 0).2.2.1 ∈ gw := gw_at 767 (by decide +kernel) rfl
/-- StripeTasksModel.refusal -/
theorem g_X5_33 (hy : y.cls = RX5) (hd : decode cc pc = .ok (.getfield 33, 3)) (hx : (a, sMd a) ∈ G) (hp : pc + 3 = pc') (h : z_V E l (y, cc, nL, ret, hh) R mc ms Q k n G I sz pc' lv (.int (I a 0) :: st)) : z_V E l (y, cc, nL, ret, hh) R mc ms Q k n G I sz pc lv (.ref a :: st) := v_get (ci := 5) (kf := 0) hd hx rfl rfl in_X5 (by decide) (by rw [hy]; exact fl_X5_33) rfl hp h
theorem p_X5_33 {x : Int32} (hy : y.cls = RX5) (hd : decode cc pc = .ok (.putfield 33, 3)) (hx : (a, sMd a) ∈ G) (hp : pc + 3 = pc') (h : z_V E l (y, cc, nL, ret, hh) R mc ms Q k n G (z_up I a 0 x) sz pc' lv st) : z_V E l (y, cc, nL, ret, hh) R mc ms Q k n G I sz pc lv (.int x :: .ref a :: st) := v_put (ci := 5) (kf := 0) (I' := z_up I a 0 x) hd hx rfl rfl in_X5 tyX5 tyX5_ok nmX5 (by decide) (by rw [hy]; exact fl_X5_33) rfl (ty := .int) (by decide +kernel) rfl rfl (by simp) (fun q h => z_up_ne I a 0 x h) (by rw [z_up_at]; rfl) hp h
theorem fl_X5_7 : Cond.fieldLink RX5 7 (TX5 1).1 (TX5 1).2.1 (TX5 1).2.2.1 ∈ gw := gw_at 768 (by decide +kernel) rfl
/-- StripeTasksModel.text -/
theorem g_X5_7 (hy : y.cls = RX5) (hd : decode cc pc = .ok (.getfield 7, 3)) (hx : (a, sMd a) ∈ G) (hp : pc + 3 = pc') (h : z_V E l (y, cc, nL, ret, hh) R mc ms Q k n G I sz pc' lv (.ref (a + 1) :: st)) : z_V E l (y, cc, nL, ret, hh) R mc ms Q k n G I sz pc lv (.ref a :: st) := v_get (ci := 5) (kf := 1) hd hx rfl rfl in_X5 (by decide) (by rw [hy]; exact fl_X5_7) rfl hp h
theorem fl_X5_96 : Cond.fieldLink RX5 96 (TX5 2).1 (TX5 2).2.1 (TX5 2).2.2.1 ∈ gw := gw_at 769 (by decide +kernel) rfl
/-- StripeTasksModel.size -/
theorem g_X5_96 (hy : y.cls = RX5) (hd : decode cc pc = .ok (.getfield 96, 3)) (hx : (a, sMd a) ∈ G) (hp : pc + 3 = pc') (h : z_V E l (y, cc, nL, ret, hh) R mc ms Q k n G I sz pc' lv (.int (I a 2) :: st)) : z_V E l (y, cc, nL, ret, hh) R mc ms Q k n G I sz pc lv (.ref a :: st) := v_get (ci := 5) (kf := 2) hd hx rfl rfl in_X5 (by decide) (by rw [hy]; exact fl_X5_96) rfl hp h
theorem p_X5_96 {x : Int32} (hy : y.cls = RX5) (hd : decode cc pc = .ok (.putfield 96, 3)) (hx : (a, sMd a) ∈ G) (hp : pc + 3 = pc') (h : z_V E l (y, cc, nL, ret, hh) R mc ms Q k n G (z_up I a 2 x) sz pc' lv st) : z_V E l (y, cc, nL, ret, hh) R mc ms Q k n G I sz pc lv (.int x :: .ref a :: st) := v_put (ci := 5) (kf := 2) (I' := z_up I a 2 x) hd hx rfl rfl in_X5 tyX5 tyX5_ok nmX5 (by decide) (by rw [hy]; exact fl_X5_96) rfl (ty := .int) (by decide +kernel) rfl rfl (by simp) (fun q h => z_up_ne I a 2 x h) (by rw [z_up_at]; rfl) hp h
theorem fl_X5_13 : Cond.fieldLink RX5 13 (TX5 3).1 (TX5 3).2.1 (TX5 3).2.2.1 ∈ gw := gw_at 770 (by decide +kernel) rfl
/-- StripeTasksModel.now -/
theorem g_X5_13 (hy : y.cls = RX5) (hd : decode cc pc = .ok (.getfield 13, 3)) (hx : (a, sMd a) ∈ G) (hp : pc + 3 = pc') (h : z_V E l (y, cc, nL, ret, hh) R mc ms Q k n G I sz pc' lv (.ref (a + 2) :: st)) : z_V E l (y, cc, nL, ret, hh) R mc ms Q k n G I sz pc lv (.ref a :: st) := v_get (ci := 5) (kf := 3) hd hx rfl rfl in_X5 (by decide) (by rw [hy]; exact fl_X5_13) rfl hp h
theorem fl_X5_16 : Cond.fieldLink RX5 16 (TX5 4).1 (TX5 4).2.1 (TX5 4).2.2.1 ∈ gw := gw_at 771 (by decide +kernel) rfl
/-- StripeTasksModel.trial -/
theorem g_X5_16 (hy : y.cls = RX5) (hd : decode cc pc = .ok (.getfield 16, 3)) (hx : (a, sMd a) ∈ G) (hp : pc + 3 = pc') (h : z_V E l (y, cc, nL, ret, hh) R mc ms Q k n G I sz pc' lv (.ref (a + 3) :: st)) : z_V E l (y, cc, nL, ret, hh) R mc ms Q k n G I sz pc lv (.ref a :: st) := v_get (ci := 5) (kf := 4) hd hx rfl rfl in_X5 (by decide) (by rw [hy]; exact fl_X5_16) rfl hp h
theorem fl_X5_19 : Cond.fieldLink RX5 19 (TX5 5).1 (TX5 5).2.1 (TX5 5).2.2.1 ∈ gw := gw_at 772 (by decide +kernel) rfl
/-- StripeTasksModel.diary -/
theorem g_X5_19 (hy : y.cls = RX5) (hd : decode cc pc = .ok (.getfield 19, 3)) (hx : (a, sMd a) ∈ G) (hp : pc + 3 = pc') (h : z_V E l (y, cc, nL, ret, hh) R mc ms Q k n G I sz pc' lv (.ref (a + 4) :: st)) : z_V E l (y, cc, nL, ret, hh) R mc ms Q k n G I sz pc lv (.ref a :: st) := v_get (ci := 5) (kf := 5) hd hx rfl rfl in_X5 (by decide) (by rw [hy]; exact fl_X5_19) rfl hp h
theorem fl_X5_152 : Cond.fieldLink RX5 152 (TX5 6).1 (TX5 6).2.1 (TX5 6).2.2.1 ∈ gw := gw_at 773 (by decide +kernel) rfl
/-- StripeTasksModel.acts -/
theorem g_X5_152 (hy : y.cls = RX5) (hd : decode cc pc = .ok (.getfield 152, 3)) (hx : (a, sMd a) ∈ G) (hp : pc + 3 = pc') (h : z_V E l (y, cc, nL, ret, hh) R mc ms Q k n G I sz pc' lv (.int (I a 6) :: st)) : z_V E l (y, cc, nL, ret, hh) R mc ms Q k n G I sz pc lv (.ref a :: st) := v_get (ci := 5) (kf := 6) hd hx rfl rfl in_X5 (by decide) (by rw [hy]; exact fl_X5_152) rfl hp h
theorem p_X5_152 {x : Int32} (hy : y.cls = RX5) (hd : decode cc pc = .ok (.putfield 152, 3)) (hx : (a, sMd a) ∈ G) (hp : pc + 3 = pc') (h : z_V E l (y, cc, nL, ret, hh) R mc ms Q k n G (z_up I a 6 x) sz pc' lv st) : z_V E l (y, cc, nL, ret, hh) R mc ms Q k n G I sz pc lv (.int x :: .ref a :: st) := v_put (ci := 5) (kf := 6) (I' := z_up I a 6 x) hd hx rfl rfl in_X5 tyX5 tyX5_ok nmX5 (by decide) (by rw [hy]; exact fl_X5_152) rfl (ty := .int) (by decide +kernel) rfl rfl (by simp) (fun q h => z_up_ne I a 6 x h) (by rw [z_up_at]; rfl) hp h
theorem fl_X5_22 : Cond.fieldLink RX5 22 (TX5 7).1 (TX5 7).2.1 (TX5 7).2.2.1 ∈ gw := gw_at 774 (by decide +kernel) rfl
/-- StripeTasksModel.kept -/
theorem g_X5_22 (hy : y.cls = RX5) (hd : decode cc pc = .ok (.getfield 22, 3)) (hx : (a, sMd a) ∈ G) (hp : pc + 3 = pc') (h : z_V E l (y, cc, nL, ret, hh) R mc ms Q k n G I sz pc' lv (.ref (a + 5) :: st)) : z_V E l (y, cc, nL, ret, hh) R mc ms Q k n G I sz pc lv (.ref a :: st) := v_get (ci := 5) (kf := 7) hd hx rfl rfl in_X5 (by decide) (by rw [hy]; exact fl_X5_22) rfl hp h
theorem fl_X5_25 : Cond.fieldLink RX5 25 (TX5 8).1 (TX5 8).2.1 (TX5 8).2.2.1 ∈ gw := gw_at 775 (by decide +kernel) rfl
/-- StripeTasksModel.isKept -/
theorem g_X5_25 (hy : y.cls = RX5) (hd : decode cc pc = .ok (.getfield 25, 3)) (hx : (a, sMd a) ∈ G) (hp : pc + 3 = pc') (h : z_V E l (y, cc, nL, ret, hh) R mc ms Q k n G I sz pc' lv (.ref (a + 6) :: st)) : z_V E l (y, cc, nL, ret, hh) R mc ms Q k n G I sz pc lv (.ref a :: st) := v_get (ci := 5) (kf := 8) hd hx rfl rfl in_X5 (by decide) (by rw [hy]; exact fl_X5_25) rfl hp h
theorem fl_X5_102 : Cond.fieldLink RX5 102 (TX5 9).1 (TX5 9).2.1 (TX5 9).2.2.1 ∈ gw := gw_at 776 (by decide +kernel) rfl
/-- StripeTasksModel.spot -/
theorem g_X5_102 (hy : y.cls = RX5) (hd : decode cc pc = .ok (.getfield 102, 3)) (hx : (a, sMd a) ∈ G) (hp : pc + 3 = pc') (h : z_V E l (y, cc, nL, ret, hh) R mc ms Q k n G I sz pc' lv (.int (I a 9) :: st)) : z_V E l (y, cc, nL, ret, hh) R mc ms Q k n G I sz pc lv (.ref a :: st) := v_get (ci := 5) (kf := 9) hd hx rfl rfl in_X5 (by decide) (by rw [hy]; exact fl_X5_102) rfl hp h
theorem p_X5_102 {x : Int32} (hy : y.cls = RX5) (hd : decode cc pc = .ok (.putfield 102, 3)) (hx : (a, sMd a) ∈ G) (hp : pc + 3 = pc') (h : z_V E l (y, cc, nL, ret, hh) R mc ms Q k n G (z_up I a 9 x) sz pc' lv st) : z_V E l (y, cc, nL, ret, hh) R mc ms Q k n G I sz pc lv (.int x :: .ref a :: st) := v_put (ci := 5) (kf := 9) (I' := z_up I a 9 x) hd hx rfl rfl in_X5 tyX5 tyX5_ok nmX5 (by decide) (by rw [hy]; exact fl_X5_102) rfl (ty := .int) (by decide +kernel) rfl rfl (by simp) (fun q h => z_up_ne I a 9 x h) (by rw [z_up_at]; rfl) hp h
theorem fl_X5_105 : Cond.fieldLink RX5 105 (TX5 10).1 (TX5 10).2.1 (TX5 10).2.2.1 ∈ gw := gw_at 777 (by decide +kernel) rfl
/-- StripeTasksModel.out -/
theorem g_X5_105 (hy : y.cls = RX5) (hd : decode cc pc = .ok (.getfield 105, 3)) (hx : (a, sMd a) ∈ G) (hp : pc + 3 = pc') (h : z_V E l (y, cc, nL, ret, hh) R mc ms Q k n G I sz pc' lv (.int (I a 10) :: st)) : z_V E l (y, cc, nL, ret, hh) R mc ms Q k n G I sz pc lv (.ref a :: st) := v_get (ci := 5) (kf := 10) hd hx rfl rfl in_X5 (by decide) (by rw [hy]; exact fl_X5_105) rfl hp h
theorem p_X5_105 {x : Int32} (hy : y.cls = RX5) (hd : decode cc pc = .ok (.putfield 105, 3)) (hx : (a, sMd a) ∈ G) (hp : pc + 3 = pc') (h : z_V E l (y, cc, nL, ret, hh) R mc ms Q k n G (z_up I a 10 x) sz pc' lv st) : z_V E l (y, cc, nL, ret, hh) R mc ms Q k n G I sz pc lv (.int x :: .ref a :: st) := v_put (ci := 5) (kf := 10) (I' := z_up I a 10 x) hd hx rfl rfl in_X5 tyX5 tyX5_ok nmX5 (by decide) (by rw [hy]; exact fl_X5_105) rfl (ty := .int) (by decide +kernel) rfl rfl (by simp) (fun q h => z_up_ne I a 10 x h) (by rw [z_up_at]; rfl) hp h
end ZFIELDS
theorem fl_X1_29 : Cond.fieldLinkNest RX1 29 RX4 "FIRST_SETTINGS" "[I" RX4 ∈ z_nst := z_nst_at 118 (by decide +kernel) rfl
abbrev mX4_init : zM := (yX4_init, cX4_init, 2, (none), [])
theorem mwX4_init : z_mw yX4_init cX4_init 2 (none) 0 := ⟨gw_at 13 (by decide +kernel) rfl, gw_at 30 (by decide +kernel) rfl, (by decide +kernel), by decide⟩
theorem miX4_init : Cond.instanceMethod yX4_init ∈ gw := gw_at 29 (by decide +kernel) rfl
abbrev mX3_init : zM := (yX3_init, cX3_init, 1, (none), [])
theorem mwX3_init : z_mw yX3_init cX3_init 1 (none) 0 := ⟨gw_at 14 (by decide +kernel) rfl, gw_at 38 (by decide +kernel) rfl, (by decide +kernel), by decide⟩
theorem miX3_init : Cond.instanceMethod yX3_init ∈ gw := gw_at 37 (by decide +kernel) rfl
abbrev mX1_init : zM := (yX1_init, cX1_init, 2, (none), [])
theorem mwX1_init : z_mw yX1_init cX1_init 2 (none) 0 := ⟨gw_at 15 (by decide +kernel) rfl, gw_at 70 (by decide +kernel) rfl, (by decide +kernel), by decide⟩
theorem miX1_init : Cond.instanceMethod yX1_init ∈ gw := gw_at 69 (by decide +kernel) rfl
abbrev mX2_init : zM := (yX2_init, cX2_init, 1, (none), [])
theorem mwX2_init : z_mw yX2_init cX2_init 1 (none) 0 := ⟨gw_at 16 (by decide +kernel) rfl, gw_at 77 (by decide +kernel) rfl, (by decide +kernel), by decide⟩
theorem miX2_init : Cond.instanceMethod yX2_init ∈ gw := gw_at 76 (by decide +kernel) rfl
abbrev mX1_reset : zM := (yX1_reset, cX1_reset, 2, (none), [])
theorem mwX1_reset : z_mw yX1_reset cX1_reset 2 (none) 0 := ⟨gw_at 15 (by decide +kernel) rfl, gw_at 117 (by decide +kernel) rfl, (by decide +kernel), by decide⟩
theorem miX1_reset : z_mi yX1_reset := ⟨gw_at 115 (by decide +kernel) rfl, gw_at 116 (by decide +kernel) rfl⟩
abbrev mX1_endJob : zM := (yX1_endJob, cX1_endJob, 1, (none), [])
theorem mwX1_endJob : z_mw yX1_endJob cX1_endJob 1 (none) 0 := ⟨gw_at 15 (by decide +kernel) rfl, gw_at 123 (by decide +kernel) rfl, (by decide +kernel), by decide⟩
theorem miX1_endJob : z_mi yX1_endJob := ⟨gw_at 121 (by decide +kernel) rfl, gw_at 122 (by decide +kernel) rfl⟩
abbrev mX0_init : zM := (yX0_init, cX0_init, 2, (none), [])
theorem mwX0_init : z_mw yX0_init cX0_init 2 (none) 0 := ⟨gw_at 17 (by decide +kernel) rfl, gw_at 171 (by decide +kernel) rfl, (by decide +kernel), by decide⟩
theorem miX0_init : Cond.instanceMethod yX0_init ∈ gw := gw_at 170 (by decide +kernel) rfl
abbrev mX4_clearText : zM := (yX4_clearText, cX4_clearText, 1, (some FieldType.int), [])
theorem mwX4_clearText : z_mw yX4_clearText cX4_clearText 1 (some FieldType.int) 0 := ⟨gw_at 13 (by decide +kernel) rfl, gw_at 209 (by decide +kernel) rfl, (by decide +kernel), by decide⟩
theorem miX4_clearText : z_mi yX4_clearText := ⟨gw_at 207 (by decide +kernel) rfl, gw_at 208 (by decide +kernel) rfl⟩
abbrev mX3_makeEmpty : zM := (yX3_makeEmpty, cX3_makeEmpty, 2, (some FieldType.int), [])
theorem mwX3_makeEmpty : z_mw yX3_makeEmpty cX3_makeEmpty 2 (some FieldType.int) 0 := ⟨gw_at 14 (by decide +kernel) rfl, gw_at 213 (by decide +kernel) rfl, (by decide +kernel), by decide⟩
theorem miX3_makeEmpty : z_mi yX3_makeEmpty := ⟨gw_at 211 (by decide +kernel) rfl, gw_at 212 (by decide +kernel) rfl⟩
abbrev mX4_errorPosition : zM := (yX4_errorPosition, cX4_errorPosition, 1, (some FieldType.int), [])
theorem mwX4_errorPosition : z_mw yX4_errorPosition cX4_errorPosition 1 (some FieldType.int) 0 := ⟨gw_at 13 (by decide +kernel) rfl, gw_at 217 (by decide +kernel) rfl, (by decide +kernel), by decide⟩
theorem miX4_errorPosition : z_mi yX4_errorPosition := ⟨gw_at 215 (by decide +kernel) rfl, gw_at 216 (by decide +kernel) rfl⟩
abbrev mX3_firstError : zM := (yX3_firstError, cX3_firstError, 2, (some FieldType.int), [])
theorem mwX3_firstError : z_mw yX3_firstError cX3_firstError 2 (some FieldType.int) 0 := ⟨gw_at 14 (by decide +kernel) rfl, gw_at 221 (by decide +kernel) rfl, (by decide +kernel), by decide⟩
theorem miX3_firstError : z_mi yX3_firstError := ⟨gw_at 219 (by decide +kernel) rfl, gw_at 220 (by decide +kernel) rfl⟩
abbrev mX3_beginReading : zM := (yX3_beginReading, cX3_beginReading, 1, (none), [])
theorem mwX3_beginReading : z_mw yX3_beginReading cX3_beginReading 1 (none) 0 := ⟨gw_at 14 (by decide +kernel) rfl, gw_at 225 (by decide +kernel) rfl, (by decide +kernel), by decide⟩
theorem miX3_beginReading : z_mi yX3_beginReading := ⟨gw_at 223 (by decide +kernel) rfl, gw_at 224 (by decide +kernel) rfl⟩
abbrev mX3_readCommand : zM := (yX3_readCommand, cX3_readCommand, 1, (some FieldType.boolean), [])
theorem mwX3_readCommand : z_mw yX3_readCommand cX3_readCommand 1 (some FieldType.boolean) 0 := ⟨gw_at 14 (by decide +kernel) rfl, gw_at 229 (by decide +kernel) rfl, (by decide +kernel), by decide⟩
theorem miX3_readCommand : z_mi yX3_readCommand := ⟨gw_at 227 (by decide +kernel) rfl, gw_at 228 (by decide +kernel) rfl⟩
abbrev mX3_isInText : zM := (yX3_isInText, cX3_isInText, 2, (some FieldType.boolean), [])
theorem mwX3_isInText : z_mw yX3_isInText cX3_isInText 2 (some FieldType.boolean) 1 := ⟨gw_at 14 (by decide +kernel) rfl, gw_at 233 (by decide +kernel) rfl, (by decide +kernel), by decide⟩
theorem miX3_isInText : z_mi yX3_isInText := ⟨gw_at 232 (by decide +kernel) rfl, gw_at 0 (by decide +kernel) rfl⟩
abbrev mX4_isBetween : zM := (yX4_isBetween, cX4_isBetween, 3, (some FieldType.boolean), [])
theorem mwX4_isBetween : z_mw yX4_isBetween cX4_isBetween 3 (some FieldType.boolean) 3 := ⟨gw_at 13 (by decide +kernel) rfl, gw_at 236 (by decide +kernel) rfl, (by decide +kernel), by decide⟩
theorem msX4_isBetween : Cond.static yX4_isBetween ∈ gw := gw_at 235 (by decide +kernel) rfl
abbrev mX3_readNumber : zM := (yX3_readNumber, cX3_readNumber, 8, (some FieldType.int), [])
theorem mwX3_readNumber : z_mw yX3_readNumber cX3_readNumber 8 (some FieldType.int) 3 := ⟨gw_at 14 (by decide +kernel) rfl, gw_at 240 (by decide +kernel) rfl, (by decide +kernel), by decide⟩
theorem miX3_readNumber : z_mi yX3_readNumber := ⟨gw_at 239 (by decide +kernel) rfl, gw_at 1 (by decide +kernel) rfl⟩
abbrev mX3_digitAt : zM := (yX3_digitAt, cX3_digitAt, 2, (some FieldType.int), [])
theorem mwX3_digitAt : z_mw yX3_digitAt cX3_digitAt 2 (some FieldType.int) 1 := ⟨gw_at 14 (by decide +kernel) rfl, gw_at 244 (by decide +kernel) rfl, (by decide +kernel), by decide⟩
theorem miX3_digitAt : z_mi yX3_digitAt := ⟨gw_at 243 (by decide +kernel) rfl, gw_at 2 (by decide +kernel) rfl⟩
abbrev mX4_idleIn : zM := (yX4_idleIn, cX4_idleIn, 1, (some FieldType.int), [])
theorem mwX4_idleIn : z_mw yX4_idleIn cX4_idleIn 1 (some FieldType.int) 0 := ⟨gw_at 13 (by decide +kernel) rfl, gw_at 248 (by decide +kernel) rfl, (by decide +kernel), by decide⟩
theorem miX4_idleIn : z_mi yX4_idleIn := ⟨gw_at 246 (by decide +kernel) rfl, gw_at 247 (by decide +kernel) rfl⟩
abbrev mX1_ticksUntilIdle : zM := (yX1_ticksUntilIdle, cX1_ticksUntilIdle, 2, (some FieldType.int), [])
theorem mwX1_ticksUntilIdle : z_mw yX1_ticksUntilIdle cX1_ticksUntilIdle 2 (some FieldType.int) 0 := ⟨gw_at 15 (by decide +kernel) rfl, gw_at 252 (by decide +kernel) rfl, (by decide +kernel), by decide⟩
theorem miX1_ticksUntilIdle : z_mi yX1_ticksUntilIdle := ⟨gw_at 250 (by decide +kernel) rfl, gw_at 251 (by decide +kernel) rfl⟩
abbrev mX1_jobOwner : zM := (yX1_jobOwner, cX1_jobOwner, 1, (some (FieldType.object "StripeTasks$Task")), [])
theorem mwX1_jobOwner : z_mw yX1_jobOwner cX1_jobOwner 1 (some (FieldType.object "StripeTasks$Task")) 0 := ⟨gw_at 15 (by decide +kernel) rfl, gw_at 256 (by decide +kernel) rfl, (by decide +kernel), by decide⟩
theorem miX1_jobOwner : z_mi yX1_jobOwner := ⟨gw_at 254 (by decide +kernel) rfl, gw_at 255 (by decide +kernel) rfl⟩
abbrev mX1_taskNumbered : zM := (yX1_taskNumbered, cX1_taskNumbered, 2, (some (FieldType.object "StripeTasks$Task")), [])
theorem mwX1_taskNumbered : z_mw yX1_taskNumbered cX1_taskNumbered 2 (some (FieldType.object "StripeTasks$Task")) 1 := ⟨gw_at 15 (by decide +kernel) rfl, gw_at 260 (by decide +kernel) rfl, (by decide +kernel), by decide⟩
theorem miX1_taskNumbered : z_mi yX1_taskNumbered := ⟨gw_at 258 (by decide +kernel) rfl, gw_at 259 (by decide +kernel) rfl⟩
abbrev mX1_hasTask : zM := (yX1_hasTask, cX1_hasTask, 2, (some FieldType.boolean), [])
theorem mwX1_hasTask : z_mw yX1_hasTask cX1_hasTask 2 (some FieldType.boolean) 1 := ⟨gw_at 15 (by decide +kernel) rfl, gw_at 264 (by decide +kernel) rfl, (by decide +kernel), by decide⟩
theorem miX1_hasTask : z_mi yX1_hasTask := ⟨gw_at 262 (by decide +kernel) rfl, gw_at 263 (by decide +kernel) rfl⟩
abbrev mL_append : zM := (yL_append, cL_append, 4, (some FieldType.int), [((0 : Nat), (9 : Nat), (12 : Nat), (13 : Nat)), ((0 : Nat), (9 : Nat), (15 : Nat), (15 : Nat))])
theorem mwwL_append : Cond.initialized yL_append.cls ∈ gw := gw_at 12 (by decide +kernel) rfl
theorem mwcL_append : Cond.codeWith yL_append cL_append 4 (some FieldType.int) [((0 : Nat), (9 : Nat), (12 : Nat), (13 : Nat)), ((0 : Nat), (9 : Nat), (15 : Nat), (15 : Nat))] ∈ gw := gw_at 267 (by decide +kernel) rfl
theorem msL_append : Cond.static yL_append ∈ gw := gw_at 266 (by decide +kernel) rfl
abbrev mX4_append : zM := (yX4_append, cX4_append, 2, (some FieldType.int), [])
theorem mwX4_append : z_mw yX4_append cX4_append 2 (some FieldType.int) 1 := ⟨gw_at 13 (by decide +kernel) rfl, gw_at 273 (by decide +kernel) rfl, (by decide +kernel), by decide⟩
theorem miX4_append : z_mi yX4_append := ⟨gw_at 271 (by decide +kernel) rfl, gw_at 272 (by decide +kernel) rfl⟩
abbrev mX3_isFull : zM := (yX3_isFull, cX3_isFull, 1, (some FieldType.boolean), [])
theorem mwX3_isFull : z_mw yX3_isFull cX3_isFull 1 (some FieldType.boolean) 0 := ⟨gw_at 14 (by decide +kernel) rfl, gw_at 341 (by decide +kernel) rfl, (by decide +kernel), by decide⟩
theorem miX3_isFull : z_mi yX3_isFull := ⟨gw_at 339 (by decide +kernel) rfl, gw_at 340 (by decide +kernel) rfl⟩
abbrev mX3_put : zM := (yX3_put, cX3_put, 2, (some FieldType.int), [])
theorem mwX3_put : z_mw yX3_put cX3_put 2 (some FieldType.int) 1 := ⟨gw_at 14 (by decide +kernel) rfl, gw_at 360 (by decide +kernel) rfl, (by decide +kernel), by decide⟩
theorem miX3_put : z_mi yX3_put := ⟨gw_at 358 (by decide +kernel) rfl, gw_at 359 (by decide +kernel) rfl⟩
abbrev mL_load : zM := (yL_load, cL_load, 3, (some FieldType.int), [((0 : Nat), (8 : Nat), (11 : Nat), (15 : Nat))])
theorem mwwL_load : Cond.initialized yL_load.cls ∈ gw := gw_at 12 (by decide +kernel) rfl
theorem mwcL_load : Cond.codeWith yL_load cL_load 3 (some FieldType.int) [((0 : Nat), (8 : Nat), (11 : Nat), (15 : Nat))] ∈ gw := gw_at 363 (by decide +kernel) rfl
theorem msL_load : Cond.static yL_load ∈ gw := gw_at 362 (by decide +kernel) rfl
abbrev mX4_load : zM := (yX4_load, cX4_load, 3, (some FieldType.int), [])
theorem mwX4_load : z_mw yX4_load cX4_load 3 (some FieldType.int) 0 := ⟨gw_at 13 (by decide +kernel) rfl, gw_at 367 (by decide +kernel) rfl, (by decide +kernel), by decide⟩
theorem miX4_load : z_mi yX4_load := ⟨gw_at 365 (by decide +kernel) rfl, gw_at 366 (by decide +kernel) rfl⟩
abbrev mX0_forgetAll : zM := (yX0_forgetAll, cX0_forgetAll, 1, (none), [])
theorem mwX0_forgetAll : z_mw yX0_forgetAll cX0_forgetAll 1 (none) 0 := ⟨gw_at 17 (by decide +kernel) rfl, gw_at 372 (by decide +kernel) rfl, (by decide +kernel), by decide⟩
theorem miX0_forgetAll : z_mi yX0_forgetAll := ⟨gw_at 370 (by decide +kernel) rfl, gw_at 371 (by decide +kernel) rfl⟩
abbrev mX4_obeyTextCommand : zM := (yX4_obeyTextCommand, cX4_obeyTextCommand, 4, (some FieldType.boolean), [])
theorem mwX4_obeyTextCommand : z_mw yX4_obeyTextCommand cX4_obeyTextCommand 4 (some FieldType.boolean) 4 := ⟨gw_at 13 (by decide +kernel) rfl, gw_at 377 (by decide +kernel) rfl, (by decide +kernel), by decide⟩
theorem msX4_obeyTextCommand : Cond.static yX4_obeyTextCommand ∈ gw := gw_at 376 (by decide +kernel) rfl
abbrev mX1_addTask : zM := (yX1_addTask, cX1_addTask, 3, (some FieldType.int), [])
theorem mwX1_addTask : z_mw yX1_addTask cX1_addTask 3 (some FieldType.int) 2 := ⟨gw_at 15 (by decide +kernel) rfl, gw_at 381 (by decide +kernel) rfl, (by decide +kernel), by decide⟩
theorem miX1_addTask : z_mi yX1_addTask := ⟨gw_at 379 (by decide +kernel) rfl, gw_at 380 (by decide +kernel) rfl⟩
abbrev mX1_hasRoomForTask : zM := (yX1_hasRoomForTask, cX1_hasRoomForTask, 1, (some FieldType.boolean), [])
theorem mwX1_hasRoomForTask : z_mw yX1_hasRoomForTask cX1_hasRoomForTask 1 (some FieldType.boolean) 0 := ⟨gw_at 15 (by decide +kernel) rfl, gw_at 385 (by decide +kernel) rfl, (by decide +kernel), by decide⟩
theorem miX1_hasRoomForTask : z_mi yX1_hasRoomForTask := ⟨gw_at 383 (by decide +kernel) rfl, gw_at 384 (by decide +kernel) rfl⟩
abbrev mX2_begin : zM := (yX2_begin, cX2_begin, 3, (none), [])
theorem mwX2_begin : z_mw yX2_begin cX2_begin 3 (none) 2 := ⟨gw_at 16 (by decide +kernel) rfl, gw_at 390 (by decide +kernel) rfl, (by decide +kernel), by decide⟩
theorem miX2_begin : z_mi yX2_begin := ⟨gw_at 388 (by decide +kernel) rfl, gw_at 389 (by decide +kernel) rfl⟩
abbrev mX2_switchOff : zM := (yX2_switchOff, cX2_switchOff, 1, (none), [])
theorem mwX2_switchOff : z_mw yX2_switchOff cX2_switchOff 1 (none) 0 := ⟨gw_at 16 (by decide +kernel) rfl, gw_at 394 (by decide +kernel) rfl, (by decide +kernel), by decide⟩
theorem miX2_switchOff : z_mi yX2_switchOff := ⟨gw_at 392 (by decide +kernel) rfl, gw_at 393 (by decide +kernel) rfl⟩
abbrev mX1_startJob : zM := (yX1_startJob, cX1_startJob, 6, (some FieldType.int), [])
theorem mwX1_startJob : z_mw yX1_startJob cX1_startJob 6 (some FieldType.int) 2 := ⟨gw_at 15 (by decide +kernel) rfl, gw_at 398 (by decide +kernel) rfl, (by decide +kernel), by decide⟩
theorem miX1_startJob : z_mi yX1_startJob := ⟨gw_at 396 (by decide +kernel) rfl, gw_at 397 (by decide +kernel) rfl⟩
abbrev mX1_canBring : zM := (yX1_canBring, cX1_canBring, 6, (some FieldType.boolean), [])
theorem mwX1_canBring : z_mw yX1_canBring cX1_canBring 6 (some FieldType.boolean) 2 := ⟨gw_at 15 (by decide +kernel) rfl, gw_at 402 (by decide +kernel) rfl, (by decide +kernel), by decide⟩
theorem miX1_canBring : z_mi yX1_canBring := ⟨gw_at 400 (by decide +kernel) rfl, gw_at 401 (by decide +kernel) rfl⟩
abbrev mX4_isStripe : zM := (yX4_isStripe, cX4_isStripe, 1, (some FieldType.boolean), [])
theorem mwX4_isStripe : z_mw yX4_isStripe cX4_isStripe 1 (some FieldType.boolean) 1 := ⟨gw_at 13 (by decide +kernel) rfl, gw_at 405 (by decide +kernel) rfl, (by decide +kernel), by decide⟩
theorem msX4_isStripe : Cond.static yX4_isStripe ∈ gw := gw_at 404 (by decide +kernel) rfl
abbrev mX1_isIdle : zM := (yX1_isIdle, cX1_isIdle, 1, (some FieldType.boolean), [])
theorem mwX1_isIdle : z_mw yX1_isIdle cX1_isIdle 1 (some FieldType.boolean) 0 := ⟨gw_at 15 (by decide +kernel) rfl, gw_at 409 (by decide +kernel) rfl, (by decide +kernel), by decide⟩
theorem miX1_isIdle : z_mi yX1_isIdle := ⟨gw_at 407 (by decide +kernel) rfl, gw_at 408 (by decide +kernel) rfl⟩
abbrev mX1_takerOf : zM := (yX1_takerOf, cX1_takerOf, 3, (some FieldType.int), [])
theorem mwX1_takerOf : z_mw yX1_takerOf cX1_takerOf 3 (some FieldType.int) 1 := ⟨gw_at 15 (by decide +kernel) rfl, gw_at 413 (by decide +kernel) rfl, (by decide +kernel), by decide⟩
theorem miX1_takerOf : z_mi yX1_takerOf := ⟨gw_at 411 (by decide +kernel) rfl, gw_at 412 (by decide +kernel) rfl⟩
abbrev mX2_takes : zM := (yX2_takes, cX2_takes, 2, (some FieldType.boolean), [])
theorem mwX2_takes : z_mw yX2_takes cX2_takes 2 (some FieldType.boolean) 1 := ⟨gw_at 16 (by decide +kernel) rfl, gw_at 417 (by decide +kernel) rfl, (by decide +kernel), by decide⟩
theorem miX2_takes : z_mi yX2_takes := ⟨gw_at 415 (by decide +kernel) rfl, gw_at 416 (by decide +kernel) rfl⟩
abbrev mX1_isGood : zM := (yX1_isGood, cX1_isGood, 2, (some FieldType.boolean), [])
theorem mwX1_isGood : z_mw yX1_isGood cX1_isGood 2 (some FieldType.boolean) 1 := ⟨gw_at 15 (by decide +kernel) rfl, gw_at 421 (by decide +kernel) rfl, (by decide +kernel), by decide⟩
theorem miX1_isGood : z_mi yX1_isGood := ⟨gw_at 419 (by decide +kernel) rfl, gw_at 420 (by decide +kernel) rfl⟩
abbrev mX2_takesOneOf : zM := (yX2_takesOneOf, cX2_takesOneOf, 3, (some FieldType.boolean), [])
theorem mwX2_takesOneOf : z_mw yX2_takesOneOf cX2_takesOneOf 3 (some FieldType.boolean) 2 := ⟨gw_at 16 (by decide +kernel) rfl, gw_at 425 (by decide +kernel) rfl, (by decide +kernel), by decide⟩
theorem miX2_takesOneOf : z_mi yX2_takesOneOf := ⟨gw_at 423 (by decide +kernel) rfl, gw_at 424 (by decide +kernel) rfl⟩
abbrev mX4_tryToMakeBad : zM := (yX4_tryToMakeBad, cX4_tryToMakeBad, 2, (some FieldType.boolean), [])
theorem mwX4_tryToMakeBad : z_mw yX4_tryToMakeBad cX4_tryToMakeBad 2 (some FieldType.boolean) 2 := ⟨gw_at 13 (by decide +kernel) rfl, gw_at 428 (by decide +kernel) rfl, (by decide +kernel), by decide⟩
theorem msX4_tryToMakeBad : Cond.static yX4_tryToMakeBad ∈ gw := gw_at 427 (by decide +kernel) rfl
abbrev mX1_makeBad : zM := (yX1_makeBad, cX1_makeBad, 4, (some FieldType.int), [])
theorem mwX1_makeBad : z_mw yX1_makeBad cX1_makeBad 4 (some FieldType.int) 1 := ⟨gw_at 15 (by decide +kernel) rfl, gw_at 433 (by decide +kernel) rfl, (by decide +kernel), by decide⟩
theorem miX1_makeBad : z_mi yX1_makeBad := ⟨gw_at 431 (by decide +kernel) rfl, gw_at 432 (by decide +kernel) rfl⟩
abbrev mX1_victimOf : zM := (yX1_victimOf, cX1_victimOf, 3, (some FieldType.int), [])
theorem mwX1_victimOf : z_mw yX1_victimOf cX1_victimOf 3 (some FieldType.int) 1 := ⟨gw_at 15 (by decide +kernel) rfl, gw_at 437 (by decide +kernel) rfl, (by decide +kernel), by decide⟩
theorem miX1_victimOf : z_mi yX1_victimOf := ⟨gw_at 435 (by decide +kernel) rfl, gw_at 436 (by decide +kernel) rfl⟩
abbrev mX1_moverTo : zM := (yX1_moverTo, cX1_moverTo, 3, (some FieldType.int), [])
theorem mwX1_moverTo : z_mw yX1_moverTo cX1_moverTo 3 (some FieldType.int) 1 := ⟨gw_at 15 (by decide +kernel) rfl, gw_at 441 (by decide +kernel) rfl, (by decide +kernel), by decide⟩
theorem miX1_moverTo : z_mi yX1_moverTo := ⟨gw_at 439 (by decide +kernel) rfl, gw_at 440 (by decide +kernel) rfl⟩
abbrev mX1_isTaskInStatus : zM := (yX1_isTaskInStatus, cX1_isTaskInStatus, 4, (some FieldType.boolean), [])
theorem mwX1_isTaskInStatus : z_mw yX1_isTaskInStatus cX1_isTaskInStatus 4 (some FieldType.boolean) 2 := ⟨gw_at 15 (by decide +kernel) rfl, gw_at 445 (by decide +kernel) rfl, (by decide +kernel), by decide⟩
theorem miX1_isTaskInStatus : z_mi yX1_isTaskInStatus := ⟨gw_at 443 (by decide +kernel) rfl, gw_at 444 (by decide +kernel) rfl⟩
abbrev mX2_fallBack : zM := (yX2_fallBack, cX2_fallBack, 1, (none), [])
theorem mwX2_fallBack : z_mw yX2_fallBack cX2_fallBack 1 (none) 0 := ⟨gw_at 16 (by decide +kernel) rfl, gw_at 449 (by decide +kernel) rfl, (by decide +kernel), by decide⟩
theorem miX2_fallBack : z_mi yX2_fallBack := ⟨gw_at 447 (by decide +kernel) rfl, gw_at 448 (by decide +kernel) rfl⟩
abbrev mX1_makeGood : zM := (yX1_makeGood, cX1_makeGood, 3, (some FieldType.int), [])
theorem mwX1_makeGood : z_mw yX1_makeGood cX1_makeGood 3 (some FieldType.int) 1 := ⟨gw_at 15 (by decide +kernel) rfl, gw_at 453 (by decide +kernel) rfl, (by decide +kernel), by decide⟩
theorem miX1_makeGood : z_mi yX1_makeGood := ⟨gw_at 451 (by decide +kernel) rfl, gw_at 452 (by decide +kernel) rfl⟩
abbrev mX1_stopTask : zM := (yX1_stopTask, cX1_stopTask, 3, (some FieldType.int), [])
theorem mwX1_stopTask : z_mw yX1_stopTask cX1_stopTask 3 (some FieldType.int) 1 := ⟨gw_at 15 (by decide +kernel) rfl, gw_at 457 (by decide +kernel) rfl, (by decide +kernel), by decide⟩
theorem miX1_stopTask : z_mi yX1_stopTask := ⟨gw_at 455 (by decide +kernel) rfl, gw_at 456 (by decide +kernel) rfl⟩
abbrev mX1_canStop : zM := (yX1_canStop, cX1_canStop, 3, (some FieldType.boolean), [])
theorem mwX1_canStop : z_mw yX1_canStop cX1_canStop 3 (some FieldType.boolean) 1 := ⟨gw_at 15 (by decide +kernel) rfl, gw_at 461 (by decide +kernel) rfl, (by decide +kernel), by decide⟩
theorem miX1_canStop : z_mi yX1_canStop := ⟨gw_at 459 (by decide +kernel) rfl, gw_at 460 (by decide +kernel) rfl⟩
abbrev mX2_saveValue : zM := (yX2_saveValue, cX2_saveValue, 1, (none), [])
theorem mwX2_saveValue : z_mw yX2_saveValue cX2_saveValue 1 (none) 0 := ⟨gw_at 16 (by decide +kernel) rfl, gw_at 465 (by decide +kernel) rfl, (by decide +kernel), by decide⟩
theorem miX2_saveValue : z_mi yX2_saveValue := ⟨gw_at 463 (by decide +kernel) rfl, gw_at 464 (by decide +kernel) rfl⟩
abbrev mX1_passTicks : zM := (yX1_passTicks, cX1_passTicks, 4, (some FieldType.int), [])
theorem mwX1_passTicks : z_mw yX1_passTicks cX1_passTicks 4 (some FieldType.int) 1 := ⟨gw_at 15 (by decide +kernel) rfl, gw_at 470 (by decide +kernel) rfl, (by decide +kernel), by decide⟩
theorem miX1_passTicks : z_mi yX1_passTicks := ⟨gw_at 468 (by decide +kernel) rfl, gw_at 469 (by decide +kernel) rfl⟩
abbrev mX1_passTick : zM := (yX1_passTick, cX1_passTick, 5, (none), [])
theorem mwX1_passTick : z_mw yX1_passTick cX1_passTick 5 (none) 0 := ⟨gw_at 15 (by decide +kernel) rfl, gw_at 474 (by decide +kernel) rfl, (by decide +kernel), by decide⟩
theorem miX1_passTick : z_mi yX1_passTick := ⟨gw_at 472 (by decide +kernel) rfl, gw_at 473 (by decide +kernel) rfl⟩
abbrev mX1_advanceJob : zM := (yX1_advanceJob, cX1_advanceJob, 2, (none), [])
theorem mwX1_advanceJob : z_mw yX1_advanceJob cX1_advanceJob 2 (none) 0 := ⟨gw_at 15 (by decide +kernel) rfl, gw_at 478 (by decide +kernel) rfl, (by decide +kernel), by decide⟩
theorem miX1_advanceJob : z_mi yX1_advanceJob := ⟨gw_at 476 (by decide +kernel) rfl, gw_at 477 (by decide +kernel) rfl⟩
abbrev mX2_work : zM := (yX2_work, cX2_work, 1, (none), [])
theorem mwX2_work : z_mw yX2_work cX2_work 1 (none) 0 := ⟨gw_at 16 (by decide +kernel) rfl, gw_at 482 (by decide +kernel) rfl, (by decide +kernel), by decide⟩
theorem miX2_work : z_mi yX2_work := ⟨gw_at 480 (by decide +kernel) rfl, gw_at 481 (by decide +kernel) rfl⟩
abbrev mL_about : zM := (yL_about, cL_about, 4, (some FieldType.int), [((0 : Nat), (9 : Nat), (12 : Nat), (13 : Nat))])
theorem mwwL_about : Cond.initialized yL_about.cls ∈ gw := gw_at 12 (by decide +kernel) rfl
theorem mwcL_about : Cond.codeWith yL_about cL_about 4 (some FieldType.int) [((0 : Nat), (9 : Nat), (12 : Nat), (13 : Nat))] ∈ gw := gw_at 485 (by decide +kernel) rfl
theorem msL_about : Cond.static yL_about ∈ gw := gw_at 484 (by decide +kernel) rfl
abbrev mX4_about : zM := (yX4_about, cX4_about, 2, (some FieldType.int), [])
theorem mwX4_about : z_mw yX4_about cX4_about 2 (some FieldType.int) 1 := ⟨gw_at 13 (by decide +kernel) rfl, gw_at 489 (by decide +kernel) rfl, (by decide +kernel), by decide⟩
theorem miX4_about : z_mi yX4_about := ⟨gw_at 487 (by decide +kernel) rfl, gw_at 488 (by decide +kernel) rfl⟩
abbrev mX1_countRunning : zM := (yX1_countRunning, cX1_countRunning, 3, (some FieldType.int), [])
theorem mwX1_countRunning : z_mw yX1_countRunning cX1_countRunning 3 (some FieldType.int) 0 := ⟨gw_at 15 (by decide +kernel) rfl, gw_at 493 (by decide +kernel) rfl, (by decide +kernel), by decide⟩
theorem miX1_countRunning : z_mi yX1_countRunning := ⟨gw_at 491 (by decide +kernel) rfl, gw_at 492 (by decide +kernel) rfl⟩
abbrev mX1_countFree : zM := (yX1_countFree, cX1_countFree, 3, (some FieldType.int), [])
theorem mwX1_countFree : z_mw yX1_countFree cX1_countFree 3 (some FieldType.int) 0 := ⟨gw_at 15 (by decide +kernel) rfl, gw_at 497 (by decide +kernel) rfl, (by decide +kernel), by decide⟩
theorem miX1_countFree : z_mi yX1_countFree := ⟨gw_at 495 (by decide +kernel) rfl, gw_at 496 (by decide +kernel) rfl⟩
abbrev mX1_isFree : zM := (yX1_isFree, cX1_isFree, 2, (some FieldType.boolean), [])
theorem mwX1_isFree : z_mw yX1_isFree cX1_isFree 2 (some FieldType.boolean) 1 := ⟨gw_at 15 (by decide +kernel) rfl, gw_at 501 (by decide +kernel) rfl, (by decide +kernel), by decide⟩
theorem miX1_isFree : z_mi yX1_isFree := ⟨gw_at 499 (by decide +kernel) rfl, gw_at 500 (by decide +kernel) rfl⟩
abbrev mX1_longestFreeRow : zM := (yX1_longestFreeRow, cX1_longestFreeRow, 3, (some FieldType.int), [])
theorem mwX1_longestFreeRow : z_mw yX1_longestFreeRow cX1_longestFreeRow 3 (some FieldType.int) 0 := ⟨gw_at 15 (by decide +kernel) rfl, gw_at 505 (by decide +kernel) rfl, (by decide +kernel), by decide⟩
theorem miX1_longestFreeRow : z_mi yX1_longestFreeRow := ⟨gw_at 503 (by decide +kernel) rfl, gw_at 504 (by decide +kernel) rfl⟩
abbrev mX1_freeRowFrom : zM := (yX1_freeRowFrom, cX1_freeRowFrom, 3, (some FieldType.int), [])
theorem mwX1_freeRowFrom : z_mw yX1_freeRowFrom cX1_freeRowFrom 3 (some FieldType.int) 1 := ⟨gw_at 15 (by decide +kernel) rfl, gw_at 509 (by decide +kernel) rfl, (by decide +kernel), by decide⟩
theorem miX1_freeRowFrom : z_mi yX1_freeRowFrom := ⟨gw_at 507 (by decide +kernel) rfl, gw_at 508 (by decide +kernel) rfl⟩
abbrev mX1_countBad : zM := (yX1_countBad, cX1_countBad, 3, (some FieldType.int), [])
theorem mwX1_countBad : z_mw yX1_countBad cX1_countBad 3 (some FieldType.int) 0 := ⟨gw_at 15 (by decide +kernel) rfl, gw_at 516 (by decide +kernel) rfl, (by decide +kernel), by decide⟩
theorem miX1_countBad : z_mi yX1_countBad := ⟨gw_at 514 (by decide +kernel) rfl, gw_at 515 (by decide +kernel) rfl⟩
abbrev mL_task : zM := (yL_task, cL_task, 5, (some FieldType.int), [((0 : Nat), (10 : Nat), (13 : Nat), (28 : Nat)), ((0 : Nat), (10 : Nat), (17 : Nat), (13 : Nat))])
theorem mwwL_task : Cond.initialized yL_task.cls ∈ gw := gw_at 12 (by decide +kernel) rfl
theorem mwcL_task : Cond.codeWith yL_task cL_task 5 (some FieldType.int) [((0 : Nat), (10 : Nat), (13 : Nat), (28 : Nat)), ((0 : Nat), (10 : Nat), (17 : Nat), (13 : Nat))] ∈ gw := gw_at 519 (by decide +kernel) rfl
theorem msL_task : Cond.static yL_task ∈ gw := gw_at 518 (by decide +kernel) rfl
abbrev mX4_task : zM := (yX4_task, cX4_task, 4, (some FieldType.int), [])
theorem mwX4_task : z_mw yX4_task cX4_task 4 (some FieldType.int) 2 := ⟨gw_at 13 (by decide +kernel) rfl, gw_at 524 (by decide +kernel) rfl, (by decide +kernel), by decide⟩
theorem miX4_task : z_mi yX4_task := ⟨gw_at 522 (by decide +kernel) rfl, gw_at 523 (by decide +kernel) rfl⟩
abbrev mL_stripe : zM := (yL_stripe, cL_stripe, 5, (some FieldType.int), [((0 : Nat), (10 : Nat), (13 : Nat), (28 : Nat)), ((0 : Nat), (10 : Nat), (17 : Nat), (13 : Nat))])
theorem mwwL_stripe : Cond.initialized yL_stripe.cls ∈ gw := gw_at 12 (by decide +kernel) rfl
theorem mwcL_stripe : Cond.codeWith yL_stripe cL_stripe 5 (some FieldType.int) [((0 : Nat), (10 : Nat), (13 : Nat), (28 : Nat)), ((0 : Nat), (10 : Nat), (17 : Nat), (13 : Nat))] ∈ gw := gw_at 543 (by decide +kernel) rfl
theorem msL_stripe : Cond.static yL_stripe ∈ gw := gw_at 542 (by decide +kernel) rfl
abbrev mX4_stripe : zM := (yX4_stripe, cX4_stripe, 3, (some FieldType.int), [])
theorem mwX4_stripe : z_mw yX4_stripe cX4_stripe 3 (some FieldType.int) 2 := ⟨gw_at 13 (by decide +kernel) rfl, gw_at 547 (by decide +kernel) rfl, (by decide +kernel), by decide⟩
theorem miX4_stripe : z_mi yX4_stripe := ⟨gw_at 545 (by decide +kernel) rfl, gw_at 546 (by decide +kernel) rfl⟩
abbrev mX1_isBad : zM := (yX1_isBad, cX1_isBad, 2, (some FieldType.boolean), [])
theorem mwX1_isBad : z_mw yX1_isBad cX1_isBad 2 (some FieldType.boolean) 1 := ⟨gw_at 15 (by decide +kernel) rfl, gw_at 553 (by decide +kernel) rfl, (by decide +kernel), by decide⟩
theorem miX1_isBad : z_mi yX1_isBad := ⟨gw_at 551 (by decide +kernel) rfl, gw_at 552 (by decide +kernel) rfl⟩
abbrev mL_job : zM := (yL_job, cL_job, 4, (some FieldType.int), [((0 : Nat), (9 : Nat), (12 : Nat), (13 : Nat))])
theorem mwwL_job : Cond.initialized yL_job.cls ∈ gw := gw_at 12 (by decide +kernel) rfl
theorem mwcL_job : Cond.codeWith yL_job cL_job 4 (some FieldType.int) [((0 : Nat), (9 : Nat), (12 : Nat), (13 : Nat))] ∈ gw := gw_at 556 (by decide +kernel) rfl
theorem msL_job : Cond.static yL_job ∈ gw := gw_at 555 (by decide +kernel) rfl
abbrev mX4_job : zM := (yX4_job, cX4_job, 2, (some FieldType.int), [])
theorem mwX4_job : z_mw yX4_job cX4_job 2 (some FieldType.int) 1 := ⟨gw_at 13 (by decide +kernel) rfl, gw_at 560 (by decide +kernel) rfl, (by decide +kernel), by decide⟩
theorem miX4_job : z_mi yX4_job := ⟨gw_at 558 (by decide +kernel) rfl, gw_at 559 (by decide +kernel) rfl⟩
abbrev mL_setting : zM := (yL_setting, cL_setting, 4, (some FieldType.int), [((0 : Nat), (9 : Nat), (12 : Nat), (13 : Nat))])
theorem mwwL_setting : Cond.initialized yL_setting.cls ∈ gw := gw_at 12 (by decide +kernel) rfl
theorem mwcL_setting : Cond.codeWith yL_setting cL_setting 4 (some FieldType.int) [((0 : Nat), (9 : Nat), (12 : Nat), (13 : Nat))] ∈ gw := gw_at 564 (by decide +kernel) rfl
theorem msL_setting : Cond.static yL_setting ∈ gw := gw_at 563 (by decide +kernel) rfl
abbrev mX4_setting : zM := (yX4_setting, cX4_setting, 2, (some FieldType.int), [])
theorem mwX4_setting : z_mw yX4_setting cX4_setting 2 (some FieldType.int) 1 := ⟨gw_at 13 (by decide +kernel) rfl, gw_at 568 (by decide +kernel) rfl, (by decide +kernel), by decide⟩
theorem miX4_setting : z_mi yX4_setting := ⟨gw_at 566 (by decide +kernel) rfl, gw_at 567 (by decide +kernel) rfl⟩
abbrev mX4_isSetting : zM := (yX4_isSetting, cX4_isSetting, 1, (some FieldType.boolean), [])
theorem mwX4_isSetting : z_mw yX4_isSetting cX4_isSetting 1 (some FieldType.boolean) 1 := ⟨gw_at 13 (by decide +kernel) rfl, gw_at 571 (by decide +kernel) rfl, (by decide +kernel), by decide⟩
theorem msX4_isSetting : Cond.static yX4_isSetting ∈ gw := gw_at 570 (by decide +kernel) rfl
abbrev mL_add : zM := (yL_add, cL_add, 5, (some FieldType.int), [((0 : Nat), (10 : Nat), (13 : Nat), (13 : Nat)), ((0 : Nat), (10 : Nat), (17 : Nat), (15 : Nat))])
theorem mwwL_add : Cond.initialized yL_add.cls ∈ gw := gw_at 12 (by decide +kernel) rfl
theorem mwcL_add : Cond.codeWith yL_add cL_add 5 (some FieldType.int) [((0 : Nat), (10 : Nat), (13 : Nat), (13 : Nat)), ((0 : Nat), (10 : Nat), (17 : Nat), (15 : Nat))] ∈ gw := gw_at 574 (by decide +kernel) rfl
theorem msL_add : Cond.static yL_add ∈ gw := gw_at 573 (by decide +kernel) rfl
abbrev mX4_add : zM := (yX4_add, cX4_add, 3, (some FieldType.int), [])
theorem mwX4_add : z_mw yX4_add cX4_add 3 (some FieldType.int) 2 := ⟨gw_at 13 (by decide +kernel) rfl, gw_at 578 (by decide +kernel) rfl, (by decide +kernel), by decide⟩
theorem miX4_add : z_mi yX4_add := ⟨gw_at 576 (by decide +kernel) rfl, gw_at 577 (by decide +kernel) rfl⟩
abbrev mX4_isWidth : zM := (yX4_isWidth, cX4_isWidth, 1, (some FieldType.boolean), [])
theorem mwX4_isWidth : z_mw yX4_isWidth cX4_isWidth 1 (some FieldType.boolean) 1 := ⟨gw_at 13 (by decide +kernel) rfl, gw_at 581 (by decide +kernel) rfl, (by decide +kernel), by decide⟩
theorem msX4_isWidth : Cond.static yX4_isWidth ∈ gw := gw_at 580 (by decide +kernel) rfl
abbrev mX4_isValue : zM := (yX4_isValue, cX4_isValue, 1, (some FieldType.boolean), [])
theorem mwX4_isValue : z_mw yX4_isValue cX4_isValue 1 (some FieldType.boolean) 1 := ⟨gw_at 13 (by decide +kernel) rfl, gw_at 584 (by decide +kernel) rfl, (by decide +kernel), by decide⟩
theorem msX4_isValue : Cond.static yX4_isValue ∈ gw := gw_at 583 (by decide +kernel) rfl
abbrev mX0_remember : zM := (yX0_remember, cX0_remember, 2, (none), [])
theorem mwX0_remember : z_mw yX0_remember cX0_remember 2 (none) 1 := ⟨gw_at 17 (by decide +kernel) rfl, gw_at 589 (by decide +kernel) rfl, (by decide +kernel), by decide⟩
theorem miX0_remember : z_mi yX0_remember := ⟨gw_at 587 (by decide +kernel) rfl, gw_at 588 (by decide +kernel) rfl⟩
abbrev mX0_placeOf : zM := (yX0_placeOf, cX0_placeOf, 2, (some FieldType.int), [])
theorem mwX0_placeOf : z_mw yX0_placeOf cX0_placeOf 2 (some FieldType.int) 1 := ⟨gw_at 17 (by decide +kernel) rfl, gw_at 593 (by decide +kernel) rfl, (by decide +kernel), by decide⟩
theorem miX0_placeOf : z_mi yX0_placeOf := ⟨gw_at 592 (by decide +kernel) rfl, gw_at 4 (by decide +kernel) rfl⟩
abbrev mX1_copyFrom : zM := (yX1_copyFrom, cX1_copyFrom, 3, (none), [])
theorem mwX1_copyFrom : z_mw yX1_copyFrom cX1_copyFrom 3 (none) 1 := ⟨gw_at 15 (by decide +kernel) rfl, gw_at 597 (by decide +kernel) rfl, (by decide +kernel), by decide⟩
theorem miX1_copyFrom : z_mi yX1_copyFrom := ⟨gw_at 595 (by decide +kernel) rfl, gw_at 596 (by decide +kernel) rfl⟩
abbrev mX2_copyFrom : zM := (yX2_copyFrom, cX2_copyFrom, 2, (none), [])
theorem mwX2_copyFrom : z_mw yX2_copyFrom cX2_copyFrom 2 (none) 1 := ⟨gw_at 16 (by decide +kernel) rfl, gw_at 601 (by decide +kernel) rfl, (by decide +kernel), by decide⟩
theorem miX2_copyFrom : z_mi yX2_copyFrom := ⟨gw_at 599 (by decide +kernel) rfl, gw_at 600 (by decide +kernel) rfl⟩
abbrev mL_bring : zM := (yL_bring, cL_bring, 5, (some FieldType.int), [((0 : Nat), (10 : Nat), (13 : Nat), (28 : Nat)), ((0 : Nat), (10 : Nat), (17 : Nat), (15 : Nat))])
theorem mwwL_bring : Cond.initialized yL_bring.cls ∈ gw := gw_at 12 (by decide +kernel) rfl
theorem mwcL_bring : Cond.codeWith yL_bring cL_bring 5 (some FieldType.int) [((0 : Nat), (10 : Nat), (13 : Nat), (28 : Nat)), ((0 : Nat), (10 : Nat), (17 : Nat), (15 : Nat))] ∈ gw := gw_at 604 (by decide +kernel) rfl
theorem msL_bring : Cond.static yL_bring ∈ gw := gw_at 603 (by decide +kernel) rfl
abbrev mX4_bring : zM := (yX4_bring, cX4_bring, 3, (some FieldType.int), [])
theorem mwX4_bring : z_mw yX4_bring cX4_bring 3 (some FieldType.int) 2 := ⟨gw_at 13 (by decide +kernel) rfl, gw_at 608 (by decide +kernel) rfl, (by decide +kernel), by decide⟩
theorem miX4_bring : z_mi yX4_bring := ⟨gw_at 606 (by decide +kernel) rfl, gw_at 607 (by decide +kernel) rfl⟩
abbrev mL_stop : zM := (yL_stop, cL_stop, 4, (some FieldType.int), [((0 : Nat), (9 : Nat), (12 : Nat), (28 : Nat)), ((0 : Nat), (9 : Nat), (15 : Nat), (15 : Nat))])
theorem mwwL_stop : Cond.initialized yL_stop.cls ∈ gw := gw_at 12 (by decide +kernel) rfl
theorem mwcL_stop : Cond.codeWith yL_stop cL_stop 4 (some FieldType.int) [((0 : Nat), (9 : Nat), (12 : Nat), (28 : Nat)), ((0 : Nat), (9 : Nat), (15 : Nat), (15 : Nat))] ∈ gw := gw_at 613 (by decide +kernel) rfl
theorem msL_stop : Cond.static yL_stop ∈ gw := gw_at 612 (by decide +kernel) rfl
abbrev mX4_stop : zM := (yX4_stop, cX4_stop, 2, (some FieldType.int), [])
theorem mwX4_stop : z_mw yX4_stop cX4_stop 2 (some FieldType.int) 1 := ⟨gw_at 13 (by decide +kernel) rfl, gw_at 617 (by decide +kernel) rfl, (by decide +kernel), by decide⟩
theorem miX4_stop : z_mi yX4_stop := ⟨gw_at 615 (by decide +kernel) rfl, gw_at 616 (by decide +kernel) rfl⟩
abbrev mL_turnBad : zM := (yL_turnBad, cL_turnBad, 4, (some FieldType.int), [((0 : Nat), (9 : Nat), (12 : Nat), (28 : Nat))])
theorem mwwL_turnBad : Cond.initialized yL_turnBad.cls ∈ gw := gw_at 12 (by decide +kernel) rfl
theorem mwcL_turnBad : Cond.codeWith yL_turnBad cL_turnBad 4 (some FieldType.int) [((0 : Nat), (9 : Nat), (12 : Nat), (28 : Nat))] ∈ gw := gw_at 621 (by decide +kernel) rfl
theorem msL_turnBad : Cond.static yL_turnBad ∈ gw := gw_at 620 (by decide +kernel) rfl
abbrev mX4_turnBad : zM := (yX4_turnBad, cX4_turnBad, 2, (some FieldType.int), [])
theorem mwX4_turnBad : z_mw yX4_turnBad cX4_turnBad 2 (some FieldType.int) 1 := ⟨gw_at 13 (by decide +kernel) rfl, gw_at 625 (by decide +kernel) rfl, (by decide +kernel), by decide⟩
theorem miX4_turnBad : z_mi yX4_turnBad := ⟨gw_at 623 (by decide +kernel) rfl, gw_at 624 (by decide +kernel) rfl⟩
abbrev mL_mend : zM := (yL_mend, cL_mend, 4, (some FieldType.int), [((0 : Nat), (9 : Nat), (12 : Nat), (28 : Nat))])
theorem mwwL_mend : Cond.initialized yL_mend.cls ∈ gw := gw_at 12 (by decide +kernel) rfl
theorem mwcL_mend : Cond.codeWith yL_mend cL_mend 4 (some FieldType.int) [((0 : Nat), (9 : Nat), (12 : Nat), (28 : Nat))] ∈ gw := gw_at 628 (by decide +kernel) rfl
theorem msL_mend : Cond.static yL_mend ∈ gw := gw_at 627 (by decide +kernel) rfl
abbrev mX4_mend : zM := (yX4_mend, cX4_mend, 2, (some FieldType.int), [])
theorem mwX4_mend : z_mw yX4_mend cX4_mend 2 (some FieldType.int) 1 := ⟨gw_at 13 (by decide +kernel) rfl, gw_at 632 (by decide +kernel) rfl, (by decide +kernel), by decide⟩
theorem miX4_mend : z_mi yX4_mend := ⟨gw_at 630 (by decide +kernel) rfl, gw_at 631 (by decide +kernel) rfl⟩
abbrev mL_run : zM := (yL_run, cL_run, 4, (some FieldType.int), [((0 : Nat), (9 : Nat), (12 : Nat), (13 : Nat))])
theorem mwwL_run : Cond.initialized yL_run.cls ∈ gw := gw_at 12 (by decide +kernel) rfl
theorem mwcL_run : Cond.codeWith yL_run cL_run 4 (some FieldType.int) [((0 : Nat), (9 : Nat), (12 : Nat), (13 : Nat))] ∈ gw := gw_at 635 (by decide +kernel) rfl
theorem msL_run : Cond.static yL_run ∈ gw := gw_at 634 (by decide +kernel) rfl
abbrev mX4_run : zM := (yX4_run, cX4_run, 2, (some FieldType.int), [])
theorem mwX4_run : z_mw yX4_run cX4_run 2 (some FieldType.int) 1 := ⟨gw_at 13 (by decide +kernel) rfl, gw_at 639 (by decide +kernel) rfl, (by decide +kernel), by decide⟩
theorem miX4_run : z_mi yX4_run := ⟨gw_at 637 (by decide +kernel) rfl, gw_at 638 (by decide +kernel) rfl⟩
abbrev mL_set : zM := (yL_set, cL_set, 5, (some FieldType.int), [((0 : Nat), (10 : Nat), (13 : Nat), (13 : Nat))])
theorem mwwL_set : Cond.initialized yL_set.cls ∈ gw := gw_at 12 (by decide +kernel) rfl
theorem mwcL_set : Cond.codeWith yL_set cL_set 5 (some FieldType.int) [((0 : Nat), (10 : Nat), (13 : Nat), (13 : Nat))] ∈ gw := gw_at 642 (by decide +kernel) rfl
theorem msL_set : Cond.static yL_set ∈ gw := gw_at 641 (by decide +kernel) rfl
abbrev mX4_set : zM := (yX4_set, cX4_set, 4, (some FieldType.int), [])
theorem mwX4_set : z_mw yX4_set cX4_set 4 (some FieldType.int) 2 := ⟨gw_at 13 (by decide +kernel) rfl, gw_at 646 (by decide +kernel) rfl, (by decide +kernel), by decide⟩
theorem miX4_set : z_mi yX4_set := ⟨gw_at 644 (by decide +kernel) rfl, gw_at 645 (by decide +kernel) rfl⟩
abbrev mL_undo : zM := (yL_undo, cL_undo, 3, (some FieldType.int), [((0 : Nat), (8 : Nat), (11 : Nat), (15 : Nat))])
theorem mwwL_undo : Cond.initialized yL_undo.cls ∈ gw := gw_at 12 (by decide +kernel) rfl
theorem mwcL_undo : Cond.codeWith yL_undo cL_undo 3 (some FieldType.int) [((0 : Nat), (8 : Nat), (11 : Nat), (15 : Nat))] ∈ gw := gw_at 653 (by decide +kernel) rfl
theorem msL_undo : Cond.static yL_undo ∈ gw := gw_at 652 (by decide +kernel) rfl
abbrev mX4_undo : zM := (yX4_undo, cX4_undo, 1, (some FieldType.int), [])
theorem mwX4_undo : z_mw yX4_undo cX4_undo 1 (some FieldType.int) 0 := ⟨gw_at 13 (by decide +kernel) rfl, gw_at 657 (by decide +kernel) rfl, (by decide +kernel), by decide⟩
theorem miX4_undo : z_mi yX4_undo := ⟨gw_at 655 (by decide +kernel) rfl, gw_at 656 (by decide +kernel) rfl⟩
abbrev mX0_takeBack : zM := (yX0_takeBack, cX0_takeBack, 2, (some FieldType.int), [])
theorem mwX0_takeBack : z_mw yX0_takeBack cX0_takeBack 2 (some FieldType.int) 1 := ⟨gw_at 17 (by decide +kernel) rfl, gw_at 661 (by decide +kernel) rfl, (by decide +kernel), by decide⟩
theorem miX0_takeBack : z_mi yX0_takeBack := ⟨gw_at 659 (by decide +kernel) rfl, gw_at 660 (by decide +kernel) rfl⟩
abbrev mL_bestGap : zM := (yL_bestGap, cL_bestGap, 4, (some FieldType.int), [((0 : Nat), (9 : Nat), (12 : Nat), (13 : Nat))])
theorem mwwL_bestGap : Cond.initialized yL_bestGap.cls ∈ gw := gw_at 12 (by decide +kernel) rfl
theorem mwcL_bestGap : Cond.codeWith yL_bestGap cL_bestGap 4 (some FieldType.int) [((0 : Nat), (9 : Nat), (12 : Nat), (13 : Nat))] ∈ gw := gw_at 664 (by decide +kernel) rfl
theorem msL_bestGap : Cond.static yL_bestGap ∈ gw := gw_at 663 (by decide +kernel) rfl
abbrev mX4_bestGap : zM := (yX4_bestGap, cX4_bestGap, 2, (some FieldType.int), [])
theorem mwX4_bestGap : z_mw yX4_bestGap cX4_bestGap 2 (some FieldType.int) 1 := ⟨gw_at 13 (by decide +kernel) rfl, gw_at 668 (by decide +kernel) rfl, (by decide +kernel), by decide⟩
theorem miX4_bestGap : z_mi yX4_bestGap := ⟨gw_at 666 (by decide +kernel) rfl, gw_at 667 (by decide +kernel) rfl⟩
abbrev mX1_shortestGap : zM := (yX1_shortestGap, cX1_shortestGap, 6, (some FieldType.int), [])
theorem mwX1_shortestGap : z_mw yX1_shortestGap cX1_shortestGap 6 (some FieldType.int) 1 := ⟨gw_at 15 (by decide +kernel) rfl, gw_at 672 (by decide +kernel) rfl, (by decide +kernel), by decide⟩
theorem miX1_shortestGap : z_mi yX1_shortestGap := ⟨gw_at 670 (by decide +kernel) rfl, gw_at 671 (by decide +kernel) rfl⟩
abbrev mL_window : zM := (yL_window, cL_window, 5, (some FieldType.int), [((0 : Nat), (10 : Nat), (13 : Nat), (13 : Nat))])
theorem mwwL_window : Cond.initialized yL_window.cls ∈ gw := gw_at 12 (by decide +kernel) rfl
theorem mwcL_window : Cond.codeWith yL_window cL_window 5 (some FieldType.int) [((0 : Nat), (10 : Nat), (13 : Nat), (13 : Nat))] ∈ gw := gw_at 675 (by decide +kernel) rfl
theorem msL_window : Cond.static yL_window ∈ gw := gw_at 674 (by decide +kernel) rfl
abbrev mX4_window : zM := (yX4_window, cX4_window, 4, (some FieldType.int), [])
theorem mwX4_window : z_mw yX4_window cX4_window 4 (some FieldType.int) 2 := ⟨gw_at 13 (by decide +kernel) rfl, gw_at 679 (by decide +kernel) rfl, (by decide +kernel), by decide⟩
theorem miX4_window : z_mi yX4_window := ⟨gw_at 677 (by decide +kernel) rfl, gw_at 678 (by decide +kernel) rfl⟩
abbrev mX1_easiestWindow : zM := (yX1_easiestWindow, cX1_easiestWindow, 6, (some FieldType.int), [])
theorem mwX1_easiestWindow : z_mw yX1_easiestWindow cX1_easiestWindow 6 (some FieldType.int) 1 := ⟨gw_at 15 (by decide +kernel) rfl, gw_at 683 (by decide +kernel) rfl, (by decide +kernel), by decide⟩
theorem miX1_easiestWindow : z_mi yX1_easiestWindow := ⟨gw_at 681 (by decide +kernel) rfl, gw_at 682 (by decide +kernel) rfl⟩
abbrev mX1_canBeMadeFree : zM := (yX1_canBeMadeFree, cX1_canBeMadeFree, 4, (some FieldType.boolean), [])
theorem mwX1_canBeMadeFree : z_mw yX1_canBeMadeFree cX1_canBeMadeFree 4 (some FieldType.boolean) 2 := ⟨gw_at 15 (by decide +kernel) rfl, gw_at 687 (by decide +kernel) rfl, (by decide +kernel), by decide⟩
theorem miX1_canBeMadeFree : z_mi yX1_canBeMadeFree := ⟨gw_at 685 (by decide +kernel) rfl, gw_at 686 (by decide +kernel) rfl⟩
abbrev mX1_widthInTheWay : zM := (yX1_widthInTheWay, cX1_widthInTheWay, 5, (some FieldType.int), [])
theorem mwX1_widthInTheWay : z_mw yX1_widthInTheWay cX1_widthInTheWay 5 (some FieldType.int) 2 := ⟨gw_at 15 (by decide +kernel) rfl, gw_at 691 (by decide +kernel) rfl, (by decide +kernel), by decide⟩
theorem miX1_widthInTheWay : z_mi yX1_widthInTheWay := ⟨gw_at 689 (by decide +kernel) rfl, gw_at 690 (by decide +kernel) rfl⟩
abbrev mL_coming : zM := (yL_coming, cL_coming, 6, (some FieldType.int), [((0 : Nat), (12 : Nat), (15 : Nat), (28 : Nat)), ((0 : Nat), (12 : Nat), (19 : Nat), (13 : Nat))])
theorem mwwL_coming : Cond.initialized yL_coming.cls ∈ gw := gw_at 12 (by decide +kernel) rfl
theorem mwcL_coming : Cond.codeWith yL_coming cL_coming 6 (some FieldType.int) [((0 : Nat), (12 : Nat), (15 : Nat), (28 : Nat)), ((0 : Nat), (12 : Nat), (19 : Nat), (13 : Nat))] ∈ gw := gw_at 695 (by decide +kernel) rfl
theorem msL_coming : Cond.static yL_coming ∈ gw := gw_at 694 (by decide +kernel) rfl
abbrev mX4_coming : zM := (yX4_coming, cX4_coming, 6, (some FieldType.int), [])
theorem mwX4_coming : z_mw yX4_coming cX4_coming 6 (some FieldType.int) 3 := ⟨gw_at 13 (by decide +kernel) rfl, gw_at 699 (by decide +kernel) rfl, (by decide +kernel), by decide⟩
theorem miX4_coming : z_mi yX4_coming := ⟨gw_at 697 (by decide +kernel) rfl, gw_at 698 (by decide +kernel) rfl⟩
abbrev mL_lost : zM := (yL_lost, cL_lost, 4, (some FieldType.int), [((0 : Nat), (9 : Nat), (12 : Nat), (28 : Nat))])
theorem mwwL_lost : Cond.initialized yL_lost.cls ∈ gw := gw_at 12 (by decide +kernel) rfl
theorem mwcL_lost : Cond.codeWith yL_lost cL_lost 4 (some FieldType.int) [((0 : Nat), (9 : Nat), (12 : Nat), (28 : Nat))] ∈ gw := gw_at 704 (by decide +kernel) rfl
theorem msL_lost : Cond.static yL_lost ∈ gw := gw_at 703 (by decide +kernel) rfl
abbrev mX4_lost : zM := (yX4_lost, cX4_lost, 3, (some FieldType.int), [])
theorem mwX4_lost : z_mw yX4_lost cX4_lost 3 (some FieldType.int) 1 := ⟨gw_at 13 (by decide +kernel) rfl, gw_at 708 (by decide +kernel) rfl, (by decide +kernel), by decide⟩
theorem miX4_lost : z_mi yX4_lost := ⟨gw_at 706 (by decide +kernel) rfl, gw_at 707 (by decide +kernel) rfl⟩
abbrev mL_runScript : zM := (yL_runScript, cL_runScript, 6, (some FieldType.int), [((0 : Nat), (11 : Nat), (14 : Nat), (13 : Nat))])
theorem mwwL_runScript : Cond.initialized yL_runScript.cls ∈ gw := gw_at 12 (by decide +kernel) rfl
theorem mwcL_runScript : Cond.codeWith yL_runScript cL_runScript 6 (some FieldType.int) [((0 : Nat), (11 : Nat), (14 : Nat), (13 : Nat))] ∈ gw := gw_at 712 (by decide +kernel) rfl
theorem msL_runScript : Cond.static yL_runScript ∈ gw := gw_at 711 (by decide +kernel) rfl
abbrev mX4_runScript : zM := (yX4_runScript, cX4_runScript, 6, (some FieldType.int), [])
theorem mwX4_runScript : z_mw yX4_runScript cX4_runScript 6 (some FieldType.int) 2 := ⟨gw_at 13 (by decide +kernel) rfl, gw_at 716 (by decide +kernel) rfl, (by decide +kernel), by decide⟩
theorem miX4_runScript : z_mi yX4_runScript := ⟨gw_at 714 (by decide +kernel) rfl, gw_at 715 (by decide +kernel) rfl⟩
abbrev mX4_withoutLastGroups : zM := (yX4_withoutLastGroups, cX4_withoutLastGroups, 6, (some FieldType.long), [])
theorem mwX4_withoutLastGroups : z_mw yX4_withoutLastGroups cX4_withoutLastGroups 6 (some FieldType.long) 2 := ⟨gw_at 13 (by decide +kernel) rfl, gw_at 719 (by decide +kernel) rfl, (by decide +kernel), by decide⟩
theorem msX4_withoutLastGroups : Cond.static yX4_withoutLastGroups ∈ gw := gw_at 718 (by decide +kernel) rfl
abbrev mX4_obeyGroup : zM := (yX4_obeyGroup, cX4_obeyGroup, 9, (some FieldType.boolean), [])
theorem mwX4_obeyGroup : z_mw yX4_obeyGroup cX4_obeyGroup 9 (some FieldType.boolean) 2 := ⟨gw_at 13 (by decide +kernel) rfl, gw_at 723 (by decide +kernel) rfl, (by decide +kernel), by decide⟩
theorem msX4_obeyGroup : Cond.static yX4_obeyGroup ∈ gw := gw_at 722 (by decide +kernel) rfl
abbrev mX1_isTaskAtValue : zM := (yX1_isTaskAtValue, cX1_isTaskAtValue, 4, (some FieldType.boolean), [])
theorem mwX1_isTaskAtValue : z_mw yX1_isTaskAtValue cX1_isTaskAtValue 4 (some FieldType.boolean) 2 := ⟨gw_at 15 (by decide +kernel) rfl, gw_at 728 (by decide +kernel) rfl, (by decide +kernel), by decide⟩
theorem miX1_isTaskAtValue : z_mi yX1_isTaskAtValue := ⟨gw_at 726 (by decide +kernel) rfl, gw_at 727 (by decide +kernel) rfl⟩
abbrev mL_simulate : zM := (yL_simulate, cL_simulate, 6, (some FieldType.int), [((0 : Nat), (11 : Nat), (14 : Nat), (13 : Nat))])
theorem mwwL_simulate : Cond.initialized yL_simulate.cls ∈ gw := gw_at 12 (by decide +kernel) rfl
theorem mwcL_simulate : Cond.codeWith yL_simulate cL_simulate 6 (some FieldType.int) [((0 : Nat), (11 : Nat), (14 : Nat), (13 : Nat))] ∈ gw := gw_at 731 (by decide +kernel) rfl
theorem msL_simulate : Cond.static yL_simulate ∈ gw := gw_at 730 (by decide +kernel) rfl
abbrev mX4_simulate : zM := (yX4_simulate, cX4_simulate, 7, (some FieldType.int), [])
theorem mwX4_simulate : z_mw yX4_simulate cX4_simulate 7 (some FieldType.int) 2 := ⟨gw_at 13 (by decide +kernel) rfl, gw_at 735 (by decide +kernel) rfl, (by decide +kernel), by decide⟩
theorem miX4_simulate : z_mi yX4_simulate := ⟨gw_at 733 (by decide +kernel) rfl, gw_at 734 (by decide +kernel) rfl⟩
abbrev mX4_takeTurn : zM := (yX4_takeTurn, cX4_takeTurn, 3, (none), [])
theorem mwX4_takeTurn : z_mw yX4_takeTurn cX4_takeTurn 3 (none) 2 := ⟨gw_at 13 (by decide +kernel) rfl, gw_at 740 (by decide +kernel) rfl, (by decide +kernel), by decide⟩
theorem msX4_takeTurn : Cond.static yX4_takeTurn ∈ gw := gw_at 739 (by decide +kernel) rfl
abbrev mL_save : zM := (yL_save, cL_save, 4, (some FieldType.int), [((0 : Nat), (9 : Nat), (12 : Nat), (28 : Nat))])
theorem mwwL_save : Cond.initialized yL_save.cls ∈ gw := gw_at 12 (by decide +kernel) rfl
theorem mwcL_save : Cond.codeWith yL_save cL_save 4 (some FieldType.int) [((0 : Nat), (9 : Nat), (12 : Nat), (28 : Nat))] ∈ gw := gw_at 746 (by decide +kernel) rfl
theorem msL_save : Cond.static yL_save ∈ gw := gw_at 745 (by decide +kernel) rfl
abbrev mX4_save : zM := (yX4_save, cX4_save, 2, (some FieldType.int), [])
theorem mwX4_save : z_mw yX4_save cX4_save 2 (some FieldType.int) 1 := ⟨gw_at 13 (by decide +kernel) rfl, gw_at 750 (by decide +kernel) rfl, (by decide +kernel), by decide⟩
theorem miX4_save : z_mi yX4_save := ⟨gw_at 748 (by decide +kernel) rfl, gw_at 749 (by decide +kernel) rfl⟩
abbrev mL_restore : zM := (yL_restore, cL_restore, 4, (some FieldType.int), [((0 : Nat), (9 : Nat), (12 : Nat), (28 : Nat)), ((0 : Nat), (9 : Nat), (15 : Nat), (15 : Nat))])
theorem mwwL_restore : Cond.initialized yL_restore.cls ∈ gw := gw_at 12 (by decide +kernel) rfl
theorem mwcL_restore : Cond.codeWith yL_restore cL_restore 4 (some FieldType.int) [((0 : Nat), (9 : Nat), (12 : Nat), (28 : Nat)), ((0 : Nat), (9 : Nat), (15 : Nat), (15 : Nat))] ∈ gw := gw_at 753 (by decide +kernel) rfl
theorem msL_restore : Cond.static yL_restore ∈ gw := gw_at 752 (by decide +kernel) rfl
abbrev mX4_restore : zM := (yX4_restore, cX4_restore, 2, (some FieldType.int), [])
theorem mwX4_restore : z_mw yX4_restore cX4_restore 2 (some FieldType.int) 1 := ⟨gw_at 13 (by decide +kernel) rfl, gw_at 757 (by decide +kernel) rfl, (by decide +kernel), by decide⟩
theorem miX4_restore : z_mi yX4_restore := ⟨gw_at 755 (by decide +kernel) rfl, gw_at 756 (by decide +kernel) rfl⟩
abbrev mX5_init : zM := (yX5_init, cX5_init, 1, (none), [])
theorem mwX5_init : z_mw yX5_init cX5_init 1 (none) 0 := ⟨gw_at 18 (by decide +kernel) rfl, gw_at 762 (by decide +kernel) rfl, (by decide +kernel), by decide⟩
theorem miX5_init : Cond.instanceMethod yX5_init ∈ gw := gw_at 761 (by decide +kernel) rfl
abbrev mX5_clear : zM := (yX5_clear, cX5_clear, 2, (none), [])
theorem mwX5_clear : z_mw yX5_clear cX5_clear 2 (none) 1 := ⟨gw_at 18 (by decide +kernel) rfl, gw_at 766 (by decide +kernel) rfl, (by decide +kernel), by decide⟩
theorem msX5_clear : Cond.static yX5_clear ∈ gw := gw_at 765 (by decide +kernel) rfl
abbrev mX5_thrown : zM := (yX5_thrown, cX5_thrown, 1, (some FieldType.int), [])
theorem mwX5_thrown : z_mw yX5_thrown cX5_thrown 1 (some FieldType.int) 0 := ⟨gw_at 18 (by decide +kernel) rfl, gw_at 804 (by decide +kernel) rfl, (by decide +kernel), by decide⟩
theorem miX5_thrown : z_mi yX5_thrown := ⟨gw_at 802 (by decide +kernel) rfl, gw_at 803 (by decide +kernel) rfl⟩
abbrev mX5_append : zM := (yX5_append, cX5_append, 2, (some FieldType.int), [])
theorem mwX5_append : z_mw yX5_append cX5_append 2 (some FieldType.int) 1 := ⟨gw_at 18 (by decide +kernel) rfl, gw_at 808 (by decide +kernel) rfl, (by decide +kernel), by decide⟩
theorem miX5_append : z_mi yX5_append := ⟨gw_at 806 (by decide +kernel) rfl, gw_at 807 (by decide +kernel) rfl⟩
abbrev mX5_in : zM := (yX5_in, cX5_in, 6, (some FieldType.boolean), [])
theorem mwX5_in : z_mw yX5_in cX5_in 6 (some FieldType.boolean) 3 := ⟨gw_at 18 (by decide +kernel) rfl, gw_at 812 (by decide +kernel) rfl, (by decide +kernel), by decide⟩
theorem msX5_in : Cond.static yX5_in ∈ gw := gw_at 811 (by decide +kernel) rfl
abbrev mX5_refused : zM := (yX5_refused, cX5_refused, 2, (some FieldType.boolean), [])
theorem mwX5_refused : z_mw yX5_refused cX5_refused 2 (some FieldType.boolean) 1 := ⟨gw_at 18 (by decide +kernel) rfl, gw_at 816 (by decide +kernel) rfl, (by decide +kernel), by decide⟩
theorem miX5_refused : z_mi yX5_refused := ⟨gw_at 815 (by decide +kernel) rfl, gw_at 5 (by decide +kernel) rfl⟩
abbrev mX5_clearText : zM := (yX5_clearText, cX5_clearText, 2, (some FieldType.int), [])
theorem mwX5_clearText : z_mw yX5_clearText cX5_clearText 2 (some FieldType.int) 0 := ⟨gw_at 18 (by decide +kernel) rfl, gw_at 820 (by decide +kernel) rfl, (by decide +kernel), by decide⟩
theorem miX5_clearText : z_mi yX5_clearText := ⟨gw_at 818 (by decide +kernel) rfl, gw_at 819 (by decide +kernel) rfl⟩
abbrev mX5_errorPosition : zM := (yX5_errorPosition, cX5_errorPosition, 1, (some FieldType.int), [])
theorem mwX5_errorPosition : z_mw yX5_errorPosition cX5_errorPosition 1 (some FieldType.int) 0 := ⟨gw_at 18 (by decide +kernel) rfl, gw_at 824 (by decide +kernel) rfl, (by decide +kernel), by decide⟩
theorem miX5_errorPosition : z_mi yX5_errorPosition := ⟨gw_at 822 (by decide +kernel) rfl, gw_at 823 (by decide +kernel) rfl⟩
abbrev mX5_readText : zM := (yX5_readText, cX5_readText, 2, (some FieldType.int), [])
theorem mwX5_readText : z_mw yX5_readText cX5_readText 2 (some FieldType.int) 1 := ⟨gw_at 18 (by decide +kernel) rfl, gw_at 828 (by decide +kernel) rfl, (by decide +kernel), by decide⟩
theorem miX5_readText : z_mi yX5_readText := ⟨gw_at 827 (by decide +kernel) rfl, gw_at 6 (by decide +kernel) rfl⟩
abbrev mX5_readCommand : zM := (yX5_readCommand, cX5_readCommand, 5, (some FieldType.boolean), [])
theorem mwX5_readCommand : z_mw yX5_readCommand cX5_readCommand 5 (some FieldType.boolean) 1 := ⟨gw_at 18 (by decide +kernel) rfl, gw_at 832 (by decide +kernel) rfl, (by decide +kernel), by decide⟩
theorem miX5_readCommand : z_mi yX5_readCommand := ⟨gw_at 831 (by decide +kernel) rfl, gw_at 7 (by decide +kernel) rfl⟩
abbrev mX5_figures : zM := (yX5_figures, cX5_figures, 9, (some FieldType.int), [])
theorem mwX5_figures : z_mw yX5_figures cX5_figures 9 (some FieldType.int) 4 := ⟨gw_at 18 (by decide +kernel) rfl, gw_at 836 (by decide +kernel) rfl, (by decide +kernel), by decide⟩
theorem miX5_figures : z_mi yX5_figures := ⟨gw_at 835 (by decide +kernel) rfl, gw_at 8 (by decide +kernel) rfl⟩
abbrev mX5_addOn : zM := (yX5_addOn, cX5_addOn, 4, (some FieldType.int), [])
theorem mwX5_addOn : z_mw yX5_addOn cX5_addOn 4 (some FieldType.int) 3 := ⟨gw_at 18 (by decide +kernel) rfl, gw_at 840 (by decide +kernel) rfl, (by decide +kernel), by decide⟩
theorem msX5_addOn : Cond.static yX5_addOn ∈ gw := gw_at 839 (by decide +kernel) rfl
abbrev mX5_lay : zM := (yX5_lay, cX5_lay, 4, (none), [])
theorem mwX5_lay : z_mw yX5_lay cX5_lay 4 (none) 4 := ⟨gw_at 18 (by decide +kernel) rfl, gw_at 843 (by decide +kernel) rfl, (by decide +kernel), by decide⟩
theorem msX5_lay : Cond.static yX5_lay ∈ gw := gw_at 842 (by decide +kernel) rfl
abbrev mX5_done : zM := (yX5_done, cX5_done, 2, (some FieldType.boolean), [])
theorem mwX5_done : z_mw yX5_done cX5_done 2 (some FieldType.boolean) 1 := ⟨gw_at 18 (by decide +kernel) rfl, gw_at 847 (by decide +kernel) rfl, (by decide +kernel), by decide⟩
theorem miX5_done : z_mi yX5_done := ⟨gw_at 846 (by decide +kernel) rfl, gw_at 9 (by decide +kernel) rfl⟩
abbrev mX5_canBring : zM := (yX5_canBring, cX5_canBring, 5, (some FieldType.boolean), [])
theorem mwX5_canBring : z_mw yX5_canBring cX5_canBring 5 (some FieldType.boolean) 3 := ⟨gw_at 18 (by decide +kernel) rfl, gw_at 850 (by decide +kernel) rfl, (by decide +kernel), by decide⟩
theorem msX5_canBring : Cond.static yX5_canBring ∈ gw := gw_at 849 (by decide +kernel) rfl
abbrev mX5_isTask : zM := (yX5_isTask, cX5_isTask, 2, (some FieldType.boolean), [])
theorem mwX5_isTask : z_mw yX5_isTask cX5_isTask 2 (some FieldType.boolean) 2 := ⟨gw_at 18 (by decide +kernel) rfl, gw_at 853 (by decide +kernel) rfl, (by decide +kernel), by decide⟩
theorem msX5_isTask : Cond.static yX5_isTask ∈ gw := gw_at 852 (by decide +kernel) rfl
abbrev mX5_isStripe : zM := (yX5_isStripe, cX5_isStripe, 1, (some FieldType.boolean), [])
theorem mwX5_isStripe : z_mw yX5_isStripe cX5_isStripe 1 (some FieldType.boolean) 1 := ⟨gw_at 18 (by decide +kernel) rfl, gw_at 856 (by decide +kernel) rfl, (by decide +kernel), by decide⟩
theorem msX5_isStripe : Cond.static yX5_isStripe ∈ gw := gw_at 855 (by decide +kernel) rfl
abbrev mX5_of : zM := (yX5_of, cX5_of, 3, (some FieldType.int), [])
theorem mwX5_of : z_mw yX5_of cX5_of 3 (some FieldType.int) 3 := ⟨gw_at 18 (by decide +kernel) rfl, gw_at 860 (by decide +kernel) rfl, (by decide +kernel), by decide⟩
theorem msX5_of : Cond.static yX5_of ∈ gw := gw_at 859 (by decide +kernel) rfl
abbrev mX5_taker : zM := (yX5_taker, cX5_taker, 4, (some FieldType.int), [])
theorem mwX5_taker : z_mw yX5_taker cX5_taker 4 (some FieldType.int) 2 := ⟨gw_at 18 (by decide +kernel) rfl, gw_at 863 (by decide +kernel) rfl, (by decide +kernel), by decide⟩
theorem msX5_taker : Cond.static yX5_taker ∈ gw := gw_at 862 (by decide +kernel) rfl
abbrev mX5_bringOn : zM := (yX5_bringOn, cX5_bringOn, 7, (some FieldType.int), [])
theorem mwX5_bringOn : z_mw yX5_bringOn cX5_bringOn 7 (some FieldType.int) 3 := ⟨gw_at 18 (by decide +kernel) rfl, gw_at 866 (by decide +kernel) rfl, (by decide +kernel), by decide⟩
theorem msX5_bringOn : Cond.static yX5_bringOn ∈ gw := gw_at 865 (by decide +kernel) rfl
abbrev mX5_turnOn : zM := (yX5_turnOn, cX5_turnOn, 4, (some FieldType.int), [])
theorem mwX5_turnOn : z_mw yX5_turnOn cX5_turnOn 4 (some FieldType.int) 2 := ⟨gw_at 18 (by decide +kernel) rfl, gw_at 869 (by decide +kernel) rfl, (by decide +kernel), by decide⟩
theorem msX5_turnOn : Cond.static yX5_turnOn ∈ gw := gw_at 868 (by decide +kernel) rfl
abbrev mX5_hurt : zM := (yX5_hurt, cX5_hurt, 4, (some FieldType.int), [])
theorem mwX5_hurt : z_mw yX5_hurt cX5_hurt 4 (some FieldType.int) 2 := ⟨gw_at 18 (by decide +kernel) rfl, gw_at 872 (by decide +kernel) rfl, (by decide +kernel), by decide⟩
theorem msX5_hurt : Cond.static yX5_hurt ∈ gw := gw_at 871 (by decide +kernel) rfl
abbrev mX5_comer : zM := (yX5_comer, cX5_comer, 2, (some FieldType.int), [])
theorem mwX5_comer : z_mw yX5_comer cX5_comer 2 (some FieldType.int) 2 := ⟨gw_at 18 (by decide +kernel) rfl, gw_at 875 (by decide +kernel) rfl, (by decide +kernel), by decide⟩
theorem msX5_comer : Cond.static yX5_comer ∈ gw := gw_at 874 (by decide +kernel) rfl
abbrev mX5_isMove : zM := (yX5_isMove, cX5_isMove, 1, (some FieldType.boolean), [])
theorem mwX5_isMove : z_mw yX5_isMove cX5_isMove 1 (some FieldType.boolean) 1 := ⟨gw_at 18 (by decide +kernel) rfl, gw_at 878 (by decide +kernel) rfl, (by decide +kernel), by decide⟩
theorem msX5_isMove : Cond.static yX5_isMove ∈ gw := gw_at 877 (by decide +kernel) rfl
abbrev mX5_dropJob : zM := (yX5_dropJob, cX5_dropJob, 1, (none), [])
theorem mwX5_dropJob : z_mw yX5_dropJob cX5_dropJob 1 (none) 1 := ⟨gw_at 18 (by decide +kernel) rfl, gw_at 881 (by decide +kernel) rfl, (by decide +kernel), by decide⟩
theorem msX5_dropJob : Cond.static yX5_dropJob ∈ gw := gw_at 880 (by decide +kernel) rfl
abbrev mX5_mendOn : zM := (yX5_mendOn, cX5_mendOn, 3, (some FieldType.int), [])
theorem mwX5_mendOn : z_mw yX5_mendOn cX5_mendOn 3 (some FieldType.int) 2 := ⟨gw_at 18 (by decide +kernel) rfl, gw_at 884 (by decide +kernel) rfl, (by decide +kernel), by decide⟩
theorem msX5_mendOn : Cond.static yX5_mendOn ∈ gw := gw_at 883 (by decide +kernel) rfl
abbrev mX5_canStop : zM := (yX5_canStop, cX5_canStop, 2, (some FieldType.boolean), [])
theorem mwX5_canStop : z_mw yX5_canStop cX5_canStop 2 (some FieldType.boolean) 2 := ⟨gw_at 18 (by decide +kernel) rfl, gw_at 887 (by decide +kernel) rfl, (by decide +kernel), by decide⟩
theorem msX5_canStop : Cond.static yX5_canStop ∈ gw := gw_at 886 (by decide +kernel) rfl
abbrev mX5_stopOn : zM := (yX5_stopOn, cX5_stopOn, 2, (some FieldType.int), [])
theorem mwX5_stopOn : z_mw yX5_stopOn cX5_stopOn 2 (some FieldType.int) 2 := ⟨gw_at 18 (by decide +kernel) rfl, gw_at 890 (by decide +kernel) rfl, (by decide +kernel), by decide⟩
theorem msX5_stopOn : Cond.static yX5_stopOn ∈ gw := gw_at 889 (by decide +kernel) rfl
abbrev mX5_runOn : zM := (yX5_runOn, cX5_runOn, 4, (some FieldType.int), [])
theorem mwX5_runOn : z_mw yX5_runOn cX5_runOn 4 (some FieldType.int) 2 := ⟨gw_at 18 (by decide +kernel) rfl, gw_at 893 (by decide +kernel) rfl, (by decide +kernel), by decide⟩
theorem msX5_runOn : Cond.static yX5_runOn ∈ gw := gw_at 892 (by decide +kernel) rfl
abbrev mX5_tickOn : zM := (yX5_tickOn, cX5_tickOn, 4, (none), [])
theorem mwX5_tickOn : z_mw yX5_tickOn cX5_tickOn 4 (none) 1 := ⟨gw_at 18 (by decide +kernel) rfl, gw_at 896 (by decide +kernel) rfl, (by decide +kernel), by decide⟩
theorem msX5_tickOn : Cond.static yX5_tickOn ∈ gw := gw_at 895 (by decide +kernel) rfl
abbrev mX5_loadOn : zM := (yX5_loadOn, cX5_loadOn, 1, (none), [])
theorem mwX5_loadOn : z_mw yX5_loadOn cX5_loadOn 1 (none) 1 := ⟨gw_at 18 (by decide +kernel) rfl, gw_at 899 (by decide +kernel) rfl, (by decide +kernel), by decide⟩
theorem msX5_loadOn : Cond.static yX5_loadOn ∈ gw := gw_at 898 (by decide +kernel) rfl
abbrev mX5_finish : zM := (yX5_finish, cX5_finish, 2, (none), [])
theorem mwX5_finish : z_mw yX5_finish cX5_finish 2 (none) 1 := ⟨gw_at 18 (by decide +kernel) rfl, gw_at 902 (by decide +kernel) rfl, (by decide +kernel), by decide⟩
theorem msX5_finish : Cond.static yX5_finish ∈ gw := gw_at 901 (by decide +kernel) rfl
abbrev mX5_load : zM := (yX5_load, cX5_load, 1, (some FieldType.int), [])
theorem mwX5_load : z_mw yX5_load cX5_load 1 (some FieldType.int) 0 := ⟨gw_at 18 (by decide +kernel) rfl, gw_at 906 (by decide +kernel) rfl, (by decide +kernel), by decide⟩
theorem miX5_load : z_mi yX5_load := ⟨gw_at 904 (by decide +kernel) rfl, gw_at 905 (by decide +kernel) rfl⟩
abbrev mX5_copyState : zM := (yX5_copyState, cX5_copyState, 5, (none), [])
theorem mwX5_copyState : z_mw yX5_copyState cX5_copyState 5 (none) 4 := ⟨gw_at 18 (by decide +kernel) rfl, gw_at 909 (by decide +kernel) rfl, (by decide +kernel), by decide⟩
theorem msX5_copyState : Cond.static yX5_copyState ∈ gw := gw_at 908 (by decide +kernel) rfl
abbrev mX5_about : zM := (yX5_about, cX5_about, 7, (some FieldType.int), [])
theorem mwX5_about : z_mw yX5_about cX5_about 7 (some FieldType.int) 1 := ⟨gw_at 18 (by decide +kernel) rfl, gw_at 913 (by decide +kernel) rfl, (by decide +kernel), by decide⟩
theorem miX5_about : z_mi yX5_about := ⟨gw_at 911 (by decide +kernel) rfl, gw_at 912 (by decide +kernel) rfl⟩
abbrev mX5_freeFrom : zM := (yX5_freeFrom, cX5_freeFrom, 3, (some FieldType.int), [])
theorem mwX5_freeFrom : z_mw yX5_freeFrom cX5_freeFrom 3 (some FieldType.int) 2 := ⟨gw_at 18 (by decide +kernel) rfl, gw_at 917 (by decide +kernel) rfl, (by decide +kernel), by decide⟩
theorem msX5_freeFrom : Cond.static yX5_freeFrom ∈ gw := gw_at 916 (by decide +kernel) rfl
abbrev mX5_isFree : zM := (yX5_isFree, cX5_isFree, 2, (some FieldType.boolean), [])
theorem mwX5_isFree : z_mw yX5_isFree cX5_isFree 2 (some FieldType.boolean) 2 := ⟨gw_at 18 (by decide +kernel) rfl, gw_at 920 (by decide +kernel) rfl, (by decide +kernel), by decide⟩
theorem msX5_isFree : Cond.static yX5_isFree ∈ gw := gw_at 919 (by decide +kernel) rfl
abbrev mX5_running : zM := (yX5_running, cX5_running, 3, (some FieldType.int), [])
theorem mwX5_running : z_mw yX5_running cX5_running 3 (some FieldType.int) 1 := ⟨gw_at 18 (by decide +kernel) rfl, gw_at 923 (by decide +kernel) rfl, (by decide +kernel), by decide⟩
theorem msX5_running : Cond.static yX5_running ∈ gw := gw_at 922 (by decide +kernel) rfl
abbrev mX5_task : zM := (yX5_task, cX5_task, 3, (some FieldType.int), [])
theorem mwX5_task : z_mw yX5_task cX5_task 3 (some FieldType.int) 2 := ⟨gw_at 18 (by decide +kernel) rfl, gw_at 927 (by decide +kernel) rfl, (by decide +kernel), by decide⟩
theorem miX5_task : z_mi yX5_task := ⟨gw_at 925 (by decide +kernel) rfl, gw_at 926 (by decide +kernel) rfl⟩
abbrev mX5_stripe : zM := (yX5_stripe, cX5_stripe, 3, (some FieldType.int), [])
theorem mwX5_stripe : z_mw yX5_stripe cX5_stripe 3 (some FieldType.int) 2 := ⟨gw_at 18 (by decide +kernel) rfl, gw_at 932 (by decide +kernel) rfl, (by decide +kernel), by decide⟩
theorem miX5_stripe : z_mi yX5_stripe := ⟨gw_at 930 (by decide +kernel) rfl, gw_at 931 (by decide +kernel) rfl⟩
abbrev mX5_job : zM := (yX5_job, cX5_job, 2, (some FieldType.int), [])
theorem mwX5_job : z_mw yX5_job cX5_job 2 (some FieldType.int) 1 := ⟨gw_at 18 (by decide +kernel) rfl, gw_at 937 (by decide +kernel) rfl, (by decide +kernel), by decide⟩
theorem miX5_job : z_mi yX5_job := ⟨gw_at 935 (by decide +kernel) rfl, gw_at 936 (by decide +kernel) rfl⟩
abbrev mX5_setting : zM := (yX5_setting, cX5_setting, 2, (some FieldType.int), [])
theorem mwX5_setting : z_mw yX5_setting cX5_setting 2 (some FieldType.int) 1 := ⟨gw_at 18 (by decide +kernel) rfl, gw_at 941 (by decide +kernel) rfl, (by decide +kernel), by decide⟩
theorem miX5_setting : z_mi yX5_setting := ⟨gw_at 939 (by decide +kernel) rfl, gw_at 940 (by decide +kernel) rfl⟩
abbrev mX5_add : zM := (yX5_add, cX5_add, 3, (some FieldType.int), [])
theorem mwX5_add : z_mw yX5_add cX5_add 3 (some FieldType.int) 2 := ⟨gw_at 18 (by decide +kernel) rfl, gw_at 945 (by decide +kernel) rfl, (by decide +kernel), by decide⟩
theorem miX5_add : z_mi yX5_add := ⟨gw_at 943 (by decide +kernel) rfl, gw_at 944 (by decide +kernel) rfl⟩
abbrev mX5_remember : zM := (yX5_remember, cX5_remember, 2, (none), [])
theorem mwX5_remember : z_mw yX5_remember cX5_remember 2 (none) 0 := ⟨gw_at 18 (by decide +kernel) rfl, gw_at 951 (by decide +kernel) rfl, (by decide +kernel), by decide⟩
theorem miX5_remember : z_mi yX5_remember := ⟨gw_at 950 (by decide +kernel) rfl, gw_at 10 (by decide +kernel) rfl⟩
abbrev mX5_bring : zM := (yX5_bring, cX5_bring, 3, (some FieldType.int), [])
theorem mwX5_bring : z_mw yX5_bring cX5_bring 3 (some FieldType.int) 2 := ⟨gw_at 18 (by decide +kernel) rfl, gw_at 955 (by decide +kernel) rfl, (by decide +kernel), by decide⟩
theorem miX5_bring : z_mi yX5_bring := ⟨gw_at 953 (by decide +kernel) rfl, gw_at 954 (by decide +kernel) rfl⟩
abbrev mX5_stop : zM := (yX5_stop, cX5_stop, 2, (some FieldType.int), [])
theorem mwX5_stop : z_mw yX5_stop cX5_stop 2 (some FieldType.int) 1 := ⟨gw_at 18 (by decide +kernel) rfl, gw_at 959 (by decide +kernel) rfl, (by decide +kernel), by decide⟩
theorem miX5_stop : z_mi yX5_stop := ⟨gw_at 957 (by decide +kernel) rfl, gw_at 958 (by decide +kernel) rfl⟩
abbrev mX5_turnBad : zM := (yX5_turnBad, cX5_turnBad, 2, (some FieldType.int), [])
theorem mwX5_turnBad : z_mw yX5_turnBad cX5_turnBad 2 (some FieldType.int) 1 := ⟨gw_at 18 (by decide +kernel) rfl, gw_at 963 (by decide +kernel) rfl, (by decide +kernel), by decide⟩
theorem miX5_turnBad : z_mi yX5_turnBad := ⟨gw_at 961 (by decide +kernel) rfl, gw_at 962 (by decide +kernel) rfl⟩
abbrev mX5_mend : zM := (yX5_mend, cX5_mend, 2, (some FieldType.int), [])
theorem mwX5_mend : z_mw yX5_mend cX5_mend 2 (some FieldType.int) 1 := ⟨gw_at 18 (by decide +kernel) rfl, gw_at 967 (by decide +kernel) rfl, (by decide +kernel), by decide⟩
theorem miX5_mend : z_mi yX5_mend := ⟨gw_at 965 (by decide +kernel) rfl, gw_at 966 (by decide +kernel) rfl⟩
abbrev mX5_run : zM := (yX5_run, cX5_run, 2, (some FieldType.int), [])
theorem mwX5_run : z_mw yX5_run cX5_run 2 (some FieldType.int) 1 := ⟨gw_at 18 (by decide +kernel) rfl, gw_at 971 (by decide +kernel) rfl, (by decide +kernel), by decide⟩
theorem miX5_run : z_mi yX5_run := ⟨gw_at 969 (by decide +kernel) rfl, gw_at 970 (by decide +kernel) rfl⟩
abbrev mX5_set : zM := (yX5_set, cX5_set, 4, (some FieldType.int), [])
theorem mwX5_set : z_mw yX5_set cX5_set 4 (some FieldType.int) 2 := ⟨gw_at 18 (by decide +kernel) rfl, gw_at 976 (by decide +kernel) rfl, (by decide +kernel), by decide⟩
theorem miX5_set : z_mi yX5_set := ⟨gw_at 974 (by decide +kernel) rfl, gw_at 975 (by decide +kernel) rfl⟩
abbrev mX5_isSetting : zM := (yX5_isSetting, cX5_isSetting, 2, (some FieldType.boolean), [])
theorem mwX5_isSetting : z_mw yX5_isSetting cX5_isSetting 2 (some FieldType.boolean) 2 := ⟨gw_at 18 (by decide +kernel) rfl, gw_at 979 (by decide +kernel) rfl, (by decide +kernel), by decide⟩
theorem msX5_isSetting : Cond.static yX5_isSetting ∈ gw := gw_at 978 (by decide +kernel) rfl
abbrev mX5_undo : zM := (yX5_undo, cX5_undo, 1, (some FieldType.int), [])
theorem mwX5_undo : z_mw yX5_undo cX5_undo 1 (some FieldType.int) 0 := ⟨gw_at 18 (by decide +kernel) rfl, gw_at 985 (by decide +kernel) rfl, (by decide +kernel), by decide⟩
theorem miX5_undo : z_mi yX5_undo := ⟨gw_at 983 (by decide +kernel) rfl, gw_at 984 (by decide +kernel) rfl⟩
abbrev mX5_bestGap : zM := (yX5_bestGap, cX5_bestGap, 7, (some FieldType.int), [])
theorem mwX5_bestGap : z_mw yX5_bestGap cX5_bestGap 7 (some FieldType.int) 1 := ⟨gw_at 18 (by decide +kernel) rfl, gw_at 989 (by decide +kernel) rfl, (by decide +kernel), by decide⟩
theorem miX5_bestGap : z_mi yX5_bestGap := ⟨gw_at 987 (by decide +kernel) rfl, gw_at 988 (by decide +kernel) rfl⟩
abbrev mX5_window : zM := (yX5_window, cX5_window, 8, (some FieldType.int), [])
theorem mwX5_window : z_mw yX5_window cX5_window 8 (some FieldType.int) 2 := ⟨gw_at 18 (by decide +kernel) rfl, gw_at 993 (by decide +kernel) rfl, (by decide +kernel), by decide⟩
theorem miX5_window : z_mi yX5_window := ⟨gw_at 991 (by decide +kernel) rfl, gw_at 992 (by decide +kernel) rfl⟩
abbrev mX5_inWay : zM := (yX5_inWay, cX5_inWay, 7, (some FieldType.int), [])
theorem mwX5_inWay : z_mw yX5_inWay cX5_inWay 7 (some FieldType.int) 3 := ⟨gw_at 18 (by decide +kernel) rfl, gw_at 997 (by decide +kernel) rfl, (by decide +kernel), by decide⟩
theorem msX5_inWay : Cond.static yX5_inWay ∈ gw := gw_at 996 (by decide +kernel) rfl
abbrev mX5_idleIn : zM := (yX5_idleIn, cX5_idleIn, 1, (some FieldType.int), [])
theorem mwX5_idleIn : z_mw yX5_idleIn cX5_idleIn 1 (some FieldType.int) 0 := ⟨gw_at 18 (by decide +kernel) rfl, gw_at 1001 (by decide +kernel) rfl, (by decide +kernel), by decide⟩
theorem miX5_idleIn : z_mi yX5_idleIn := ⟨gw_at 999 (by decide +kernel) rfl, gw_at 1000 (by decide +kernel) rfl⟩
abbrev mX5_idle : zM := (yX5_idle, cX5_idle, 1, (some FieldType.int), [])
theorem mwX5_idle : z_mw yX5_idle cX5_idle 1 (some FieldType.int) 1 := ⟨gw_at 18 (by decide +kernel) rfl, gw_at 1004 (by decide +kernel) rfl, (by decide +kernel), by decide⟩
theorem msX5_idle : Cond.static yX5_idle ∈ gw := gw_at 1003 (by decide +kernel) rfl
abbrev mX5_coming : zM := (yX5_coming, cX5_coming, 4, (some FieldType.int), [])
theorem mwX5_coming : z_mw yX5_coming cX5_coming 4 (some FieldType.int) 3 := ⟨gw_at 18 (by decide +kernel) rfl, gw_at 1008 (by decide +kernel) rfl, (by decide +kernel), by decide⟩
theorem miX5_coming : z_mi yX5_coming := ⟨gw_at 1006 (by decide +kernel) rfl, gw_at 1007 (by decide +kernel) rfl⟩
abbrev mX5_lost : zM := (yX5_lost, cX5_lost, 3, (some FieldType.int), [])
theorem mwX5_lost : z_mw yX5_lost cX5_lost 3 (some FieldType.int) 1 := ⟨gw_at 18 (by decide +kernel) rfl, gw_at 1013 (by decide +kernel) rfl, (by decide +kernel), by decide⟩
theorem miX5_lost : z_mi yX5_lost := ⟨gw_at 1011 (by decide +kernel) rfl, gw_at 1012 (by decide +kernel) rfl⟩
abbrev mX5_runScript : zM := (yX5_runScript, cX5_runScript, 8, (some FieldType.int), [])
theorem mwX5_runScript : z_mw yX5_runScript cX5_runScript 8 (some FieldType.int) 2 := ⟨gw_at 18 (by decide +kernel) rfl, gw_at 1017 (by decide +kernel) rfl, (by decide +kernel), by decide⟩
theorem miX5_runScript : z_mi yX5_runScript := ⟨gw_at 1015 (by decide +kernel) rfl, gw_at 1016 (by decide +kernel) rfl⟩
abbrev mX5_command : zM := (yX5_command, cX5_command, 10, (some FieldType.boolean), [])
theorem mwX5_command : z_mw yX5_command cX5_command 10 (some FieldType.boolean) 2 := ⟨gw_at 18 (by decide +kernel) rfl, gw_at 1023 (by decide +kernel) rfl, (by decide +kernel), by decide⟩
theorem miX5_command : z_mi yX5_command := ⟨gw_at 1022 (by decide +kernel) rfl, gw_at 11 (by decide +kernel) rfl⟩
abbrev mX5_simulate : zM := (yX5_simulate, cX5_simulate, 7, (some FieldType.int), [])
theorem mwX5_simulate : z_mw yX5_simulate cX5_simulate 7 (some FieldType.int) 2 := ⟨gw_at 18 (by decide +kernel) rfl, gw_at 1027 (by decide +kernel) rfl, (by decide +kernel), by decide⟩
theorem miX5_simulate : z_mi yX5_simulate := ⟨gw_at 1025 (by decide +kernel) rfl, gw_at 1026 (by decide +kernel) rfl⟩
abbrev mX5_turn : zM := (yX5_turn, cX5_turn, 3, (none), [])
theorem mwX5_turn : z_mw yX5_turn cX5_turn 3 (none) 2 := ⟨gw_at 18 (by decide +kernel) rfl, gw_at 1032 (by decide +kernel) rfl, (by decide +kernel), by decide⟩
theorem msX5_turn : Cond.static yX5_turn ∈ gw := gw_at 1031 (by decide +kernel) rfl
abbrev mX5_save : zM := (yX5_save, cX5_save, 2, (some FieldType.int), [])
theorem mwX5_save : z_mw yX5_save cX5_save 2 (some FieldType.int) 1 := ⟨gw_at 18 (by decide +kernel) rfl, gw_at 1036 (by decide +kernel) rfl, (by decide +kernel), by decide⟩
theorem miX5_save : z_mi yX5_save := ⟨gw_at 1034 (by decide +kernel) rfl, gw_at 1035 (by decide +kernel) rfl⟩
abbrev mX5_restore : zM := (yX5_restore, cX5_restore, 2, (some FieldType.int), [])
theorem mwX5_restore : z_mw yX5_restore cX5_restore 2 (some FieldType.int) 1 := ⟨gw_at 18 (by decide +kernel) rfl, gw_at 1040 (by decide +kernel) rfl, (by decide +kernel), by decide⟩
theorem miX5_restore : z_mi yX5_restore := ⟨gw_at 1038 (by decide +kernel) rfl, gw_at 1039 (by decide +kernel) rfl⟩
theorem lk_L_90 : Cond.methodLink RL 90 yX4_init ∈ gw := gw_at 28 (by decide +kernel) rfl
theorem lk_X4_1 : Cond.methodLink RX4 1 Lib.objectInit ∈ gw := gw_at 31 (by decide +kernel) rfl
theorem lk_X4_9 : Cond.methodLinkNest RX4 9 yX3_init RX4 ∈ z_nst := z_nst_at 36 (by decide +kernel) rfl
theorem lk_X3_3 : Cond.methodLink RX3 3 Lib.objectInit ∈ gw := gw_at 39 (by decide +kernel) rfl
theorem lk_X4_18 : Cond.methodLink RX4 18 yX1_init ∈ gw := gw_at 68 (by decide +kernel) rfl
theorem lk_X1_3 : Cond.methodLink RX1 3 Lib.objectInit ∈ gw := gw_at 71 (by decide +kernel) rfl
theorem lk_X1_25 : Cond.methodLinkNest RX1 25 yX2_init RX4 ∈ z_nst := z_nst_at 75 (by decide +kernel) rfl
theorem lk_X2_3 : Cond.methodLink RX2 3 Lib.objectInit ∈ gw := gw_at 78 (by decide +kernel) rfl
theorem lk_X1_26 : Cond.methodLink RX1 26 yX1_reset ∈ gw := gw_at 114 (by decide +kernel) rfl
theorem lk_X1_48 : Cond.methodLink RX1 48 yX1_endJob ∈ gw := gw_at 120 (by decide +kernel) rfl
theorem lk_X4_28 : Cond.methodLink RX4 28 yX0_init ∈ gw := gw_at 169 (by decide +kernel) rfl
theorem lk_X0_3 : Cond.methodLink RX0 3 Lib.objectInit ∈ gw := gw_at 172 (by decide +kernel) rfl
theorem lk_X0_24 : Cond.methodLink RX0 24 yX1_init ∈ gw := gw_at 175 (by decide +kernel) rfl
theorem lk_L_103 : Cond.methodLink RL 103 yX4_clearText ∈ gw := gw_at 206 (by decide +kernel) rfl
theorem lk_X4_59 : Cond.methodLink RX4 59 yX3_makeEmpty ∈ gw := gw_at 210 (by decide +kernel) rfl
theorem lk_L_107 : Cond.methodLink RL 107 yX4_errorPosition ∈ gw := gw_at 214 (by decide +kernel) rfl
theorem lk_X4_63 : Cond.methodLink RX4 63 yX3_firstError ∈ gw := gw_at 218 (by decide +kernel) rfl
theorem lk_X3_39 : Cond.methodLink RX3 39 yX3_beginReading ∈ gw := gw_at 222 (by decide +kernel) rfl
theorem lk_X3_42 : Cond.methodLink RX3 42 yX3_readCommand ∈ gw := gw_at 226 (by decide +kernel) rfl
theorem lk_X3_46 : Cond.methodLink RX3 46 yX3_isInText ∈ gw := gw_at 230 (by decide +kernel) rfl
theorem lk_X3_35 : Cond.methodLinkNest RX3 35 yX4_isBetween RX4 ∈ z_nst := z_nst_at 234 (by decide +kernel) rfl
theorem lk_X3_50 : Cond.methodLink RX3 50 yX3_readNumber ∈ gw := gw_at 237 (by decide +kernel) rfl
theorem lk_X3_54 : Cond.methodLink RX3 54 yX3_digitAt ∈ gw := gw_at 241 (by decide +kernel) rfl
theorem lk_L_161 : Cond.methodLink RL 161 yX4_idleIn ∈ gw := gw_at 245 (by decide +kernel) rfl
theorem lk_X4_241 : Cond.methodLink RX4 241 yX1_ticksUntilIdle ∈ gw := gw_at 249 (by decide +kernel) rfl
theorem lk_X1_109 : Cond.methodLink RX1 109 yX1_jobOwner ∈ gw := gw_at 253 (by decide +kernel) rfl
theorem lk_X1_80 : Cond.methodLink RX1 80 yX1_taskNumbered ∈ gw := gw_at 257 (by decide +kernel) rfl
theorem lk_X1_64 : Cond.methodLink RX1 64 yX1_hasTask ∈ gw := gw_at 261 (by decide +kernel) rfl
theorem lk_L_94 : Cond.methodLink RL 94 yL_append ∈ gw := gw_at 265 (by decide +kernel) rfl
theorem lk_L_7 : Cond.methodLink RL 7 yX4_append ∈ gw := gw_at 270 (by decide +kernel) rfl
theorem lk_X4_41 : Cond.methodLink RX4 41 yX4_isBetween ∈ gw := gw_at 274 (by decide +kernel) rfl
theorem lk_X4_48 : Cond.methodLink RX4 48 yX3_isFull ∈ gw := gw_at 338 (by decide +kernel) rfl
theorem lk_X4_55 : Cond.methodLink RX4 55 yX3_put ∈ gw := gw_at 357 (by decide +kernel) rfl
theorem lk_L_111 : Cond.methodLink RL 111 yL_load ∈ gw := gw_at 361 (by decide +kernel) rfl
theorem lk_L_17 : Cond.methodLink RL 17 yX4_load ∈ gw := gw_at 364 (by decide +kernel) rfl
theorem lk_X4_66 : Cond.methodLink RX4 66 yX1_reset ∈ gw := gw_at 368 (by decide +kernel) rfl
theorem lk_X4_69 : Cond.methodLink RX4 69 yX0_forgetAll ∈ gw := gw_at 369 (by decide +kernel) rfl
theorem lk_X4_72 : Cond.methodLink RX4 72 yX3_beginReading ∈ gw := gw_at 373 (by decide +kernel) rfl
theorem lk_X4_75 : Cond.methodLink RX4 75 yX3_readCommand ∈ gw := gw_at 374 (by decide +kernel) rfl
theorem lk_X4_88 : Cond.methodLink RX4 88 yX4_obeyTextCommand ∈ gw := gw_at 375 (by decide +kernel) rfl
theorem lk_X4_190 : Cond.methodLink RX4 190 yX1_addTask ∈ gw := gw_at 378 (by decide +kernel) rfl
theorem lk_X1_72 : Cond.methodLink RX1 72 yX1_hasRoomForTask ∈ gw := gw_at 382 (by decide +kernel) rfl
theorem lk_X1_68 : Cond.methodLinkNest RX1 68 yX4_isBetween RX4 ∈ z_nst := z_nst_at 386 (by decide +kernel) rfl
theorem lk_X1_76 : Cond.methodLink RX1 76 yX2_begin ∈ gw := gw_at 387 (by decide +kernel) rfl
theorem lk_X2_27 : Cond.methodLink RX2 27 yX2_switchOff ∈ gw := gw_at 391 (by decide +kernel) rfl
theorem lk_X4_201 : Cond.methodLink RX4 201 yX1_startJob ∈ gw := gw_at 395 (by decide +kernel) rfl
theorem lk_X1_156 : Cond.methodLink RX1 156 yX1_canBring ∈ gw := gw_at 399 (by decide +kernel) rfl
theorem lk_X1_103 : Cond.methodLinkNest RX1 103 yX4_isStripe RX4 ∈ z_nst := z_nst_at 403 (by decide +kernel) rfl
theorem lk_X1_150 : Cond.methodLink RX1 150 yX1_isIdle ∈ gw := gw_at 406 (by decide +kernel) rfl
theorem lk_X1_119 : Cond.methodLink RX1 119 yX1_takerOf ∈ gw := gw_at 410 (by decide +kernel) rfl
theorem lk_X1_106 : Cond.methodLink RX1 106 yX2_takes ∈ gw := gw_at 414 (by decide +kernel) rfl
theorem lk_X1_116 : Cond.methodLink RX1 116 yX1_isGood ∈ gw := gw_at 418 (by decide +kernel) rfl
theorem lk_X1_144 : Cond.methodLink RX1 144 yX2_takesOneOf ∈ gw := gw_at 422 (by decide +kernel) rfl
theorem lk_X4_279 : Cond.methodLink RX4 279 yX4_tryToMakeBad ∈ gw := gw_at 426 (by decide +kernel) rfl
theorem lk_X4_144 : Cond.methodLink RX4 144 yX4_isStripe ∈ gw := gw_at 429 (by decide +kernel) rfl
theorem lk_X4_210 : Cond.methodLink RX4 210 yX1_makeBad ∈ gw := gw_at 430 (by decide +kernel) rfl
theorem lk_X1_147 : Cond.methodLink RX1 147 yX1_victimOf ∈ gw := gw_at 434 (by decide +kernel) rfl
theorem lk_X1_123 : Cond.methodLink RX1 123 yX1_moverTo ∈ gw := gw_at 438 (by decide +kernel) rfl
theorem lk_X1_99 : Cond.methodLink RX1 99 yX1_isTaskInStatus ∈ gw := gw_at 442 (by decide +kernel) rfl
theorem lk_X1_153 : Cond.methodLink RX1 153 yX2_fallBack ∈ gw := gw_at 446 (by decide +kernel) rfl
theorem lk_X4_213 : Cond.methodLink RX4 213 yX1_makeGood ∈ gw := gw_at 450 (by decide +kernel) rfl
theorem lk_X4_207 : Cond.methodLink RX4 207 yX1_stopTask ∈ gw := gw_at 454 (by decide +kernel) rfl
theorem lk_X1_87 : Cond.methodLink RX1 87 yX1_canStop ∈ gw := gw_at 458 (by decide +kernel) rfl
theorem lk_X1_90 : Cond.methodLink RX1 90 yX2_saveValue ∈ gw := gw_at 462 (by decide +kernel) rfl
theorem lk_X1_93 : Cond.methodLink RX1 93 yX2_switchOff ∈ gw := gw_at 466 (by decide +kernel) rfl
theorem lk_X4_216 : Cond.methodLink RX4 216 yX1_passTicks ∈ gw := gw_at 467 (by decide +kernel) rfl
theorem lk_X1_162 : Cond.methodLink RX1 162 yX1_passTick ∈ gw := gw_at 471 (by decide +kernel) rfl
theorem lk_X1_165 : Cond.methodLink RX1 165 yX1_advanceJob ∈ gw := gw_at 475 (by decide +kernel) rfl
theorem lk_X1_168 : Cond.methodLink RX1 168 yX2_work ∈ gw := gw_at 479 (by decide +kernel) rfl
theorem lk_L_115 : Cond.methodLink RL 115 yL_about ∈ gw := gw_at 483 (by decide +kernel) rfl
theorem lk_L_21 : Cond.methodLink RL 21 yX4_about ∈ gw := gw_at 486 (by decide +kernel) rfl
theorem lk_X4_98 : Cond.methodLink RX4 98 yX1_countRunning ∈ gw := gw_at 490 (by decide +kernel) rfl
theorem lk_X4_101 : Cond.methodLink RX4 101 yX1_countFree ∈ gw := gw_at 494 (by decide +kernel) rfl
theorem lk_X1_126 : Cond.methodLink RX1 126 yX1_isFree ∈ gw := gw_at 498 (by decide +kernel) rfl
theorem lk_X4_104 : Cond.methodLink RX4 104 yX1_longestFreeRow ∈ gw := gw_at 502 (by decide +kernel) rfl
theorem lk_X1_129 : Cond.methodLink RX1 129 yX1_freeRowFrom ∈ gw := gw_at 506 (by decide +kernel) rfl
theorem lk_X4_107 : Cond.methodLink RX4 107 yX1_countBad ∈ gw := gw_at 513 (by decide +kernel) rfl
theorem lk_L_118 : Cond.methodLink RL 118 yL_task ∈ gw := gw_at 517 (by decide +kernel) rfl
theorem lk_L_24 : Cond.methodLink RL 24 yX4_task ∈ gw := gw_at 521 (by decide +kernel) rfl
theorem lk_X4_119 : Cond.methodLink RX4 119 yX1_taskNumbered ∈ gw := gw_at 525 (by decide +kernel) rfl
theorem lk_L_122 : Cond.methodLink RL 122 yL_stripe ∈ gw := gw_at 541 (by decide +kernel) rfl
theorem lk_L_30 : Cond.methodLink RL 30 yX4_stripe ∈ gw := gw_at 544 (by decide +kernel) rfl
theorem lk_X4_148 : Cond.methodLink RX4 148 yX1_takerOf ∈ gw := gw_at 548 (by decide +kernel) rfl
theorem lk_X4_152 : Cond.methodLink RX4 152 yX1_moverTo ∈ gw := gw_at 549 (by decide +kernel) rfl
theorem lk_X4_155 : Cond.methodLink RX4 155 yX1_isBad ∈ gw := gw_at 550 (by decide +kernel) rfl
theorem lk_L_125 : Cond.methodLink RL 125 yL_job ∈ gw := gw_at 554 (by decide +kernel) rfl
theorem lk_L_33 : Cond.methodLink RL 33 yX4_job ∈ gw := gw_at 557 (by decide +kernel) rfl
theorem lk_X4_158 : Cond.methodLink RX4 158 yX1_isIdle ∈ gw := gw_at 561 (by decide +kernel) rfl
theorem lk_L_128 : Cond.methodLink RL 128 yL_setting ∈ gw := gw_at 562 (by decide +kernel) rfl
theorem lk_L_36 : Cond.methodLink RL 36 yX4_setting ∈ gw := gw_at 565 (by decide +kernel) rfl
theorem lk_X4_170 : Cond.methodLink RX4 170 yX4_isSetting ∈ gw := gw_at 569 (by decide +kernel) rfl
theorem lk_L_131 : Cond.methodLink RL 131 yL_add ∈ gw := gw_at 572 (by decide +kernel) rfl
theorem lk_L_39 : Cond.methodLink RL 39 yX4_add ∈ gw := gw_at 575 (by decide +kernel) rfl
theorem lk_X4_177 : Cond.methodLink RX4 177 yX4_isWidth ∈ gw := gw_at 579 (by decide +kernel) rfl
theorem lk_X4_180 : Cond.methodLink RX4 180 yX4_isValue ∈ gw := gw_at 582 (by decide +kernel) rfl
theorem lk_X4_183 : Cond.methodLink RX4 183 yX1_hasRoomForTask ∈ gw := gw_at 585 (by decide +kernel) rfl
theorem lk_X4_186 : Cond.methodLink RX4 186 yX0_remember ∈ gw := gw_at 586 (by decide +kernel) rfl
theorem lk_X0_25 : Cond.methodLink RX0 25 yX0_placeOf ∈ gw := gw_at 590 (by decide +kernel) rfl
theorem lk_X0_29 : Cond.methodLink RX0 29 yX1_copyFrom ∈ gw := gw_at 594 (by decide +kernel) rfl
theorem lk_X1_51 : Cond.methodLink RX1 51 yX2_copyFrom ∈ gw := gw_at 598 (by decide +kernel) rfl
theorem lk_L_134 : Cond.methodLink RL 134 yL_bring ∈ gw := gw_at 602 (by decide +kernel) rfl
theorem lk_L_42 : Cond.methodLink RL 42 yX4_bring ∈ gw := gw_at 605 (by decide +kernel) rfl
theorem lk_X4_194 : Cond.methodLink RX4 194 yX1_hasTask ∈ gw := gw_at 609 (by decide +kernel) rfl
theorem lk_X4_197 : Cond.methodLink RX4 197 yX1_canBring ∈ gw := gw_at 610 (by decide +kernel) rfl
theorem lk_L_137 : Cond.methodLink RL 137 yL_stop ∈ gw := gw_at 611 (by decide +kernel) rfl
theorem lk_L_45 : Cond.methodLink RL 45 yX4_stop ∈ gw := gw_at 614 (by decide +kernel) rfl
theorem lk_X4_204 : Cond.methodLink RX4 204 yX1_canStop ∈ gw := gw_at 618 (by decide +kernel) rfl
theorem lk_L_140 : Cond.methodLink RL 140 yL_turnBad ∈ gw := gw_at 619 (by decide +kernel) rfl
theorem lk_L_48 : Cond.methodLink RL 48 yX4_turnBad ∈ gw := gw_at 622 (by decide +kernel) rfl
theorem lk_L_143 : Cond.methodLink RL 143 yL_mend ∈ gw := gw_at 626 (by decide +kernel) rfl
theorem lk_L_51 : Cond.methodLink RL 51 yX4_mend ∈ gw := gw_at 629 (by decide +kernel) rfl
theorem lk_L_146 : Cond.methodLink RL 146 yL_run ∈ gw := gw_at 633 (by decide +kernel) rfl
theorem lk_L_54 : Cond.methodLink RL 54 yX4_run ∈ gw := gw_at 636 (by decide +kernel) rfl
theorem lk_L_149 : Cond.methodLink RL 149 yL_set ∈ gw := gw_at 640 (by decide +kernel) rfl
theorem lk_L_57 : Cond.methodLink RL 57 yX4_set ∈ gw := gw_at 643 (by decide +kernel) rfl
theorem lk_L_152 : Cond.methodLink RL 152 yL_undo ∈ gw := gw_at 651 (by decide +kernel) rfl
theorem lk_L_60 : Cond.methodLink RL 60 yX4_undo ∈ gw := gw_at 654 (by decide +kernel) rfl
theorem lk_X4_228 : Cond.methodLink RX4 228 yX0_takeBack ∈ gw := gw_at 658 (by decide +kernel) rfl
theorem lk_L_155 : Cond.methodLink RL 155 yL_bestGap ∈ gw := gw_at 662 (by decide +kernel) rfl
theorem lk_L_63 : Cond.methodLink RL 63 yX4_bestGap ∈ gw := gw_at 665 (by decide +kernel) rfl
theorem lk_X4_232 : Cond.methodLink RX4 232 yX1_shortestGap ∈ gw := gw_at 669 (by decide +kernel) rfl
theorem lk_L_158 : Cond.methodLink RL 158 yL_window ∈ gw := gw_at 673 (by decide +kernel) rfl
theorem lk_L_66 : Cond.methodLink RL 66 yX4_window ∈ gw := gw_at 676 (by decide +kernel) rfl
theorem lk_X4_235 : Cond.methodLink RX4 235 yX1_easiestWindow ∈ gw := gw_at 680 (by decide +kernel) rfl
theorem lk_X1_138 : Cond.methodLink RX1 138 yX1_canBeMadeFree ∈ gw := gw_at 684 (by decide +kernel) rfl
theorem lk_X1_141 : Cond.methodLink RX1 141 yX1_widthInTheWay ∈ gw := gw_at 688 (by decide +kernel) rfl
theorem lk_X4_238 : Cond.methodLink RX4 238 yX1_widthInTheWay ∈ gw := gw_at 692 (by decide +kernel) rfl
theorem lk_L_165 : Cond.methodLink RL 165 yL_coming ∈ gw := gw_at 693 (by decide +kernel) rfl
theorem lk_L_69 : Cond.methodLink RL 69 yX4_coming ∈ gw := gw_at 696 (by decide +kernel) rfl
theorem lk_X4_244 : Cond.methodLink RX4 244 yX1_copyFrom ∈ gw := gw_at 700 (by decide +kernel) rfl
theorem lk_X4_247 : Cond.methodLink RX4 247 yX1_passTick ∈ gw := gw_at 701 (by decide +kernel) rfl
theorem lk_L_169 : Cond.methodLink RL 169 yL_lost ∈ gw := gw_at 702 (by decide +kernel) rfl
theorem lk_L_73 : Cond.methodLink RL 73 yX4_lost ∈ gw := gw_at 705 (by decide +kernel) rfl
theorem lk_X4_250 : Cond.methodLink RX4 250 yX1_victimOf ∈ gw := gw_at 709 (by decide +kernel) rfl
theorem lk_L_174 : Cond.methodLink RL 174 yL_runScript ∈ gw := gw_at 710 (by decide +kernel) rfl
theorem lk_L_76 : Cond.methodLink RL 76 yX4_runScript ∈ gw := gw_at 713 (by decide +kernel) rfl
theorem lk_X4_256 : Cond.methodLink RX4 256 yX4_withoutLastGroups ∈ gw := gw_at 717 (by decide +kernel) rfl
theorem lk_X4_262 : Cond.methodLink RX4 262 yX4_obeyGroup ∈ gw := gw_at 721 (by decide +kernel) rfl
theorem lk_X4_282 : Cond.methodLink RX4 282 yX1_isTaskInStatus ∈ gw := gw_at 724 (by decide +kernel) rfl
theorem lk_X4_285 : Cond.methodLink RX4 285 yX1_isTaskAtValue ∈ gw := gw_at 725 (by decide +kernel) rfl
theorem lk_L_178 : Cond.methodLink RL 178 yL_simulate ∈ gw := gw_at 729 (by decide +kernel) rfl
theorem lk_L_80 : Cond.methodLink RL 80 yX4_simulate ∈ gw := gw_at 732 (by decide +kernel) rfl
theorem lk_X4_270 : Cond.methodLink RX4 270 yX4_takeTurn ∈ gw := gw_at 738 (by decide +kernel) rfl
theorem lk_L_182 : Cond.methodLink RL 182 yL_save ∈ gw := gw_at 744 (by decide +kernel) rfl
theorem lk_L_84 : Cond.methodLink RL 84 yX4_save ∈ gw := gw_at 747 (by decide +kernel) rfl
theorem lk_L_185 : Cond.methodLink RL 185 yL_restore ∈ gw := gw_at 751 (by decide +kernel) rfl
theorem lk_L_87 : Cond.methodLink RL 87 yX4_restore ∈ gw := gw_at 754 (by decide +kernel) rfl
theorem lk_L_93 : Cond.methodLink RL 93 yX5_init ∈ gw := gw_at 760 (by decide +kernel) rfl
theorem lk_X5_1 : Cond.methodLink RX5 1 Lib.objectInit ∈ gw := gw_at 763 (by decide +kernel) rfl
theorem lk_X5_29 : Cond.methodLink RX5 29 yX5_clear ∈ gw := gw_at 764 (by decide +kernel) rfl
theorem lk_L_100 : Cond.methodLink RL 100 yX5_thrown ∈ gw := gw_at 801 (by decide +kernel) rfl
theorem lk_L_99 : Cond.methodLink RL 99 yX5_append ∈ gw := gw_at 805 (by decide +kernel) rfl
theorem lk_X5_37 : Cond.methodLink RX5 37 yX5_in ∈ gw := gw_at 810 (by decide +kernel) rfl
theorem lk_X5_99 : Cond.methodLink RX5 99 yX5_refused ∈ gw := gw_at 813 (by decide +kernel) rfl
theorem lk_L_106 : Cond.methodLink RL 106 yX5_clearText ∈ gw := gw_at 817 (by decide +kernel) rfl
theorem lk_L_110 : Cond.methodLink RL 110 yX5_errorPosition ∈ gw := gw_at 821 (by decide +kernel) rfl
theorem lk_X5_144 : Cond.methodLink RX5 144 yX5_readText ∈ gw := gw_at 825 (by decide +kernel) rfl
theorem lk_X5_141 : Cond.methodLink RX5 141 yX5_readCommand ∈ gw := gw_at 829 (by decide +kernel) rfl
theorem lk_X5_108 : Cond.methodLink RX5 108 yX5_figures ∈ gw := gw_at 833 (by decide +kernel) rfl
theorem lk_X5_112 : Cond.methodLink RX5 112 yX5_addOn ∈ gw := gw_at 838 (by decide +kernel) rfl
theorem lk_X5_69 : Cond.methodLink RX5 69 yX5_lay ∈ gw := gw_at 841 (by decide +kernel) rfl
theorem lk_X5_115 : Cond.methodLink RX5 115 yX5_done ∈ gw := gw_at 844 (by decide +kernel) rfl
theorem lk_X5_119 : Cond.methodLink RX5 119 yX5_canBring ∈ gw := gw_at 848 (by decide +kernel) rfl
theorem lk_X5_62 : Cond.methodLink RX5 62 yX5_isTask ∈ gw := gw_at 851 (by decide +kernel) rfl
theorem lk_X5_65 : Cond.methodLink RX5 65 yX5_isStripe ∈ gw := gw_at 854 (by decide +kernel) rfl
theorem lk_X5_43 : Cond.methodLink RX5 43 yX5_of ∈ gw := gw_at 858 (by decide +kernel) rfl
theorem lk_X5_51 : Cond.methodLink RX5 51 yX5_taker ∈ gw := gw_at 861 (by decide +kernel) rfl
theorem lk_X5_123 : Cond.methodLink RX5 123 yX5_bringOn ∈ gw := gw_at 864 (by decide +kernel) rfl
theorem lk_X5_126 : Cond.methodLink RX5 126 yX5_turnOn ∈ gw := gw_at 867 (by decide +kernel) rfl
theorem lk_X5_82 : Cond.methodLink RX5 82 yX5_hurt ∈ gw := gw_at 870 (by decide +kernel) rfl
theorem lk_X5_55 : Cond.methodLink RX5 55 yX5_comer ∈ gw := gw_at 873 (by decide +kernel) rfl
theorem lk_X5_47 : Cond.methodLink RX5 47 yX5_isMove ∈ gw := gw_at 876 (by decide +kernel) rfl
theorem lk_X5_85 : Cond.methodLink RX5 85 yX5_dropJob ∈ gw := gw_at 879 (by decide +kernel) rfl
theorem lk_X5_129 : Cond.methodLink RX5 129 yX5_mendOn ∈ gw := gw_at 882 (by decide +kernel) rfl
theorem lk_X5_132 : Cond.methodLink RX5 132 yX5_canStop ∈ gw := gw_at 885 (by decide +kernel) rfl
theorem lk_X5_135 : Cond.methodLink RX5 135 yX5_stopOn ∈ gw := gw_at 888 (by decide +kernel) rfl
theorem lk_X5_138 : Cond.methodLink RX5 138 yX5_runOn ∈ gw := gw_at 891 (by decide +kernel) rfl
theorem lk_X5_79 : Cond.methodLink RX5 79 yX5_tickOn ∈ gw := gw_at 894 (by decide +kernel) rfl
theorem lk_X5_76 : Cond.methodLink RX5 76 yX5_loadOn ∈ gw := gw_at 897 (by decide +kernel) rfl
theorem lk_X5_73 : Cond.methodLink RX5 73 yX5_finish ∈ gw := gw_at 900 (by decide +kernel) rfl
theorem lk_L_114 : Cond.methodLink RL 114 yX5_load ∈ gw := gw_at 903 (by decide +kernel) rfl
theorem lk_X5_148 : Cond.methodLink RX5 148 yX5_copyState ∈ gw := gw_at 907 (by decide +kernel) rfl
theorem lk_L_117 : Cond.methodLink RL 117 yX5_about ∈ gw := gw_at 910 (by decide +kernel) rfl
theorem lk_X5_157 : Cond.methodLink RX5 157 yX5_freeFrom ∈ gw := gw_at 915 (by decide +kernel) rfl
theorem lk_X5_58 : Cond.methodLink RX5 58 yX5_isFree ∈ gw := gw_at 918 (by decide +kernel) rfl
theorem lk_X5_160 : Cond.methodLink RX5 160 yX5_running ∈ gw := gw_at 921 (by decide +kernel) rfl
theorem lk_L_121 : Cond.methodLink RL 121 yX5_task ∈ gw := gw_at 924 (by decide +kernel) rfl
theorem lk_L_124 : Cond.methodLink RL 124 yX5_stripe ∈ gw := gw_at 929 (by decide +kernel) rfl
theorem lk_L_127 : Cond.methodLink RL 127 yX5_job ∈ gw := gw_at 934 (by decide +kernel) rfl
theorem lk_L_130 : Cond.methodLink RL 130 yX5_setting ∈ gw := gw_at 938 (by decide +kernel) rfl
theorem lk_L_133 : Cond.methodLink RL 133 yX5_add ∈ gw := gw_at 942 (by decide +kernel) rfl
theorem lk_X5_171 : Cond.methodLink RX5 171 yX5_remember ∈ gw := gw_at 948 (by decide +kernel) rfl
theorem lk_L_136 : Cond.methodLink RL 136 yX5_bring ∈ gw := gw_at 952 (by decide +kernel) rfl
theorem lk_L_139 : Cond.methodLink RL 139 yX5_stop ∈ gw := gw_at 956 (by decide +kernel) rfl
theorem lk_L_142 : Cond.methodLink RL 142 yX5_turnBad ∈ gw := gw_at 960 (by decide +kernel) rfl
theorem lk_L_145 : Cond.methodLink RL 145 yX5_mend ∈ gw := gw_at 964 (by decide +kernel) rfl
theorem lk_L_148 : Cond.methodLink RL 148 yX5_run ∈ gw := gw_at 968 (by decide +kernel) rfl
theorem lk_L_151 : Cond.methodLink RL 151 yX5_set ∈ gw := gw_at 973 (by decide +kernel) rfl
theorem lk_X5_176 : Cond.methodLink RX5 176 yX5_isSetting ∈ gw := gw_at 977 (by decide +kernel) rfl
theorem lk_L_154 : Cond.methodLink RL 154 yX5_undo ∈ gw := gw_at 982 (by decide +kernel) rfl
theorem lk_L_157 : Cond.methodLink RL 157 yX5_bestGap ∈ gw := gw_at 986 (by decide +kernel) rfl
theorem lk_L_160 : Cond.methodLink RL 160 yX5_window ∈ gw := gw_at 990 (by decide +kernel) rfl
theorem lk_X5_182 : Cond.methodLink RX5 182 yX5_inWay ∈ gw := gw_at 995 (by decide +kernel) rfl
theorem lk_L_164 : Cond.methodLink RL 164 yX5_idleIn ∈ gw := gw_at 998 (by decide +kernel) rfl
theorem lk_X5_185 : Cond.methodLink RX5 185 yX5_idle ∈ gw := gw_at 1002 (by decide +kernel) rfl
theorem lk_L_168 : Cond.methodLink RL 168 yX5_coming ∈ gw := gw_at 1005 (by decide +kernel) rfl
theorem lk_L_171 : Cond.methodLink RL 171 yX5_lost ∈ gw := gw_at 1010 (by decide +kernel) rfl
theorem lk_L_177 : Cond.methodLink RL 177 yX5_runScript ∈ gw := gw_at 1014 (by decide +kernel) rfl
theorem lk_X5_194 : Cond.methodLink RX5 194 yX5_command ∈ gw := gw_at 1020 (by decide +kernel) rfl
theorem lk_L_181 : Cond.methodLink RL 181 yX5_simulate ∈ gw := gw_at 1024 (by decide +kernel) rfl
theorem lk_X5_201 : Cond.methodLink RX5 201 yX5_turn ∈ gw := gw_at 1030 (by decide +kernel) rfl
theorem lk_L_184 : Cond.methodLink RL 184 yX5_save ∈ gw := gw_at 1033 (by decide +kernel) rfl
theorem lk_L_187 : Cond.methodLink RL 187 yX5_restore ∈ gw := gw_at 1037 (by decide +kernel) rfl
end
