/-! WHAT THE TABLES SAY, by place; the shapes of the cells; a row of the judgement a field (written by wip/p29/mk_words.py) -/
theorem gw_list (ws : List Cond) (ps : List Nat) (h : ps.map (fun i => lw_tbl[i]?) = ws.map some) (g : ws.all goodWord = true) : ∀ w ∈ ws, w ∈ gw := by
  intro w hw
  refine List.mem_filter.mpr ⟨?_, List.all_eq_true.mp g w hw⟩
  have h1 : some w ∈ ps.map (fun i => lw_tbl[i]?) := by rw [h]; exact List.mem_map.mpr ⟨w, hw, rfl⟩
  obtain ⟨i, -, hi⟩ := List.mem_map.mp h1
  exact List.mem_of_getElem? hi
theorem gw_t3 {w : Cond} (i : Nat) (h : tables_1_3[i]? = some w) (g : goodWord w = true) : w ∈ gw := List.mem_filter.mpr ⟨List.mem_append_right _ (List.mem_append_right _ (List.mem_append_right _ (List.mem_append_left _ (List.mem_of_getElem? h)))), g⟩
theorem gw_t4 {w : Cond} (i : Nat) (h : tables_1_4[i]? = some w) (g : goodWord w = true) : w ∈ gw := List.mem_filter.mpr ⟨List.mem_append_right _ (List.mem_append_right _ (List.mem_append_right _ (List.mem_append_right _ (List.mem_of_getElem? h)))), g⟩
def z_b (c : Bool) : Int32 := if c then 1 else 0
theorem z_b_nar (c : Bool) : narrow .boolean (.int (z_b c)) = .int (z_b c) := by cases c <;> rfl
theorem ac_int : Cond.arrayClass .int ∈ gw := gw_at 105 (by decide +kernel) rfl
theorem ac_boolean : Cond.arrayClass .boolean ∈ gw := gw_at 104 (by decide +kernel) rfl
theorem ac_char : Cond.arrayClass .char ∈ gw := gw_at 57 (by decide +kernel) rfl
theorem ini_X0 : Cond.initialized RX0 ∈ gw := gw_at 10 (by decide +kernel) rfl
theorem ins_X0 : Cond.instantiable RX0 3 ∈ gw := gw_at 160 (by decide +kernel) rfl
theorem ini_X1 : Cond.initialized RX1 ∈ gw := gw_at 8 (by decide +kernel) rfl
theorem ins_X1 : Cond.instantiable RX1 11 ∈ gw := gw_at 59 (by decide +kernel) rfl
theorem ini_X2 : Cond.initialized RX2 ∈ gw := gw_at 9 (by decide +kernel) rfl
theorem ins_X2 : Cond.instantiable RX2 7 ∈ gw := gw_at 66 (by decide +kernel) rfl
theorem ini_X3 : Cond.initialized RX3 ∈ gw := gw_at 7 (by decide +kernel) rfl
theorem ins_X3 : Cond.instantiable RX3 7 ∈ gw := gw_at 27 (by decide +kernel) rfl
theorem ini_X4 : Cond.initialized RX4 ∈ gw := gw_at 6 (by decide +kernel) rfl
theorem ins_X4 : Cond.instantiable RX4 6 ∈ gw := gw_at 19 (by decide +kernel) rfl
theorem ini_L : Cond.initialized RL ∈ gw := gw_at 5 (by decide +kernel) rfl
theorem ini_IAE : Cond.initialized "java/lang/IllegalArgumentException" ∈ gw := gw_at 14 (by decide +kernel) rfl
theorem cst_IAE : Cond.castable "java/lang/IllegalArgumentException" "java/lang/IllegalArgumentException" ∈ z_nst := z_nst_at 215 (by decide +kernel) rfl
theorem ini_ISE : Cond.initialized "java/lang/IllegalStateException" ∈ gw := gw_at 15 (by decide +kernel) rfl
theorem cst_ISE : Cond.castable "java/lang/IllegalStateException" "java/lang/IllegalStateException" ∈ z_nst := z_nst_at 282 (by decide +kernel) rfl
theorem ini_IOOBE : Cond.initialized "java/lang/IndexOutOfBoundsException" ∈ gw := gw_at 17 (by decide +kernel) rfl
theorem cst_IOOBE : Cond.castable "java/lang/IndexOutOfBoundsException" "java/lang/IndexOutOfBoundsException" ∈ z_nst := z_nst_at 501 (by decide +kernel) rfl
theorem cl_L_8 : Cond.classLink RL 8 RX4 ∈ gw := gw_at 18 (by decide +kernel) rfl
theorem cl_X4_7 : Cond.classLink RX4 7 RX3 ∈ gw := gw_at 26 (by decide +kernel) rfl
theorem cl_X4_16 : Cond.classLink RX4 16 RX1 ∈ gw := gw_at 58 (by decide +kernel) rfl
theorem cl_X1_9 : Cond.classLink RX1 9 RX2 ∈ gw := gw_at 64 (by decide +kernel) rfl
theorem cl_X4_26 : Cond.classLink RX4 26 RX0 ∈ gw := gw_at 159 (by decide +kernel) rfl
theorem cl_X0_9 : Cond.classLink RX0 9 RX1 ∈ gw := gw_at 165 (by decide +kernel) rfl
theorem cl_L_13 : Cond.classLink RL 13 "java/lang/IllegalArgumentException" ∈ gw := gw_at 204 (by decide +kernel) rfl
theorem cl_L_24 : Cond.classLink RL 24 "java/lang/IllegalStateException" ∈ gw := gw_at 205 (by decide +kernel) rfl
theorem cl_X4_45 : Cond.classLink RX4 45 "java/lang/IllegalArgumentException" ∈ gw := gw_at 213 (by decide +kernel) rfl
theorem cl_X4_52 : Cond.classLink RX4 52 "java/lang/IllegalStateException" ∈ gw := gw_at 280 (by decide +kernel) rfl
theorem ck_L_15 : Cond.constant RL 15 (-9999002) ∈ gw := gw_at 300 (by decide +kernel) rfl
theorem ck_L_26 : Cond.constant RL 26 (-9999003) ∈ gw := gw_at 301 (by decide +kernel) rfl
theorem cl_L_38 : Cond.classLink RL 38 "java/lang/IndexOutOfBoundsException" ∈ gw := gw_at 493 (by decide +kernel) rfl
theorem cl_X4_123 : Cond.classLink RX4 123 "java/lang/IndexOutOfBoundsException" ∈ gw := gw_at 499 (by decide +kernel) rfl
theorem ck_L_40 : Cond.constant RL 40 (-9999001) ∈ gw := gw_at 514 (by decide +kernel) rfl
theorem ck_L_162 : Cond.constant RL 162 (15519131) ∈ gw := gw_at 704 (by decide +kernel) rfl
theorem ck_L_163 : Cond.constant RL 163 (2147483647) ∈ gw := gw_at 705 (by decide +kernel) rfl
theorem cn_X4_260 : Cond.constantLong RX4 260 (100000) ∈ gw := gw_at 719 (by decide +kernel) rfl
theorem cn_L_172 : Cond.constantLong RL 172 (100000) ∈ gw := gw_at 732 (by decide +kernel) rfl
theorem cn_X4_266 : Cond.constantLong RX4 266 (6364136223846793005) ∈ gw := gw_at 740 (by decide +kernel) rfl
theorem cn_X4_268 : Cond.constantLong RX4 268 (1442695040888963407) ∈ gw := gw_at 741 (by decide +kernel) rfl
theorem ck_L_189 : Cond.constant RL 189 (100000) ∈ gw := gw_at 770 (by decide +kernel) rfl
theorem oi_i : Cond.instanceMethod Lib.objectInit ∈ gw := gw_at 24 (by decide +kernel) rfl
theorem oi_c : Cond.code Lib.objectInit ⟨#[0xb1]⟩ 1 none ∈ gw := gw_at 25 (by decide +kernel) rfl
theorem in_X0 : ∀ w ∈ u_ws RX0 TX0 3, w ∈ gw := gw_list _ [172, 174, 176] (by decide +kernel) (by decide +kernel)
theorem in_X1 : ∀ w ∈ u_ws RX1 TX1 11, w ∈ gw := gw_list _ [136, 138, 140, 142, 144, 146, 148, 150, 152, 154, 156] (by decide +kernel) (by decide +kernel)
theorem in_X2 : ∀ w ∈ u_ws RX2 TX2 7, w ∈ gw := gw_list _ [89, 91, 93, 95, 97, 99, 101] (by decide +kernel) (by decide +kernel)
theorem in_X3 : ∀ w ∈ u_ws RX3 TX3 7, w ∈ gw := gw_list _ [42, 44, 46, 48, 50, 52, 54] (by decide +kernel) (by decide +kernel)
theorem in_X4 : ∀ w ∈ u_ws RX4 TX4 6, w ∈ gw := gw_list _ [185, 187, 189, 191, 193, 195] (by decide +kernel) (by decide +kernel)
def sHi (a : Nat) : (Nat → Int32) → va_E := fun i => .inr (0, [.ref (a + 1), .int (i 1), .int (i 2)])
def sHi0 : (Nat → Int32) → va_E := fun i => .inr (0, [.null, .int (i 1), .int (i 2)])
def sSt (a : Nat) : (Nat → Int32) → va_E := fun i => .inr (1, [.ref (a + 1), .ref (a + 2), .ref (a + 3), .int (i 3), .int (i 4), .int (i 5), .int (i 6), .int (i 7), .int (i 8), .int (i 9), .int (i 10)])
def sSt0 : (Nat → Int32) → va_E := fun i => .inr (1, [.null, .null, .null, .int (i 3), .int (i 4), .int (i 5), .int (i 6), .int (i 7), .int (i 8), .int (i 9), .int (i 10)])
def sTk : (Nat → Int32) → va_E := fun i => .inr (2, [.int (i 0), .int (i 1), .int (i 2), .int (i 3), .int (i 4), .int (i 5), .int (i 6)])
def sTx (a : Nat) : (Nat → Int32) → va_E := fun i => .inr (3, [.ref (a + 1), .int (i 1), .int (i 2), .int (i 3), .int (i 4), .int (i 5), .int (i 6)])
def sTx0 : (Nat → Int32) → va_E := fun i => .inr (3, [.null, .int (i 1), .int (i 2), .int (i 3), .int (i 4), .int (i 5), .int (i 6)])
def sSk (a : Nat) : (Nat → Int32) → va_E := fun _ => .inr (4, [.ref (a + 1), .ref (a + 3), .ref (a + 13), .ref (a + 23), .ref (a + 165), .ref (a + 166)])
def sSk0 : (Nat → Int32) → va_E := fun _ => .inr (4, [.null, .null, .null, .null, .null, .null])
section ZFIELDS
variable {E : zE} {l : Launch} {y : MethodName} {cc : ByteArray} {nL : Nat} {ret : Option FieldType} {hh : List (Nat × Nat × Nat × Nat)} {R : Room} {mc ms : Nat} {Q : zQ} {k n : Nat} {G : zG} {I : zI} {sz pc pc' : Nat} {lv : List (Option Value)} {st : List Value} {a : Nat}
theorem fl_X3_9 : Cond.fieldLink RX3 9 (TX3 0).1 (TX3 0).2.1 (TX3 0).2.2.1 ∈ gw := gw_at 32 (by decide +kernel) rfl
/-- StripeTasks$Text.characters -/
theorem g_X3_9 (hy : y.cls = RX3) (hd : decode cc pc = .ok (.getfield 9, 3)) (hx : (a, sTx a) ∈ G) (hp : pc + 3 = pc') (h : z_V E l (y, cc, nL, ret, hh) R mc ms Q k n G I sz pc' lv (.ref (a + 1) :: st)) : z_V E l (y, cc, nL, ret, hh) R mc ms Q k n G I sz pc lv (.ref a :: st) := v_get (ci := 3) (kf := 0) hd hx rfl rfl in_X3 (by decide) (by rw [hy]; exact fl_X3_9) rfl hp h
theorem fl_X3_15 : Cond.fieldLink RX3 15 (TX3 1).1 (TX3 1).2.1 (TX3 1).2.2.1 ∈ gw := gw_at 33 (by decide +kernel) rfl
/-- StripeTasks$Text.length -/
theorem g_X3_15 (hy : y.cls = RX3) (hd : decode cc pc = .ok (.getfield 15, 3)) (hx : (a, sTx a) ∈ G) (hp : pc + 3 = pc') (h : z_V E l (y, cc, nL, ret, hh) R mc ms Q k n G I sz pc' lv (.int (I a 1) :: st)) : z_V E l (y, cc, nL, ret, hh) R mc ms Q k n G I sz pc lv (.ref a :: st) := v_get (ci := 3) (kf := 1) hd hx rfl rfl in_X3 (by decide) (by rw [hy]; exact fl_X3_15) rfl hp h
theorem p_X3_15 {x : Int32} (hy : y.cls = RX3) (hd : decode cc pc = .ok (.putfield 15, 3)) (hx : (a, sTx a) ∈ G) (hp : pc + 3 = pc') (h : z_V E l (y, cc, nL, ret, hh) R mc ms Q k n G (z_up I a 1 x) sz pc' lv st) : z_V E l (y, cc, nL, ret, hh) R mc ms Q k n G I sz pc lv (.int x :: .ref a :: st) := v_put (ci := 3) (kf := 1) (I' := z_up I a 1 x) hd hx rfl rfl in_X3 tyX3 tyX3_ok nmX3 (by decide) (by rw [hy]; exact fl_X3_15) rfl (ty := .int) (by decide +kernel) rfl rfl (by simp) (fun q h => z_up_ne I a 1 x h) (by rw [z_up_at]; rfl) hp h
theorem fl_X3_19 : Cond.fieldLink RX3 19 (TX3 2).1 (TX3 2).2.1 (TX3 2).2.2.1 ∈ gw := gw_at 34 (by decide +kernel) rfl
/-- StripeTasks$Text.at -/
theorem g_X3_19 (hy : y.cls = RX3) (hd : decode cc pc = .ok (.getfield 19, 3)) (hx : (a, sTx a) ∈ G) (hp : pc + 3 = pc') (h : z_V E l (y, cc, nL, ret, hh) R mc ms Q k n G I sz pc' lv (.int (I a 2) :: st)) : z_V E l (y, cc, nL, ret, hh) R mc ms Q k n G I sz pc lv (.ref a :: st) := v_get (ci := 3) (kf := 2) hd hx rfl rfl in_X3 (by decide) (by rw [hy]; exact fl_X3_19) rfl hp h
theorem p_X3_19 {x : Int32} (hy : y.cls = RX3) (hd : decode cc pc = .ok (.putfield 19, 3)) (hx : (a, sTx a) ∈ G) (hp : pc + 3 = pc') (h : z_V E l (y, cc, nL, ret, hh) R mc ms Q k n G (z_up I a 2 x) sz pc' lv st) : z_V E l (y, cc, nL, ret, hh) R mc ms Q k n G I sz pc lv (.int x :: .ref a :: st) := v_put (ci := 3) (kf := 2) (I' := z_up I a 2 x) hd hx rfl rfl in_X3 tyX3 tyX3_ok nmX3 (by decide) (by rw [hy]; exact fl_X3_19) rfl (ty := .int) (by decide +kernel) rfl rfl (by simp) (fun q h => z_up_ne I a 2 x h) (by rw [z_up_at]; rfl) hp h
theorem fl_X3_22 : Cond.fieldLink RX3 22 (TX3 3).1 (TX3 3).2.1 (TX3 3).2.2.1 ∈ gw := gw_at 35 (by decide +kernel) rfl
/-- StripeTasks$Text.wrong -/
theorem g_X3_22 (hy : y.cls = RX3) (hd : decode cc pc = .ok (.getfield 22, 3)) (hx : (a, sTx a) ∈ G) (hp : pc + 3 = pc') (h : z_V E l (y, cc, nL, ret, hh) R mc ms Q k n G I sz pc' lv (.int (I a 3) :: st)) : z_V E l (y, cc, nL, ret, hh) R mc ms Q k n G I sz pc lv (.ref a :: st) := v_get (ci := 3) (kf := 3) hd hx rfl rfl in_X3 (by decide) (by rw [hy]; exact fl_X3_22) rfl hp h
theorem p_X3_22 {x : Int32} (hn9 : narrow .boolean (.int x) = .int x) (hf9 : fits .boolean (.int x) = true) (hy : y.cls = RX3) (hd : decode cc pc = .ok (.putfield 22, 3)) (hx : (a, sTx a) ∈ G) (hp : pc + 3 = pc') (h : z_V E l (y, cc, nL, ret, hh) R mc ms Q k n G (z_up I a 3 x) sz pc' lv st) : z_V E l (y, cc, nL, ret, hh) R mc ms Q k n G I sz pc lv (.int x :: .ref a :: st) := v_put (ci := 3) (kf := 3) (I' := z_up I a 3 x) hd hx rfl rfl in_X3 tyX3 tyX3_ok nmX3 (by decide) (by rw [hy]; exact fl_X3_22) rfl (ty := .boolean) (by decide +kernel) hn9 hf9 (by simp) (fun q h => z_up_ne I a 3 x h) (by rw [z_up_at]; rfl) hp h
theorem fl_X3_26 : Cond.fieldLink RX3 26 (TX3 4).1 (TX3 4).2.1 (TX3 4).2.2.1 ∈ gw := gw_at 36 (by decide +kernel) rfl
/-- StripeTasks$Text.letter -/
theorem g_X3_26 (hy : y.cls = RX3) (hd : decode cc pc = .ok (.getfield 26, 3)) (hx : (a, sTx a) ∈ G) (hp : pc + 3 = pc') (h : z_V E l (y, cc, nL, ret, hh) R mc ms Q k n G I sz pc' lv (.int (I a 4) :: st)) : z_V E l (y, cc, nL, ret, hh) R mc ms Q k n G I sz pc lv (.ref a :: st) := v_get (ci := 3) (kf := 4) hd hx rfl rfl in_X3 (by decide) (by rw [hy]; exact fl_X3_26) rfl hp h
theorem p_X3_26 {x : Int32} (hy : y.cls = RX3) (hd : decode cc pc = .ok (.putfield 26, 3)) (hx : (a, sTx a) ∈ G) (hp : pc + 3 = pc') (h : z_V E l (y, cc, nL, ret, hh) R mc ms Q k n G (z_up I a 4 x) sz pc' lv st) : z_V E l (y, cc, nL, ret, hh) R mc ms Q k n G I sz pc lv (.int x :: .ref a :: st) := v_put (ci := 3) (kf := 4) (I' := z_up I a 4 x) hd hx rfl rfl in_X3 tyX3 tyX3_ok nmX3 (by decide) (by rw [hy]; exact fl_X3_26) rfl (ty := .int) (by decide +kernel) rfl rfl (by simp) (fun q h => z_up_ne I a 4 x h) (by rw [z_up_at]; rfl) hp h
theorem fl_X4_78 : Cond.fieldLink RX4 78 (TX3 4).1 (TX3 4).2.1 (TX3 4).2.2.1 ∈ gw := gw_at 37 (by decide +kernel) rfl
/-- StripeTasks$Text.letter -/
theorem g_X4_78 (hy : y.cls = RX4) (hd : decode cc pc = .ok (.getfield 78, 3)) (hx : (a, sTx a) ∈ G) (hp : pc + 3 = pc') (h : z_V E l (y, cc, nL, ret, hh) R mc ms Q k n G I sz pc' lv (.int (I a 4) :: st)) : z_V E l (y, cc, nL, ret, hh) R mc ms Q k n G I sz pc lv (.ref a :: st) := v_get (ci := 3) (kf := 4) hd hx rfl rfl in_X3 (by decide) (by rw [hy]; exact fl_X4_78) rfl hp h
theorem p_X4_78 {x : Int32} (hy : y.cls = RX4) (hd : decode cc pc = .ok (.putfield 78, 3)) (hx : (a, sTx a) ∈ G) (hp : pc + 3 = pc') (h : z_V E l (y, cc, nL, ret, hh) R mc ms Q k n G (z_up I a 4 x) sz pc' lv st) : z_V E l (y, cc, nL, ret, hh) R mc ms Q k n G I sz pc lv (.int x :: .ref a :: st) := v_put (ci := 3) (kf := 4) (I' := z_up I a 4 x) hd hx rfl rfl in_X3 tyX3 tyX3_ok nmX3 (by decide) (by rw [hy]; exact fl_X4_78) rfl (ty := .int) (by decide +kernel) rfl rfl (by simp) (fun q h => z_up_ne I a 4 x h) (by rw [z_up_at]; rfl) hp h
theorem fl_X3_29 : Cond.fieldLink RX3 29 (TX3 5).1 (TX3 5).2.1 (TX3 5).2.2.1 ∈ gw := gw_at 38 (by decide +kernel) rfl
/-- StripeTasks$Text.first -/
theorem g_X3_29 (hy : y.cls = RX3) (hd : decode cc pc = .ok (.getfield 29, 3)) (hx : (a, sTx a) ∈ G) (hp : pc + 3 = pc') (h : z_V E l (y, cc, nL, ret, hh) R mc ms Q k n G I sz pc' lv (.int (I a 5) :: st)) : z_V E l (y, cc, nL, ret, hh) R mc ms Q k n G I sz pc lv (.ref a :: st) := v_get (ci := 3) (kf := 5) hd hx rfl rfl in_X3 (by decide) (by rw [hy]; exact fl_X3_29) rfl hp h
theorem p_X3_29 {x : Int32} (hy : y.cls = RX3) (hd : decode cc pc = .ok (.putfield 29, 3)) (hx : (a, sTx a) ∈ G) (hp : pc + 3 = pc') (h : z_V E l (y, cc, nL, ret, hh) R mc ms Q k n G (z_up I a 5 x) sz pc' lv st) : z_V E l (y, cc, nL, ret, hh) R mc ms Q k n G I sz pc lv (.int x :: .ref a :: st) := v_put (ci := 3) (kf := 5) (I' := z_up I a 5 x) hd hx rfl rfl in_X3 tyX3 tyX3_ok nmX3 (by decide) (by rw [hy]; exact fl_X3_29) rfl (ty := .int) (by decide +kernel) rfl rfl (by simp) (fun q h => z_up_ne I a 5 x h) (by rw [z_up_at]; rfl) hp h
theorem fl_X4_82 : Cond.fieldLink RX4 82 (TX3 5).1 (TX3 5).2.1 (TX3 5).2.2.1 ∈ gw := gw_at 39 (by decide +kernel) rfl
/-- StripeTasks$Text.first -/
theorem g_X4_82 (hy : y.cls = RX4) (hd : decode cc pc = .ok (.getfield 82, 3)) (hx : (a, sTx a) ∈ G) (hp : pc + 3 = pc') (h : z_V E l (y, cc, nL, ret, hh) R mc ms Q k n G I sz pc' lv (.int (I a 5) :: st)) : z_V E l (y, cc, nL, ret, hh) R mc ms Q k n G I sz pc lv (.ref a :: st) := v_get (ci := 3) (kf := 5) hd hx rfl rfl in_X3 (by decide) (by rw [hy]; exact fl_X4_82) rfl hp h
theorem p_X4_82 {x : Int32} (hy : y.cls = RX4) (hd : decode cc pc = .ok (.putfield 82, 3)) (hx : (a, sTx a) ∈ G) (hp : pc + 3 = pc') (h : z_V E l (y, cc, nL, ret, hh) R mc ms Q k n G (z_up I a 5 x) sz pc' lv st) : z_V E l (y, cc, nL, ret, hh) R mc ms Q k n G I sz pc lv (.int x :: .ref a :: st) := v_put (ci := 3) (kf := 5) (I' := z_up I a 5 x) hd hx rfl rfl in_X3 tyX3 tyX3_ok nmX3 (by decide) (by rw [hy]; exact fl_X4_82) rfl (ty := .int) (by decide +kernel) rfl rfl (by simp) (fun q h => z_up_ne I a 5 x h) (by rw [z_up_at]; rfl) hp h
theorem fl_X3_32 : Cond.fieldLink RX3 32 (TX3 6).1 (TX3 6).2.1 (TX3 6).2.2.1 ∈ gw := gw_at 40 (by decide +kernel) rfl
/-- StripeTasks$Text.second -/
theorem g_X3_32 (hy : y.cls = RX3) (hd : decode cc pc = .ok (.getfield 32, 3)) (hx : (a, sTx a) ∈ G) (hp : pc + 3 = pc') (h : z_V E l (y, cc, nL, ret, hh) R mc ms Q k n G I sz pc' lv (.int (I a 6) :: st)) : z_V E l (y, cc, nL, ret, hh) R mc ms Q k n G I sz pc lv (.ref a :: st) := v_get (ci := 3) (kf := 6) hd hx rfl rfl in_X3 (by decide) (by rw [hy]; exact fl_X3_32) rfl hp h
theorem p_X3_32 {x : Int32} (hy : y.cls = RX3) (hd : decode cc pc = .ok (.putfield 32, 3)) (hx : (a, sTx a) ∈ G) (hp : pc + 3 = pc') (h : z_V E l (y, cc, nL, ret, hh) R mc ms Q k n G (z_up I a 6 x) sz pc' lv st) : z_V E l (y, cc, nL, ret, hh) R mc ms Q k n G I sz pc lv (.int x :: .ref a :: st) := v_put (ci := 3) (kf := 6) (I' := z_up I a 6 x) hd hx rfl rfl in_X3 tyX3 tyX3_ok nmX3 (by decide) (by rw [hy]; exact fl_X3_32) rfl (ty := .int) (by decide +kernel) rfl rfl (by simp) (fun q h => z_up_ne I a 6 x h) (by rw [z_up_at]; rfl) hp h
theorem fl_X4_85 : Cond.fieldLink RX4 85 (TX3 6).1 (TX3 6).2.1 (TX3 6).2.2.1 ∈ gw := gw_at 41 (by decide +kernel) rfl
/-- StripeTasks$Text.second -/
theorem g_X4_85 (hy : y.cls = RX4) (hd : decode cc pc = .ok (.getfield 85, 3)) (hx : (a, sTx a) ∈ G) (hp : pc + 3 = pc') (h : z_V E l (y, cc, nL, ret, hh) R mc ms Q k n G I sz pc' lv (.int (I a 6) :: st)) : z_V E l (y, cc, nL, ret, hh) R mc ms Q k n G I sz pc lv (.ref a :: st) := v_get (ci := 3) (kf := 6) hd hx rfl rfl in_X3 (by decide) (by rw [hy]; exact fl_X4_85) rfl hp h
theorem p_X4_85 {x : Int32} (hy : y.cls = RX4) (hd : decode cc pc = .ok (.putfield 85, 3)) (hx : (a, sTx a) ∈ G) (hp : pc + 3 = pc') (h : z_V E l (y, cc, nL, ret, hh) R mc ms Q k n G (z_up I a 6 x) sz pc' lv st) : z_V E l (y, cc, nL, ret, hh) R mc ms Q k n G I sz pc lv (.int x :: .ref a :: st) := v_put (ci := 3) (kf := 6) (I' := z_up I a 6 x) hd hx rfl rfl in_X3 tyX3 tyX3_ok nmX3 (by decide) (by rw [hy]; exact fl_X4_85) rfl (ty := .int) (by decide +kernel) rfl rfl (by simp) (fun q h => z_up_ne I a 6 x h) (by rw [z_up_at]; rfl) hp h
theorem fl_X2_9 : Cond.fieldLink RX2 9 (TX2 0).1 (TX2 0).2.1 (TX2 0).2.2.1 ∈ gw := gw_at 71 (by decide +kernel) rfl
/-- StripeTasks$Task.width -/
theorem g_X2_9 (hy : y.cls = RX2) (hd : decode cc pc = .ok (.getfield 9, 3)) (hx : (a, sTk) ∈ G) (hp : pc + 3 = pc') (h : z_V E l (y, cc, nL, ret, hh) R mc ms Q k n G I sz pc' lv (.int (I a 0) :: st)) : z_V E l (y, cc, nL, ret, hh) R mc ms Q k n G I sz pc lv (.ref a :: st) := v_get (ci := 2) (kf := 0) hd hx rfl rfl in_X2 (by decide) (by rw [hy]; exact fl_X2_9) rfl hp h
theorem p_X2_9 {x : Int32} (hy : y.cls = RX2) (hd : decode cc pc = .ok (.putfield 9, 3)) (hx : (a, sTk) ∈ G) (hp : pc + 3 = pc') (h : z_V E l (y, cc, nL, ret, hh) R mc ms Q k n G (z_up I a 0 x) sz pc' lv st) : z_V E l (y, cc, nL, ret, hh) R mc ms Q k n G I sz pc lv (.int x :: .ref a :: st) := v_put (ci := 2) (kf := 0) (I' := z_up I a 0 x) hd hx rfl rfl in_X2 tyX2 tyX2_ok nmX2 (by decide) (by rw [hy]; exact fl_X2_9) rfl (ty := .int) (by decide +kernel) rfl rfl (by simp) (fun q h => z_up_ne I a 0 x h) (by rw [z_up_at]; rfl) hp h
theorem fl_X4_126 : Cond.fieldLink RX4 126 (TX2 0).1 (TX2 0).2.1 (TX2 0).2.2.1 ∈ gw := gw_at 72 (by decide +kernel) rfl
/-- StripeTasks$Task.width -/
theorem g_X4_126 (hy : y.cls = RX4) (hd : decode cc pc = .ok (.getfield 126, 3)) (hx : (a, sTk) ∈ G) (hp : pc + 3 = pc') (h : z_V E l (y, cc, nL, ret, hh) R mc ms Q k n G I sz pc' lv (.int (I a 0) :: st)) : z_V E l (y, cc, nL, ret, hh) R mc ms Q k n G I sz pc lv (.ref a :: st) := v_get (ci := 2) (kf := 0) hd hx rfl rfl in_X2 (by decide) (by rw [hy]; exact fl_X4_126) rfl hp h
theorem p_X4_126 {x : Int32} (hy : y.cls = RX4) (hd : decode cc pc = .ok (.putfield 126, 3)) (hx : (a, sTk) ∈ G) (hp : pc + 3 = pc') (h : z_V E l (y, cc, nL, ret, hh) R mc ms Q k n G (z_up I a 0 x) sz pc' lv st) : z_V E l (y, cc, nL, ret, hh) R mc ms Q k n G I sz pc lv (.int x :: .ref a :: st) := v_put (ci := 2) (kf := 0) (I' := z_up I a 0 x) hd hx rfl rfl in_X2 tyX2 tyX2_ok nmX2 (by decide) (by rw [hy]; exact fl_X4_126) rfl (ty := .int) (by decide +kernel) rfl rfl (by simp) (fun q h => z_up_ne I a 0 x h) (by rw [z_up_at]; rfl) hp h
theorem fl_X1_110 : Cond.fieldLink RX1 110 (TX2 0).1 (TX2 0).2.1 (TX2 0).2.2.1 ∈ gw := gw_at 73 (by decide +kernel) rfl
/-- StripeTasks$Task.width -/
theorem g_X1_110 (hy : y.cls = RX1) (hd : decode cc pc = .ok (.getfield 110, 3)) (hx : (a, sTk) ∈ G) (hp : pc + 3 = pc') (h : z_V E l (y, cc, nL, ret, hh) R mc ms Q k n G I sz pc' lv (.int (I a 0) :: st)) : z_V E l (y, cc, nL, ret, hh) R mc ms Q k n G I sz pc lv (.ref a :: st) := v_get (ci := 2) (kf := 0) hd hx rfl rfl in_X2 (by decide) (by rw [hy]; exact fl_X1_110) rfl hp h
theorem p_X1_110 {x : Int32} (hy : y.cls = RX1) (hd : decode cc pc = .ok (.putfield 110, 3)) (hx : (a, sTk) ∈ G) (hp : pc + 3 = pc') (h : z_V E l (y, cc, nL, ret, hh) R mc ms Q k n G (z_up I a 0 x) sz pc' lv st) : z_V E l (y, cc, nL, ret, hh) R mc ms Q k n G I sz pc lv (.int x :: .ref a :: st) := v_put (ci := 2) (kf := 0) (I' := z_up I a 0 x) hd hx rfl rfl in_X2 tyX2 tyX2_ok nmX2 (by decide) (by rw [hy]; exact fl_X1_110) rfl (ty := .int) (by decide +kernel) rfl rfl (by simp) (fun q h => z_up_ne I a 0 x h) (by rw [z_up_at]; rfl) hp h
theorem fl_X2_15 : Cond.fieldLink RX2 15 (TX2 1).1 (TX2 1).2.1 (TX2 1).2.2.1 ∈ gw := gw_at 74 (by decide +kernel) rfl
/-- StripeTasks$Task.value -/
theorem g_X2_15 (hy : y.cls = RX2) (hd : decode cc pc = .ok (.getfield 15, 3)) (hx : (a, sTk) ∈ G) (hp : pc + 3 = pc') (h : z_V E l (y, cc, nL, ret, hh) R mc ms Q k n G I sz pc' lv (.int (I a 1) :: st)) : z_V E l (y, cc, nL, ret, hh) R mc ms Q k n G I sz pc lv (.ref a :: st) := v_get (ci := 2) (kf := 1) hd hx rfl rfl in_X2 (by decide) (by rw [hy]; exact fl_X2_15) rfl hp h
theorem p_X2_15 {x : Int32} (hy : y.cls = RX2) (hd : decode cc pc = .ok (.putfield 15, 3)) (hx : (a, sTk) ∈ G) (hp : pc + 3 = pc') (h : z_V E l (y, cc, nL, ret, hh) R mc ms Q k n G (z_up I a 1 x) sz pc' lv st) : z_V E l (y, cc, nL, ret, hh) R mc ms Q k n G I sz pc lv (.int x :: .ref a :: st) := v_put (ci := 2) (kf := 1) (I' := z_up I a 1 x) hd hx rfl rfl in_X2 tyX2 tyX2_ok nmX2 (by decide) (by rw [hy]; exact fl_X2_15) rfl (ty := .int) (by decide +kernel) rfl rfl (by simp) (fun q h => z_up_ne I a 1 x h) (by rw [z_up_at]; rfl) hp h
theorem fl_X4_131 : Cond.fieldLink RX4 131 (TX2 1).1 (TX2 1).2.1 (TX2 1).2.2.1 ∈ gw := gw_at 75 (by decide +kernel) rfl
/-- StripeTasks$Task.value -/
theorem g_X4_131 (hy : y.cls = RX4) (hd : decode cc pc = .ok (.getfield 131, 3)) (hx : (a, sTk) ∈ G) (hp : pc + 3 = pc') (h : z_V E l (y, cc, nL, ret, hh) R mc ms Q k n G I sz pc' lv (.int (I a 1) :: st)) : z_V E l (y, cc, nL, ret, hh) R mc ms Q k n G I sz pc lv (.ref a :: st) := v_get (ci := 2) (kf := 1) hd hx rfl rfl in_X2 (by decide) (by rw [hy]; exact fl_X4_131) rfl hp h
theorem p_X4_131 {x : Int32} (hy : y.cls = RX4) (hd : decode cc pc = .ok (.putfield 131, 3)) (hx : (a, sTk) ∈ G) (hp : pc + 3 = pc') (h : z_V E l (y, cc, nL, ret, hh) R mc ms Q k n G (z_up I a 1 x) sz pc' lv st) : z_V E l (y, cc, nL, ret, hh) R mc ms Q k n G I sz pc lv (.int x :: .ref a :: st) := v_put (ci := 2) (kf := 1) (I' := z_up I a 1 x) hd hx rfl rfl in_X2 tyX2 tyX2_ok nmX2 (by decide) (by rw [hy]; exact fl_X4_131) rfl (ty := .int) (by decide +kernel) rfl rfl (by simp) (fun q h => z_up_ne I a 1 x h) (by rw [z_up_at]; rfl) hp h
theorem fl_X1_93 : Cond.fieldLink RX1 93 (TX2 1).1 (TX2 1).2.1 (TX2 1).2.2.1 ∈ gw := gw_at 76 (by decide +kernel) rfl
/-- StripeTasks$Task.value -/
theorem g_X1_93 (hy : y.cls = RX1) (hd : decode cc pc = .ok (.getfield 93, 3)) (hx : (a, sTk) ∈ G) (hp : pc + 3 = pc') (h : z_V E l (y, cc, nL, ret, hh) R mc ms Q k n G I sz pc' lv (.int (I a 1) :: st)) : z_V E l (y, cc, nL, ret, hh) R mc ms Q k n G I sz pc lv (.ref a :: st) := v_get (ci := 2) (kf := 1) hd hx rfl rfl in_X2 (by decide) (by rw [hy]; exact fl_X1_93) rfl hp h
theorem p_X1_93 {x : Int32} (hy : y.cls = RX1) (hd : decode cc pc = .ok (.putfield 93, 3)) (hx : (a, sTk) ∈ G) (hp : pc + 3 = pc') (h : z_V E l (y, cc, nL, ret, hh) R mc ms Q k n G (z_up I a 1 x) sz pc' lv st) : z_V E l (y, cc, nL, ret, hh) R mc ms Q k n G I sz pc lv (.int x :: .ref a :: st) := v_put (ci := 2) (kf := 1) (I' := z_up I a 1 x) hd hx rfl rfl in_X2 tyX2 tyX2_ok nmX2 (by decide) (by rw [hy]; exact fl_X1_93) rfl (ty := .int) (by decide +kernel) rfl rfl (by simp) (fun q h => z_up_ne I a 1 x h) (by rw [z_up_at]; rfl) hp h
theorem fl_X2_18 : Cond.fieldLink RX2 18 (TX2 2).1 (TX2 2).2.1 (TX2 2).2.2.1 ∈ gw := gw_at 77 (by decide +kernel) rfl
/-- StripeTasks$Task.saved -/
theorem g_X2_18 (hy : y.cls = RX2) (hd : decode cc pc = .ok (.getfield 18, 3)) (hx : (a, sTk) ∈ G) (hp : pc + 3 = pc') (h : z_V E l (y, cc, nL, ret, hh) R mc ms Q k n G I sz pc' lv (.int (I a 2) :: st)) : z_V E l (y, cc, nL, ret, hh) R mc ms Q k n G I sz pc lv (.ref a :: st) := v_get (ci := 2) (kf := 2) hd hx rfl rfl in_X2 (by decide) (by rw [hy]; exact fl_X2_18) rfl hp h
theorem p_X2_18 {x : Int32} (hy : y.cls = RX2) (hd : decode cc pc = .ok (.putfield 18, 3)) (hx : (a, sTk) ∈ G) (hp : pc + 3 = pc') (h : z_V E l (y, cc, nL, ret, hh) R mc ms Q k n G (z_up I a 2 x) sz pc' lv st) : z_V E l (y, cc, nL, ret, hh) R mc ms Q k n G I sz pc lv (.int x :: .ref a :: st) := v_put (ci := 2) (kf := 2) (I' := z_up I a 2 x) hd hx rfl rfl in_X2 tyX2 tyX2_ok nmX2 (by decide) (by rw [hy]; exact fl_X2_18) rfl (ty := .int) (by decide +kernel) rfl rfl (by simp) (fun q h => z_up_ne I a 2 x h) (by rw [z_up_at]; rfl) hp h
theorem fl_X4_134 : Cond.fieldLink RX4 134 (TX2 2).1 (TX2 2).2.1 (TX2 2).2.2.1 ∈ gw := gw_at 78 (by decide +kernel) rfl
/-- StripeTasks$Task.saved -/
theorem g_X4_134 (hy : y.cls = RX4) (hd : decode cc pc = .ok (.getfield 134, 3)) (hx : (a, sTk) ∈ G) (hp : pc + 3 = pc') (h : z_V E l (y, cc, nL, ret, hh) R mc ms Q k n G I sz pc' lv (.int (I a 2) :: st)) : z_V E l (y, cc, nL, ret, hh) R mc ms Q k n G I sz pc lv (.ref a :: st) := v_get (ci := 2) (kf := 2) hd hx rfl rfl in_X2 (by decide) (by rw [hy]; exact fl_X4_134) rfl hp h
theorem p_X4_134 {x : Int32} (hy : y.cls = RX4) (hd : decode cc pc = .ok (.putfield 134, 3)) (hx : (a, sTk) ∈ G) (hp : pc + 3 = pc') (h : z_V E l (y, cc, nL, ret, hh) R mc ms Q k n G (z_up I a 2 x) sz pc' lv st) : z_V E l (y, cc, nL, ret, hh) R mc ms Q k n G I sz pc lv (.int x :: .ref a :: st) := v_put (ci := 2) (kf := 2) (I' := z_up I a 2 x) hd hx rfl rfl in_X2 tyX2 tyX2_ok nmX2 (by decide) (by rw [hy]; exact fl_X4_134) rfl (ty := .int) (by decide +kernel) rfl rfl (by simp) (fun q h => z_up_ne I a 2 x h) (by rw [z_up_at]; rfl) hp h
theorem fl_X2_21 : Cond.fieldLink RX2 21 (TX2 3).1 (TX2 3).2.1 (TX2 3).2.2.1 ∈ gw := gw_at 79 (by decide +kernel) rfl
/-- StripeTasks$Task.worked -/
theorem g_X2_21 (hy : y.cls = RX2) (hd : decode cc pc = .ok (.getfield 21, 3)) (hx : (a, sTk) ∈ G) (hp : pc + 3 = pc') (h : z_V E l (y, cc, nL, ret, hh) R mc ms Q k n G I sz pc' lv (.int (I a 3) :: st)) : z_V E l (y, cc, nL, ret, hh) R mc ms Q k n G I sz pc lv (.ref a :: st) := v_get (ci := 2) (kf := 3) hd hx rfl rfl in_X2 (by decide) (by rw [hy]; exact fl_X2_21) rfl hp h
theorem p_X2_21 {x : Int32} (hy : y.cls = RX2) (hd : decode cc pc = .ok (.putfield 21, 3)) (hx : (a, sTk) ∈ G) (hp : pc + 3 = pc') (h : z_V E l (y, cc, nL, ret, hh) R mc ms Q k n G (z_up I a 3 x) sz pc' lv st) : z_V E l (y, cc, nL, ret, hh) R mc ms Q k n G I sz pc lv (.int x :: .ref a :: st) := v_put (ci := 2) (kf := 3) (I' := z_up I a 3 x) hd hx rfl rfl in_X2 tyX2 tyX2_ok nmX2 (by decide) (by rw [hy]; exact fl_X2_21) rfl (ty := .int) (by decide +kernel) rfl rfl (by simp) (fun q h => z_up_ne I a 3 x h) (by rw [z_up_at]; rfl) hp h
theorem fl_X4_137 : Cond.fieldLink RX4 137 (TX2 3).1 (TX2 3).2.1 (TX2 3).2.2.1 ∈ gw := gw_at 80 (by decide +kernel) rfl
/-- StripeTasks$Task.worked -/
theorem g_X4_137 (hy : y.cls = RX4) (hd : decode cc pc = .ok (.getfield 137, 3)) (hx : (a, sTk) ∈ G) (hp : pc + 3 = pc') (h : z_V E l (y, cc, nL, ret, hh) R mc ms Q k n G I sz pc' lv (.int (I a 3) :: st)) : z_V E l (y, cc, nL, ret, hh) R mc ms Q k n G I sz pc lv (.ref a :: st) := v_get (ci := 2) (kf := 3) hd hx rfl rfl in_X2 (by decide) (by rw [hy]; exact fl_X4_137) rfl hp h
theorem p_X4_137 {x : Int32} (hy : y.cls = RX4) (hd : decode cc pc = .ok (.putfield 137, 3)) (hx : (a, sTk) ∈ G) (hp : pc + 3 = pc') (h : z_V E l (y, cc, nL, ret, hh) R mc ms Q k n G (z_up I a 3 x) sz pc' lv st) : z_V E l (y, cc, nL, ret, hh) R mc ms Q k n G I sz pc lv (.int x :: .ref a :: st) := v_put (ci := 2) (kf := 3) (I' := z_up I a 3 x) hd hx rfl rfl in_X2 tyX2 tyX2_ok nmX2 (by decide) (by rw [hy]; exact fl_X4_137) rfl (ty := .int) (by decide +kernel) rfl rfl (by simp) (fun q h => z_up_ne I a 3 x h) (by rw [z_up_at]; rfl) hp h
theorem fl_X2_24 : Cond.fieldLink RX2 24 (TX2 4).1 (TX2 4).2.1 (TX2 4).2.2.1 ∈ gw := gw_at 81 (by decide +kernel) rfl
/-- StripeTasks$Task.unsaved -/
theorem g_X2_24 (hy : y.cls = RX2) (hd : decode cc pc = .ok (.getfield 24, 3)) (hx : (a, sTk) ∈ G) (hp : pc + 3 = pc') (h : z_V E l (y, cc, nL, ret, hh) R mc ms Q k n G I sz pc' lv (.int (I a 4) :: st)) : z_V E l (y, cc, nL, ret, hh) R mc ms Q k n G I sz pc lv (.ref a :: st) := v_get (ci := 2) (kf := 4) hd hx rfl rfl in_X2 (by decide) (by rw [hy]; exact fl_X2_24) rfl hp h
theorem p_X2_24 {x : Int32} (hy : y.cls = RX2) (hd : decode cc pc = .ok (.putfield 24, 3)) (hx : (a, sTk) ∈ G) (hp : pc + 3 = pc') (h : z_V E l (y, cc, nL, ret, hh) R mc ms Q k n G (z_up I a 4 x) sz pc' lv st) : z_V E l (y, cc, nL, ret, hh) R mc ms Q k n G I sz pc lv (.int x :: .ref a :: st) := v_put (ci := 2) (kf := 4) (I' := z_up I a 4 x) hd hx rfl rfl in_X2 tyX2 tyX2_ok nmX2 (by decide) (by rw [hy]; exact fl_X2_24) rfl (ty := .int) (by decide +kernel) rfl rfl (by simp) (fun q h => z_up_ne I a 4 x h) (by rw [z_up_at]; rfl) hp h
theorem fl_X4_253 : Cond.fieldLink RX4 253 (TX2 4).1 (TX2 4).2.1 (TX2 4).2.2.1 ∈ gw := gw_at 82 (by decide +kernel) rfl
/-- StripeTasks$Task.unsaved -/
theorem g_X4_253 (hy : y.cls = RX4) (hd : decode cc pc = .ok (.getfield 253, 3)) (hx : (a, sTk) ∈ G) (hp : pc + 3 = pc') (h : z_V E l (y, cc, nL, ret, hh) R mc ms Q k n G I sz pc' lv (.int (I a 4) :: st)) : z_V E l (y, cc, nL, ret, hh) R mc ms Q k n G I sz pc lv (.ref a :: st) := v_get (ci := 2) (kf := 4) hd hx rfl rfl in_X2 (by decide) (by rw [hy]; exact fl_X4_253) rfl hp h
theorem p_X4_253 {x : Int32} (hy : y.cls = RX4) (hd : decode cc pc = .ok (.putfield 253, 3)) (hx : (a, sTk) ∈ G) (hp : pc + 3 = pc') (h : z_V E l (y, cc, nL, ret, hh) R mc ms Q k n G (z_up I a 4 x) sz pc' lv st) : z_V E l (y, cc, nL, ret, hh) R mc ms Q k n G I sz pc lv (.int x :: .ref a :: st) := v_put (ci := 2) (kf := 4) (I' := z_up I a 4 x) hd hx rfl rfl in_X2 tyX2 tyX2_ok nmX2 (by decide) (by rw [hy]; exact fl_X4_253) rfl (ty := .int) (by decide +kernel) rfl rfl (by simp) (fun q h => z_up_ne I a 4 x h) (by rw [z_up_at]; rfl) hp h
theorem fl_X2_30 : Cond.fieldLink RX2 30 (TX2 5).1 (TX2 5).2.1 (TX2 5).2.2.1 ∈ gw := gw_at 83 (by decide +kernel) rfl
/-- StripeTasks$Task.status -/
theorem g_X2_30 (hy : y.cls = RX2) (hd : decode cc pc = .ok (.getfield 30, 3)) (hx : (a, sTk) ∈ G) (hp : pc + 3 = pc') (h : z_V E l (y, cc, nL, ret, hh) R mc ms Q k n G I sz pc' lv (.int (I a 5) :: st)) : z_V E l (y, cc, nL, ret, hh) R mc ms Q k n G I sz pc lv (.ref a :: st) := v_get (ci := 2) (kf := 5) hd hx rfl rfl in_X2 (by decide) (by rw [hy]; exact fl_X2_30) rfl hp h
theorem p_X2_30 {x : Int32} (hy : y.cls = RX2) (hd : decode cc pc = .ok (.putfield 30, 3)) (hx : (a, sTk) ∈ G) (hp : pc + 3 = pc') (h : z_V E l (y, cc, nL, ret, hh) R mc ms Q k n G (z_up I a 5 x) sz pc' lv st) : z_V E l (y, cc, nL, ret, hh) R mc ms Q k n G I sz pc lv (.int x :: .ref a :: st) := v_put (ci := 2) (kf := 5) (I' := z_up I a 5 x) hd hx rfl rfl in_X2 tyX2 tyX2_ok nmX2 (by decide) (by rw [hy]; exact fl_X2_30) rfl (ty := .int) (by decide +kernel) rfl rfl (by simp) (fun q h => z_up_ne I a 5 x h) (by rw [z_up_at]; rfl) hp h
theorem fl_X4_140 : Cond.fieldLink RX4 140 (TX2 5).1 (TX2 5).2.1 (TX2 5).2.2.1 ∈ gw := gw_at 84 (by decide +kernel) rfl
/-- StripeTasks$Task.status -/
theorem g_X4_140 (hy : y.cls = RX4) (hd : decode cc pc = .ok (.getfield 140, 3)) (hx : (a, sTk) ∈ G) (hp : pc + 3 = pc') (h : z_V E l (y, cc, nL, ret, hh) R mc ms Q k n G I sz pc' lv (.int (I a 5) :: st)) : z_V E l (y, cc, nL, ret, hh) R mc ms Q k n G I sz pc lv (.ref a :: st) := v_get (ci := 2) (kf := 5) hd hx rfl rfl in_X2 (by decide) (by rw [hy]; exact fl_X4_140) rfl hp h
theorem p_X4_140 {x : Int32} (hy : y.cls = RX4) (hd : decode cc pc = .ok (.putfield 140, 3)) (hx : (a, sTk) ∈ G) (hp : pc + 3 = pc') (h : z_V E l (y, cc, nL, ret, hh) R mc ms Q k n G (z_up I a 5 x) sz pc' lv st) : z_V E l (y, cc, nL, ret, hh) R mc ms Q k n G I sz pc lv (.int x :: .ref a :: st) := v_put (ci := 2) (kf := 5) (I' := z_up I a 5 x) hd hx rfl rfl in_X2 tyX2 tyX2_ok nmX2 (by decide) (by rw [hy]; exact fl_X4_140) rfl (ty := .int) (by decide +kernel) rfl rfl (by simp) (fun q h => z_up_ne I a 5 x h) (by rw [z_up_at]; rfl) hp h
theorem fl_X1_80 : Cond.fieldLink RX1 80 (TX2 5).1 (TX2 5).2.1 (TX2 5).2.2.1 ∈ gw := gw_at 85 (by decide +kernel) rfl
/-- StripeTasks$Task.status -/
theorem g_X1_80 (hy : y.cls = RX1) (hd : decode cc pc = .ok (.getfield 80, 3)) (hx : (a, sTk) ∈ G) (hp : pc + 3 = pc') (h : z_V E l (y, cc, nL, ret, hh) R mc ms Q k n G I sz pc' lv (.int (I a 5) :: st)) : z_V E l (y, cc, nL, ret, hh) R mc ms Q k n G I sz pc lv (.ref a :: st) := v_get (ci := 2) (kf := 5) hd hx rfl rfl in_X2 (by decide) (by rw [hy]; exact fl_X1_80) rfl hp h
theorem p_X1_80 {x : Int32} (hy : y.cls = RX1) (hd : decode cc pc = .ok (.putfield 80, 3)) (hx : (a, sTk) ∈ G) (hp : pc + 3 = pc') (h : z_V E l (y, cc, nL, ret, hh) R mc ms Q k n G (z_up I a 5 x) sz pc' lv st) : z_V E l (y, cc, nL, ret, hh) R mc ms Q k n G I sz pc lv (.int x :: .ref a :: st) := v_put (ci := 2) (kf := 5) (I' := z_up I a 5 x) hd hx rfl rfl in_X2 tyX2 tyX2_ok nmX2 (by decide) (by rw [hy]; exact fl_X1_80) rfl (ty := .int) (by decide +kernel) rfl rfl (by simp) (fun q h => z_up_ne I a 5 x h) (by rw [z_up_at]; rfl) hp h
theorem fl_X2_33 : Cond.fieldLink RX2 33 (TX2 6).1 (TX2 6).2.1 (TX2 6).2.2.1 ∈ gw := gw_at 86 (by decide +kernel) rfl
/-- StripeTasks$Task.first -/
theorem g_X2_33 (hy : y.cls = RX2) (hd : decode cc pc = .ok (.getfield 33, 3)) (hx : (a, sTk) ∈ G) (hp : pc + 3 = pc') (h : z_V E l (y, cc, nL, ret, hh) R mc ms Q k n G I sz pc' lv (.int (I a 6) :: st)) : z_V E l (y, cc, nL, ret, hh) R mc ms Q k n G I sz pc lv (.ref a :: st) := v_get (ci := 2) (kf := 6) hd hx rfl rfl in_X2 (by decide) (by rw [hy]; exact fl_X2_33) rfl hp h
theorem p_X2_33 {x : Int32} (hy : y.cls = RX2) (hd : decode cc pc = .ok (.putfield 33, 3)) (hx : (a, sTk) ∈ G) (hp : pc + 3 = pc') (h : z_V E l (y, cc, nL, ret, hh) R mc ms Q k n G (z_up I a 6 x) sz pc' lv st) : z_V E l (y, cc, nL, ret, hh) R mc ms Q k n G I sz pc lv (.int x :: .ref a :: st) := v_put (ci := 2) (kf := 6) (I' := z_up I a 6 x) hd hx rfl rfl in_X2 tyX2 tyX2_ok nmX2 (by decide) (by rw [hy]; exact fl_X2_33) rfl (ty := .int) (by decide +kernel) rfl rfl (by simp) (fun q h => z_up_ne I a 6 x h) (by rw [z_up_at]; rfl) hp h
theorem fl_X4_143 : Cond.fieldLink RX4 143 (TX2 6).1 (TX2 6).2.1 (TX2 6).2.2.1 ∈ gw := gw_at 87 (by decide +kernel) rfl
/-- StripeTasks$Task.first -/
theorem g_X4_143 (hy : y.cls = RX4) (hd : decode cc pc = .ok (.getfield 143, 3)) (hx : (a, sTk) ∈ G) (hp : pc + 3 = pc') (h : z_V E l (y, cc, nL, ret, hh) R mc ms Q k n G I sz pc' lv (.int (I a 6) :: st)) : z_V E l (y, cc, nL, ret, hh) R mc ms Q k n G I sz pc lv (.ref a :: st) := v_get (ci := 2) (kf := 6) hd hx rfl rfl in_X2 (by decide) (by rw [hy]; exact fl_X4_143) rfl hp h
theorem p_X4_143 {x : Int32} (hy : y.cls = RX4) (hd : decode cc pc = .ok (.putfield 143, 3)) (hx : (a, sTk) ∈ G) (hp : pc + 3 = pc') (h : z_V E l (y, cc, nL, ret, hh) R mc ms Q k n G (z_up I a 6 x) sz pc' lv st) : z_V E l (y, cc, nL, ret, hh) R mc ms Q k n G I sz pc lv (.int x :: .ref a :: st) := v_put (ci := 2) (kf := 6) (I' := z_up I a 6 x) hd hx rfl rfl in_X2 tyX2 tyX2_ok nmX2 (by decide) (by rw [hy]; exact fl_X4_143) rfl (ty := .int) (by decide +kernel) rfl rfl (by simp) (fun q h => z_up_ne I a 6 x h) (by rw [z_up_at]; rfl) hp h
theorem fl_X1_156 : Cond.fieldLink RX1 156 (TX2 6).1 (TX2 6).2.1 (TX2 6).2.2.1 ∈ gw := gw_at 88 (by decide +kernel) rfl
/-- StripeTasks$Task.first -/
theorem g_X1_156 (hy : y.cls = RX1) (hd : decode cc pc = .ok (.getfield 156, 3)) (hx : (a, sTk) ∈ G) (hp : pc + 3 = pc') (h : z_V E l (y, cc, nL, ret, hh) R mc ms Q k n G I sz pc' lv (.int (I a 6) :: st)) : z_V E l (y, cc, nL, ret, hh) R mc ms Q k n G I sz pc lv (.ref a :: st) := v_get (ci := 2) (kf := 6) hd hx rfl rfl in_X2 (by decide) (by rw [hy]; exact fl_X1_156) rfl hp h
theorem p_X1_156 {x : Int32} (hy : y.cls = RX1) (hd : decode cc pc = .ok (.putfield 156, 3)) (hx : (a, sTk) ∈ G) (hp : pc + 3 = pc') (h : z_V E l (y, cc, nL, ret, hh) R mc ms Q k n G (z_up I a 6 x) sz pc' lv st) : z_V E l (y, cc, nL, ret, hh) R mc ms Q k n G I sz pc lv (.int x :: .ref a :: st) := v_put (ci := 2) (kf := 6) (I' := z_up I a 6 x) hd hx rfl rfl in_X2 tyX2 tyX2_ok nmX2 (by decide) (by rw [hy]; exact fl_X1_156) rfl (ty := .int) (by decide +kernel) rfl rfl (by simp) (fun q h => z_up_ne I a 6 x h) (by rw [z_up_at]; rfl) hp h
theorem fl_X1_11 : Cond.fieldLink RX1 11 (TX1 0).1 (TX1 0).2.1 (TX1 0).2.2.1 ∈ gw := gw_at 116 (by decide +kernel) rfl
/-- StripeTasks$State.tasks -/
theorem g_X1_11 (hy : y.cls = RX1) (hd : decode cc pc = .ok (.getfield 11, 3)) (hx : (a, sSt a) ∈ G) (hp : pc + 3 = pc') (h : z_V E l (y, cc, nL, ret, hh) R mc ms Q k n G I sz pc' lv (.ref (a + 1) :: st)) : z_V E l (y, cc, nL, ret, hh) R mc ms Q k n G I sz pc lv (.ref a :: st) := v_get (ci := 1) (kf := 0) hd hx rfl rfl in_X1 (by decide) (by rw [hy]; exact fl_X1_11) rfl hp h
theorem fl_X1_17 : Cond.fieldLink RX1 17 (TX1 1).1 (TX1 1).2.1 (TX1 1).2.2.1 ∈ gw := gw_at 117 (by decide +kernel) rfl
/-- StripeTasks$State.bad -/
theorem g_X1_17 (hy : y.cls = RX1) (hd : decode cc pc = .ok (.getfield 17, 3)) (hx : (a, sSt a) ∈ G) (hp : pc + 3 = pc') (h : z_V E l (y, cc, nL, ret, hh) R mc ms Q k n G I sz pc' lv (.ref (a + 2) :: st)) : z_V E l (y, cc, nL, ret, hh) R mc ms Q k n G I sz pc lv (.ref a :: st) := v_get (ci := 1) (kf := 1) hd hx rfl rfl in_X1 (by decide) (by rw [hy]; exact fl_X1_17) rfl hp h
theorem fl_X1_21 : Cond.fieldLink RX1 21 (TX1 2).1 (TX1 2).2.1 (TX1 2).2.2.1 ∈ gw := gw_at 118 (by decide +kernel) rfl
/-- StripeTasks$State.settings -/
theorem g_X1_21 (hy : y.cls = RX1) (hd : decode cc pc = .ok (.getfield 21, 3)) (hx : (a, sSt a) ∈ G) (hp : pc + 3 = pc') (h : z_V E l (y, cc, nL, ret, hh) R mc ms Q k n G I sz pc' lv (.ref (a + 3) :: st)) : z_V E l (y, cc, nL, ret, hh) R mc ms Q k n G I sz pc lv (.ref a :: st) := v_get (ci := 1) (kf := 2) hd hx rfl rfl in_X1 (by decide) (by rw [hy]; exact fl_X1_21) rfl hp h
theorem fl_X4_173 : Cond.fieldLink RX4 173 (TX1 2).1 (TX1 2).2.1 (TX1 2).2.2.1 ∈ gw := gw_at 119 (by decide +kernel) rfl
/-- StripeTasks$State.settings -/
theorem g_X4_173 (hy : y.cls = RX4) (hd : decode cc pc = .ok (.getfield 173, 3)) (hx : (a, sSt a) ∈ G) (hp : pc + 3 = pc') (h : z_V E l (y, cc, nL, ret, hh) R mc ms Q k n G I sz pc' lv (.ref (a + 3) :: st)) : z_V E l (y, cc, nL, ret, hh) R mc ms Q k n G I sz pc lv (.ref a :: st) := v_get (ci := 1) (kf := 2) hd hx rfl rfl in_X1 (by decide) (by rw [hy]; exact fl_X4_173) rfl hp h
theorem fl_X1_32 : Cond.fieldLink RX1 32 (TX1 3).1 (TX1 3).2.1 (TX1 3).2.2.1 ∈ gw := gw_at 120 (by decide +kernel) rfl
/-- StripeTasks$State.count -/
theorem g_X1_32 (hy : y.cls = RX1) (hd : decode cc pc = .ok (.getfield 32, 3)) (hx : (a, sSt a) ∈ G) (hp : pc + 3 = pc') (h : z_V E l (y, cc, nL, ret, hh) R mc ms Q k n G I sz pc' lv (.int (I a 3) :: st)) : z_V E l (y, cc, nL, ret, hh) R mc ms Q k n G I sz pc lv (.ref a :: st) := v_get (ci := 1) (kf := 3) hd hx rfl rfl in_X1 (by decide) (by rw [hy]; exact fl_X1_32) rfl hp h
theorem p_X1_32 {x : Int32} (hy : y.cls = RX1) (hd : decode cc pc = .ok (.putfield 32, 3)) (hx : (a, sSt a) ∈ G) (hp : pc + 3 = pc') (h : z_V E l (y, cc, nL, ret, hh) R mc ms Q k n G (z_up I a 3 x) sz pc' lv st) : z_V E l (y, cc, nL, ret, hh) R mc ms Q k n G I sz pc lv (.int x :: .ref a :: st) := v_put (ci := 1) (kf := 3) (I' := z_up I a 3 x) hd hx rfl rfl in_X1 tyX1 tyX1_ok nmX1 (by decide) (by rw [hy]; exact fl_X1_32) rfl (ty := .int) (by decide +kernel) rfl rfl (by simp) (fun q h => z_up_ne I a 3 x h) (by rw [z_up_at]; rfl) hp h
theorem fl_X4_92 : Cond.fieldLink RX4 92 (TX1 3).1 (TX1 3).2.1 (TX1 3).2.2.1 ∈ gw := gw_at 121 (by decide +kernel) rfl
/-- StripeTasks$State.count -/
theorem g_X4_92 (hy : y.cls = RX4) (hd : decode cc pc = .ok (.getfield 92, 3)) (hx : (a, sSt a) ∈ G) (hp : pc + 3 = pc') (h : z_V E l (y, cc, nL, ret, hh) R mc ms Q k n G I sz pc' lv (.int (I a 3) :: st)) : z_V E l (y, cc, nL, ret, hh) R mc ms Q k n G I sz pc lv (.ref a :: st) := v_get (ci := 1) (kf := 3) hd hx rfl rfl in_X1 (by decide) (by rw [hy]; exact fl_X4_92) rfl hp h
theorem p_X4_92 {x : Int32} (hy : y.cls = RX4) (hd : decode cc pc = .ok (.putfield 92, 3)) (hx : (a, sSt a) ∈ G) (hp : pc + 3 = pc') (h : z_V E l (y, cc, nL, ret, hh) R mc ms Q k n G (z_up I a 3 x) sz pc' lv st) : z_V E l (y, cc, nL, ret, hh) R mc ms Q k n G I sz pc lv (.int x :: .ref a :: st) := v_put (ci := 1) (kf := 3) (I' := z_up I a 3 x) hd hx rfl rfl in_X1 tyX1 tyX1_ok nmX1 (by decide) (by rw [hy]; exact fl_X4_92) rfl (ty := .int) (by decide +kernel) rfl rfl (by simp) (fun q h => z_up_ne I a 3 x h) (by rw [z_up_at]; rfl) hp h
theorem fl_X1_36 : Cond.fieldLink RX1 36 (TX1 4).1 (TX1 4).2.1 (TX1 4).2.2.1 ∈ gw := gw_at 122 (by decide +kernel) rfl
/-- StripeTasks$State.ticks -/
theorem g_X1_36 (hy : y.cls = RX1) (hd : decode cc pc = .ok (.getfield 36, 3)) (hx : (a, sSt a) ∈ G) (hp : pc + 3 = pc') (h : z_V E l (y, cc, nL, ret, hh) R mc ms Q k n G I sz pc' lv (.int (I a 4) :: st)) : z_V E l (y, cc, nL, ret, hh) R mc ms Q k n G I sz pc lv (.ref a :: st) := v_get (ci := 1) (kf := 4) hd hx rfl rfl in_X1 (by decide) (by rw [hy]; exact fl_X1_36) rfl hp h
theorem p_X1_36 {x : Int32} (hy : y.cls = RX1) (hd : decode cc pc = .ok (.putfield 36, 3)) (hx : (a, sSt a) ∈ G) (hp : pc + 3 = pc') (h : z_V E l (y, cc, nL, ret, hh) R mc ms Q k n G (z_up I a 4 x) sz pc' lv st) : z_V E l (y, cc, nL, ret, hh) R mc ms Q k n G I sz pc lv (.int x :: .ref a :: st) := v_put (ci := 1) (kf := 4) (I' := z_up I a 4 x) hd hx rfl rfl in_X1 tyX1 tyX1_ok nmX1 (by decide) (by rw [hy]; exact fl_X1_36) rfl (ty := .int) (by decide +kernel) rfl rfl (by simp) (fun q h => z_up_ne I a 4 x h) (by rw [z_up_at]; rfl) hp h
theorem fl_X4_95 : Cond.fieldLink RX4 95 (TX1 4).1 (TX1 4).2.1 (TX1 4).2.2.1 ∈ gw := gw_at 123 (by decide +kernel) rfl
/-- StripeTasks$State.ticks -/
theorem g_X4_95 (hy : y.cls = RX4) (hd : decode cc pc = .ok (.getfield 95, 3)) (hx : (a, sSt a) ∈ G) (hp : pc + 3 = pc') (h : z_V E l (y, cc, nL, ret, hh) R mc ms Q k n G I sz pc' lv (.int (I a 4) :: st)) : z_V E l (y, cc, nL, ret, hh) R mc ms Q k n G I sz pc lv (.ref a :: st) := v_get (ci := 1) (kf := 4) hd hx rfl rfl in_X1 (by decide) (by rw [hy]; exact fl_X4_95) rfl hp h
theorem p_X4_95 {x : Int32} (hy : y.cls = RX4) (hd : decode cc pc = .ok (.putfield 95, 3)) (hx : (a, sSt a) ∈ G) (hp : pc + 3 = pc') (h : z_V E l (y, cc, nL, ret, hh) R mc ms Q k n G (z_up I a 4 x) sz pc' lv st) : z_V E l (y, cc, nL, ret, hh) R mc ms Q k n G I sz pc lv (.int x :: .ref a :: st) := v_put (ci := 1) (kf := 4) (I' := z_up I a 4 x) hd hx rfl rfl in_X1 tyX1 tyX1_ok nmX1 (by decide) (by rw [hy]; exact fl_X4_95) rfl (ty := .int) (by decide +kernel) rfl rfl (by simp) (fun q h => z_up_ne I a 4 x h) (by rw [z_up_at]; rfl) hp h
theorem fl_X1_39 : Cond.fieldLink RX1 39 (TX1 5).1 (TX1 5).2.1 (TX1 5).2.2.1 ∈ gw := gw_at 124 (by decide +kernel) rfl
/-- StripeTasks$State.works -/
theorem g_X1_39 (hy : y.cls = RX1) (hd : decode cc pc = .ok (.getfield 39, 3)) (hx : (a, sSt a) ∈ G) (hp : pc + 3 = pc') (h : z_V E l (y, cc, nL, ret, hh) R mc ms Q k n G I sz pc' lv (.int (I a 5) :: st)) : z_V E l (y, cc, nL, ret, hh) R mc ms Q k n G I sz pc lv (.ref a :: st) := v_get (ci := 1) (kf := 5) hd hx rfl rfl in_X1 (by decide) (by rw [hy]; exact fl_X1_39) rfl hp h
theorem p_X1_39 {x : Int32} (hy : y.cls = RX1) (hd : decode cc pc = .ok (.putfield 39, 3)) (hx : (a, sSt a) ∈ G) (hp : pc + 3 = pc') (h : z_V E l (y, cc, nL, ret, hh) R mc ms Q k n G (z_up I a 5 x) sz pc' lv st) : z_V E l (y, cc, nL, ret, hh) R mc ms Q k n G I sz pc lv (.int x :: .ref a :: st) := v_put (ci := 1) (kf := 5) (I' := z_up I a 5 x) hd hx rfl rfl in_X1 tyX1 tyX1_ok nmX1 (by decide) (by rw [hy]; exact fl_X1_39) rfl (ty := .int) (by decide +kernel) rfl rfl (by simp) (fun q h => z_up_ne I a 5 x h) (by rw [z_up_at]; rfl) hp h
theorem fl_X4_116 : Cond.fieldLink RX4 116 (TX1 5).1 (TX1 5).2.1 (TX1 5).2.2.1 ∈ gw := gw_at 125 (by decide +kernel) rfl
/-- StripeTasks$State.works -/
theorem g_X4_116 (hy : y.cls = RX4) (hd : decode cc pc = .ok (.getfield 116, 3)) (hx : (a, sSt a) ∈ G) (hp : pc + 3 = pc') (h : z_V E l (y, cc, nL, ret, hh) R mc ms Q k n G I sz pc' lv (.int (I a 5) :: st)) : z_V E l (y, cc, nL, ret, hh) R mc ms Q k n G I sz pc lv (.ref a :: st) := v_get (ci := 1) (kf := 5) hd hx rfl rfl in_X1 (by decide) (by rw [hy]; exact fl_X4_116) rfl hp h
theorem p_X4_116 {x : Int32} (hy : y.cls = RX4) (hd : decode cc pc = .ok (.putfield 116, 3)) (hx : (a, sSt a) ∈ G) (hp : pc + 3 = pc') (h : z_V E l (y, cc, nL, ret, hh) R mc ms Q k n G (z_up I a 5 x) sz pc' lv st) : z_V E l (y, cc, nL, ret, hh) R mc ms Q k n G I sz pc lv (.int x :: .ref a :: st) := v_put (ci := 1) (kf := 5) (I' := z_up I a 5 x) hd hx rfl rfl in_X1 tyX1 tyX1_ok nmX1 (by decide) (by rw [hy]; exact fl_X4_116) rfl (ty := .int) (by decide +kernel) rfl rfl (by simp) (fun q h => z_up_ne I a 5 x h) (by rw [z_up_at]; rfl) hp h
theorem fl_X1_55 : Cond.fieldLink RX1 55 (TX1 6).1 (TX1 6).2.1 (TX1 6).2.2.1 ∈ gw := gw_at 126 (by decide +kernel) rfl
/-- StripeTasks$State.jobTask -/
theorem g_X1_55 (hy : y.cls = RX1) (hd : decode cc pc = .ok (.getfield 55, 3)) (hx : (a, sSt a) ∈ G) (hp : pc + 3 = pc') (h : z_V E l (y, cc, nL, ret, hh) R mc ms Q k n G I sz pc' lv (.int (I a 6) :: st)) : z_V E l (y, cc, nL, ret, hh) R mc ms Q k n G I sz pc lv (.ref a :: st) := v_get (ci := 1) (kf := 6) hd hx rfl rfl in_X1 (by decide) (by rw [hy]; exact fl_X1_55) rfl hp h
theorem p_X1_55 {x : Int32} (hy : y.cls = RX1) (hd : decode cc pc = .ok (.putfield 55, 3)) (hx : (a, sSt a) ∈ G) (hp : pc + 3 = pc') (h : z_V E l (y, cc, nL, ret, hh) R mc ms Q k n G (z_up I a 6 x) sz pc' lv st) : z_V E l (y, cc, nL, ret, hh) R mc ms Q k n G I sz pc lv (.int x :: .ref a :: st) := v_put (ci := 1) (kf := 6) (I' := z_up I a 6 x) hd hx rfl rfl in_X1 tyX1 tyX1_ok nmX1 (by decide) (by rw [hy]; exact fl_X1_55) rfl (ty := .int) (by decide +kernel) rfl rfl (by simp) (fun q h => z_up_ne I a 6 x h) (by rw [z_up_at]; rfl) hp h
theorem fl_X4_161 : Cond.fieldLink RX4 161 (TX1 6).1 (TX1 6).2.1 (TX1 6).2.2.1 ∈ gw := gw_at 127 (by decide +kernel) rfl
/-- StripeTasks$State.jobTask -/
theorem g_X4_161 (hy : y.cls = RX4) (hd : decode cc pc = .ok (.getfield 161, 3)) (hx : (a, sSt a) ∈ G) (hp : pc + 3 = pc') (h : z_V E l (y, cc, nL, ret, hh) R mc ms Q k n G I sz pc' lv (.int (I a 6) :: st)) : z_V E l (y, cc, nL, ret, hh) R mc ms Q k n G I sz pc lv (.ref a :: st) := v_get (ci := 1) (kf := 6) hd hx rfl rfl in_X1 (by decide) (by rw [hy]; exact fl_X4_161) rfl hp h
theorem p_X4_161 {x : Int32} (hy : y.cls = RX4) (hd : decode cc pc = .ok (.putfield 161, 3)) (hx : (a, sSt a) ∈ G) (hp : pc + 3 = pc') (h : z_V E l (y, cc, nL, ret, hh) R mc ms Q k n G (z_up I a 6 x) sz pc' lv st) : z_V E l (y, cc, nL, ret, hh) R mc ms Q k n G I sz pc lv (.int x :: .ref a :: st) := v_put (ci := 1) (kf := 6) (I' := z_up I a 6 x) hd hx rfl rfl in_X1 tyX1 tyX1_ok nmX1 (by decide) (by rw [hy]; exact fl_X4_161) rfl (ty := .int) (by decide +kernel) rfl rfl (by simp) (fun q h => z_up_ne I a 6 x h) (by rw [z_up_at]; rfl) hp h
theorem fl_X1_58 : Cond.fieldLink RX1 58 (TX1 7).1 (TX1 7).2.1 (TX1 7).2.2.1 ∈ gw := gw_at 128 (by decide +kernel) rfl
/-- StripeTasks$State.jobFirst -/
theorem g_X1_58 (hy : y.cls = RX1) (hd : decode cc pc = .ok (.getfield 58, 3)) (hx : (a, sSt a) ∈ G) (hp : pc + 3 = pc') (h : z_V E l (y, cc, nL, ret, hh) R mc ms Q k n G I sz pc' lv (.int (I a 7) :: st)) : z_V E l (y, cc, nL, ret, hh) R mc ms Q k n G I sz pc lv (.ref a :: st) := v_get (ci := 1) (kf := 7) hd hx rfl rfl in_X1 (by decide) (by rw [hy]; exact fl_X1_58) rfl hp h
theorem p_X1_58 {x : Int32} (hy : y.cls = RX1) (hd : decode cc pc = .ok (.putfield 58, 3)) (hx : (a, sSt a) ∈ G) (hp : pc + 3 = pc') (h : z_V E l (y, cc, nL, ret, hh) R mc ms Q k n G (z_up I a 7 x) sz pc' lv st) : z_V E l (y, cc, nL, ret, hh) R mc ms Q k n G I sz pc lv (.int x :: .ref a :: st) := v_put (ci := 1) (kf := 7) (I' := z_up I a 7 x) hd hx rfl rfl in_X1 tyX1 tyX1_ok nmX1 (by decide) (by rw [hy]; exact fl_X1_58) rfl (ty := .int) (by decide +kernel) rfl rfl (by simp) (fun q h => z_up_ne I a 7 x h) (by rw [z_up_at]; rfl) hp h
theorem fl_X4_164 : Cond.fieldLink RX4 164 (TX1 7).1 (TX1 7).2.1 (TX1 7).2.2.1 ∈ gw := gw_at 129 (by decide +kernel) rfl
/-- StripeTasks$State.jobFirst -/
theorem g_X4_164 (hy : y.cls = RX4) (hd : decode cc pc = .ok (.getfield 164, 3)) (hx : (a, sSt a) ∈ G) (hp : pc + 3 = pc') (h : z_V E l (y, cc, nL, ret, hh) R mc ms Q k n G I sz pc' lv (.int (I a 7) :: st)) : z_V E l (y, cc, nL, ret, hh) R mc ms Q k n G I sz pc lv (.ref a :: st) := v_get (ci := 1) (kf := 7) hd hx rfl rfl in_X1 (by decide) (by rw [hy]; exact fl_X4_164) rfl hp h
theorem p_X4_164 {x : Int32} (hy : y.cls = RX4) (hd : decode cc pc = .ok (.putfield 164, 3)) (hx : (a, sSt a) ∈ G) (hp : pc + 3 = pc') (h : z_V E l (y, cc, nL, ret, hh) R mc ms Q k n G (z_up I a 7 x) sz pc' lv st) : z_V E l (y, cc, nL, ret, hh) R mc ms Q k n G I sz pc lv (.int x :: .ref a :: st) := v_put (ci := 1) (kf := 7) (I' := z_up I a 7 x) hd hx rfl rfl in_X1 tyX1 tyX1_ok nmX1 (by decide) (by rw [hy]; exact fl_X4_164) rfl (ty := .int) (by decide +kernel) rfl rfl (by simp) (fun q h => z_up_ne I a 7 x h) (by rw [z_up_at]; rfl) hp h
theorem fl_X1_61 : Cond.fieldLink RX1 61 (TX1 8).1 (TX1 8).2.1 (TX1 8).2.2.1 ∈ gw := gw_at 130 (by decide +kernel) rfl
/-- StripeTasks$State.jobTicks -/
theorem g_X1_61 (hy : y.cls = RX1) (hd : decode cc pc = .ok (.getfield 61, 3)) (hx : (a, sSt a) ∈ G) (hp : pc + 3 = pc') (h : z_V E l (y, cc, nL, ret, hh) R mc ms Q k n G I sz pc' lv (.int (I a 8) :: st)) : z_V E l (y, cc, nL, ret, hh) R mc ms Q k n G I sz pc lv (.ref a :: st) := v_get (ci := 1) (kf := 8) hd hx rfl rfl in_X1 (by decide) (by rw [hy]; exact fl_X1_61) rfl hp h
theorem p_X1_61 {x : Int32} (hy : y.cls = RX1) (hd : decode cc pc = .ok (.putfield 61, 3)) (hx : (a, sSt a) ∈ G) (hp : pc + 3 = pc') (h : z_V E l (y, cc, nL, ret, hh) R mc ms Q k n G (z_up I a 8 x) sz pc' lv st) : z_V E l (y, cc, nL, ret, hh) R mc ms Q k n G I sz pc lv (.int x :: .ref a :: st) := v_put (ci := 1) (kf := 8) (I' := z_up I a 8 x) hd hx rfl rfl in_X1 tyX1 tyX1_ok nmX1 (by decide) (by rw [hy]; exact fl_X1_61) rfl (ty := .int) (by decide +kernel) rfl rfl (by simp) (fun q h => z_up_ne I a 8 x h) (by rw [z_up_at]; rfl) hp h
theorem fl_X4_167 : Cond.fieldLink RX4 167 (TX1 8).1 (TX1 8).2.1 (TX1 8).2.2.1 ∈ gw := gw_at 131 (by decide +kernel) rfl
/-- StripeTasks$State.jobTicks -/
theorem g_X4_167 (hy : y.cls = RX4) (hd : decode cc pc = .ok (.getfield 167, 3)) (hx : (a, sSt a) ∈ G) (hp : pc + 3 = pc') (h : z_V E l (y, cc, nL, ret, hh) R mc ms Q k n G I sz pc' lv (.int (I a 8) :: st)) : z_V E l (y, cc, nL, ret, hh) R mc ms Q k n G I sz pc lv (.ref a :: st) := v_get (ci := 1) (kf := 8) hd hx rfl rfl in_X1 (by decide) (by rw [hy]; exact fl_X4_167) rfl hp h
theorem p_X4_167 {x : Int32} (hy : y.cls = RX4) (hd : decode cc pc = .ok (.putfield 167, 3)) (hx : (a, sSt a) ∈ G) (hp : pc + 3 = pc') (h : z_V E l (y, cc, nL, ret, hh) R mc ms Q k n G (z_up I a 8 x) sz pc' lv st) : z_V E l (y, cc, nL, ret, hh) R mc ms Q k n G I sz pc lv (.int x :: .ref a :: st) := v_put (ci := 1) (kf := 8) (I' := z_up I a 8 x) hd hx rfl rfl in_X1 tyX1 tyX1_ok nmX1 (by decide) (by rw [hy]; exact fl_X4_167) rfl (ty := .int) (by decide +kernel) rfl rfl (by simp) (fun q h => z_up_ne I a 8 x h) (by rw [z_up_at]; rfl) hp h
theorem fl_X1_42 : Cond.fieldLink RX1 42 (TX1 9).1 (TX1 9).2.1 (TX1 9).2.2.1 ∈ gw := gw_at 132 (by decide +kernel) rfl
/-- StripeTasks$State.jobsDone -/
theorem g_X1_42 (hy : y.cls = RX1) (hd : decode cc pc = .ok (.getfield 42, 3)) (hx : (a, sSt a) ∈ G) (hp : pc + 3 = pc') (h : z_V E l (y, cc, nL, ret, hh) R mc ms Q k n G I sz pc' lv (.int (I a 9) :: st)) : z_V E l (y, cc, nL, ret, hh) R mc ms Q k n G I sz pc lv (.ref a :: st) := v_get (ci := 1) (kf := 9) hd hx rfl rfl in_X1 (by decide) (by rw [hy]; exact fl_X1_42) rfl hp h
theorem p_X1_42 {x : Int32} (hy : y.cls = RX1) (hd : decode cc pc = .ok (.putfield 42, 3)) (hx : (a, sSt a) ∈ G) (hp : pc + 3 = pc') (h : z_V E l (y, cc, nL, ret, hh) R mc ms Q k n G (z_up I a 9 x) sz pc' lv st) : z_V E l (y, cc, nL, ret, hh) R mc ms Q k n G I sz pc lv (.int x :: .ref a :: st) := v_put (ci := 1) (kf := 9) (I' := z_up I a 9 x) hd hx rfl rfl in_X1 tyX1 tyX1_ok nmX1 (by decide) (by rw [hy]; exact fl_X1_42) rfl (ty := .int) (by decide +kernel) rfl rfl (by simp) (fun q h => z_up_ne I a 9 x h) (by rw [z_up_at]; rfl) hp h
theorem fl_X4_110 : Cond.fieldLink RX4 110 (TX1 9).1 (TX1 9).2.1 (TX1 9).2.2.1 ∈ gw := gw_at 133 (by decide +kernel) rfl
/-- StripeTasks$State.jobsDone -/
theorem g_X4_110 (hy : y.cls = RX4) (hd : decode cc pc = .ok (.getfield 110, 3)) (hx : (a, sSt a) ∈ G) (hp : pc + 3 = pc') (h : z_V E l (y, cc, nL, ret, hh) R mc ms Q k n G I sz pc' lv (.int (I a 9) :: st)) : z_V E l (y, cc, nL, ret, hh) R mc ms Q k n G I sz pc lv (.ref a :: st) := v_get (ci := 1) (kf := 9) hd hx rfl rfl in_X1 (by decide) (by rw [hy]; exact fl_X4_110) rfl hp h
theorem p_X4_110 {x : Int32} (hy : y.cls = RX4) (hd : decode cc pc = .ok (.putfield 110, 3)) (hx : (a, sSt a) ∈ G) (hp : pc + 3 = pc') (h : z_V E l (y, cc, nL, ret, hh) R mc ms Q k n G (z_up I a 9 x) sz pc' lv st) : z_V E l (y, cc, nL, ret, hh) R mc ms Q k n G I sz pc lv (.int x :: .ref a :: st) := v_put (ci := 1) (kf := 9) (I' := z_up I a 9 x) hd hx rfl rfl in_X1 tyX1 tyX1_ok nmX1 (by decide) (by rw [hy]; exact fl_X4_110) rfl (ty := .int) (by decide +kernel) rfl rfl (by simp) (fun q h => z_up_ne I a 9 x h) (by rw [z_up_at]; rfl) hp h
theorem fl_X1_45 : Cond.fieldLink RX1 45 (TX1 10).1 (TX1 10).2.1 (TX1 10).2.2.1 ∈ gw := gw_at 134 (by decide +kernel) rfl
/-- StripeTasks$State.jobsLost -/
theorem g_X1_45 (hy : y.cls = RX1) (hd : decode cc pc = .ok (.getfield 45, 3)) (hx : (a, sSt a) ∈ G) (hp : pc + 3 = pc') (h : z_V E l (y, cc, nL, ret, hh) R mc ms Q k n G I sz pc' lv (.int (I a 10) :: st)) : z_V E l (y, cc, nL, ret, hh) R mc ms Q k n G I sz pc lv (.ref a :: st) := v_get (ci := 1) (kf := 10) hd hx rfl rfl in_X1 (by decide) (by rw [hy]; exact fl_X1_45) rfl hp h
theorem p_X1_45 {x : Int32} (hy : y.cls = RX1) (hd : decode cc pc = .ok (.putfield 45, 3)) (hx : (a, sSt a) ∈ G) (hp : pc + 3 = pc') (h : z_V E l (y, cc, nL, ret, hh) R mc ms Q k n G (z_up I a 10 x) sz pc' lv st) : z_V E l (y, cc, nL, ret, hh) R mc ms Q k n G I sz pc lv (.int x :: .ref a :: st) := v_put (ci := 1) (kf := 10) (I' := z_up I a 10 x) hd hx rfl rfl in_X1 tyX1 tyX1_ok nmX1 (by decide) (by rw [hy]; exact fl_X1_45) rfl (ty := .int) (by decide +kernel) rfl rfl (by simp) (fun q h => z_up_ne I a 10 x h) (by rw [z_up_at]; rfl) hp h
theorem fl_X4_113 : Cond.fieldLink RX4 113 (TX1 10).1 (TX1 10).2.1 (TX1 10).2.2.1 ∈ gw := gw_at 135 (by decide +kernel) rfl
/-- StripeTasks$State.jobsLost -/
theorem g_X4_113 (hy : y.cls = RX4) (hd : decode cc pc = .ok (.getfield 113, 3)) (hx : (a, sSt a) ∈ G) (hp : pc + 3 = pc') (h : z_V E l (y, cc, nL, ret, hh) R mc ms Q k n G I sz pc' lv (.int (I a 10) :: st)) : z_V E l (y, cc, nL, ret, hh) R mc ms Q k n G I sz pc lv (.ref a :: st) := v_get (ci := 1) (kf := 10) hd hx rfl rfl in_X1 (by decide) (by rw [hy]; exact fl_X4_113) rfl hp h
theorem p_X4_113 {x : Int32} (hy : y.cls = RX4) (hd : decode cc pc = .ok (.putfield 113, 3)) (hx : (a, sSt a) ∈ G) (hp : pc + 3 = pc') (h : z_V E l (y, cc, nL, ret, hh) R mc ms Q k n G (z_up I a 10 x) sz pc' lv st) : z_V E l (y, cc, nL, ret, hh) R mc ms Q k n G I sz pc lv (.int x :: .ref a :: st) := v_put (ci := 1) (kf := 10) (I' := z_up I a 10 x) hd hx rfl rfl in_X1 tyX1 tyX1_ok nmX1 (by decide) (by rw [hy]; exact fl_X4_113) rfl (ty := .int) (by decide +kernel) rfl rfl (by simp) (fun q h => z_up_ne I a 10 x h) (by rw [z_up_at]; rfl) hp h
theorem fl_X0_11 : Cond.fieldLink RX0 11 (TX0 0).1 (TX0 0).2.1 (TX0 0).2.2.1 ∈ gw := gw_at 168 (by decide +kernel) rfl
/-- StripeTasks$History.states -/
theorem g_X0_11 (hy : y.cls = RX0) (hd : decode cc pc = .ok (.getfield 11, 3)) (hx : (a, sHi a) ∈ G) (hp : pc + 3 = pc') (h : z_V E l (y, cc, nL, ret, hh) R mc ms Q k n G I sz pc' lv (.ref (a + 1) :: st)) : z_V E l (y, cc, nL, ret, hh) R mc ms Q k n G I sz pc lv (.ref a :: st) := v_get (ci := 0) (kf := 0) hd hx rfl rfl in_X0 (by decide) (by rw [hy]; exact fl_X0_11) rfl hp h
theorem fl_X0_17 : Cond.fieldLink RX0 17 (TX0 1).1 (TX0 1).2.1 (TX0 1).2.2.1 ∈ gw := gw_at 169 (by decide +kernel) rfl
/-- StripeTasks$History.oldest -/
theorem g_X0_17 (hy : y.cls = RX0) (hd : decode cc pc = .ok (.getfield 17, 3)) (hx : (a, sHi a) ∈ G) (hp : pc + 3 = pc') (h : z_V E l (y, cc, nL, ret, hh) R mc ms Q k n G I sz pc' lv (.int (I a 1) :: st)) : z_V E l (y, cc, nL, ret, hh) R mc ms Q k n G I sz pc lv (.ref a :: st) := v_get (ci := 0) (kf := 1) hd hx rfl rfl in_X0 (by decide) (by rw [hy]; exact fl_X0_17) rfl hp h
theorem p_X0_17 {x : Int32} (hy : y.cls = RX0) (hd : decode cc pc = .ok (.putfield 17, 3)) (hx : (a, sHi a) ∈ G) (hp : pc + 3 = pc') (h : z_V E l (y, cc, nL, ret, hh) R mc ms Q k n G (z_up I a 1 x) sz pc' lv st) : z_V E l (y, cc, nL, ret, hh) R mc ms Q k n G I sz pc lv (.int x :: .ref a :: st) := v_put (ci := 0) (kf := 1) (I' := z_up I a 1 x) hd hx rfl rfl in_X0 tyX0 tyX0_ok nmX0 (by decide) (by rw [hy]; exact fl_X0_17) rfl (ty := .int) (by decide +kernel) rfl rfl (by simp) (fun q h => z_up_ne I a 1 x h) (by rw [z_up_at]; rfl) hp h
theorem fl_X0_21 : Cond.fieldLink RX0 21 (TX0 2).1 (TX0 2).2.1 (TX0 2).2.2.1 ∈ gw := gw_at 170 (by decide +kernel) rfl
/-- StripeTasks$History.size -/
theorem g_X0_21 (hy : y.cls = RX0) (hd : decode cc pc = .ok (.getfield 21, 3)) (hx : (a, sHi a) ∈ G) (hp : pc + 3 = pc') (h : z_V E l (y, cc, nL, ret, hh) R mc ms Q k n G I sz pc' lv (.int (I a 2) :: st)) : z_V E l (y, cc, nL, ret, hh) R mc ms Q k n G I sz pc lv (.ref a :: st) := v_get (ci := 0) (kf := 2) hd hx rfl rfl in_X0 (by decide) (by rw [hy]; exact fl_X0_21) rfl hp h
theorem p_X0_21 {x : Int32} (hy : y.cls = RX0) (hd : decode cc pc = .ok (.putfield 21, 3)) (hx : (a, sHi a) ∈ G) (hp : pc + 3 = pc') (h : z_V E l (y, cc, nL, ret, hh) R mc ms Q k n G (z_up I a 2 x) sz pc' lv st) : z_V E l (y, cc, nL, ret, hh) R mc ms Q k n G I sz pc lv (.int x :: .ref a :: st) := v_put (ci := 0) (kf := 2) (I' := z_up I a 2 x) hd hx rfl rfl in_X0 tyX0 tyX0_ok nmX0 (by decide) (by rw [hy]; exact fl_X0_21) rfl (ty := .int) (by decide +kernel) rfl rfl (by simp) (fun q h => z_up_ne I a 2 x h) (by rw [z_up_at]; rfl) hp h
theorem fl_X4_225 : Cond.fieldLink RX4 225 (TX0 2).1 (TX0 2).2.1 (TX0 2).2.2.1 ∈ gw := gw_at 171 (by decide +kernel) rfl
/-- StripeTasks$History.size -/
theorem g_X4_225 (hy : y.cls = RX4) (hd : decode cc pc = .ok (.getfield 225, 3)) (hx : (a, sHi a) ∈ G) (hp : pc + 3 = pc') (h : z_V E l (y, cc, nL, ret, hh) R mc ms Q k n G I sz pc' lv (.int (I a 2) :: st)) : z_V E l (y, cc, nL, ret, hh) R mc ms Q k n G I sz pc lv (.ref a :: st) := v_get (ci := 0) (kf := 2) hd hx rfl rfl in_X0 (by decide) (by rw [hy]; exact fl_X4_225) rfl hp h
theorem p_X4_225 {x : Int32} (hy : y.cls = RX4) (hd : decode cc pc = .ok (.putfield 225, 3)) (hx : (a, sHi a) ∈ G) (hp : pc + 3 = pc') (h : z_V E l (y, cc, nL, ret, hh) R mc ms Q k n G (z_up I a 2 x) sz pc' lv st) : z_V E l (y, cc, nL, ret, hh) R mc ms Q k n G I sz pc lv (.int x :: .ref a :: st) := v_put (ci := 0) (kf := 2) (I' := z_up I a 2 x) hd hx rfl rfl in_X0 tyX0 tyX0_ok nmX0 (by decide) (by rw [hy]; exact fl_X4_225) rfl (ty := .int) (by decide +kernel) rfl rfl (by simp) (fun q h => z_up_ne I a 2 x h) (by rw [z_up_at]; rfl) hp h
theorem fl_X4_10 : Cond.fieldLink RX4 10 (TX4 0).1 (TX4 0).2.1 (TX4 0).2.2.1 ∈ gw := gw_at 179 (by decide +kernel) rfl
/-- StripeTasks.text -/
theorem g_X4_10 (hy : y.cls = RX4) (hd : decode cc pc = .ok (.getfield 10, 3)) (hx : (a, sSk a) ∈ G) (hp : pc + 3 = pc') (h : z_V E l (y, cc, nL, ret, hh) R mc ms Q k n G I sz pc' lv (.ref (a + 1) :: st)) : z_V E l (y, cc, nL, ret, hh) R mc ms Q k n G I sz pc lv (.ref a :: st) := v_get (ci := 4) (kf := 0) hd hx rfl rfl in_X4 (by decide) (by rw [hy]; exact fl_X4_10) rfl hp h
theorem fl_X4_19 : Cond.fieldLink RX4 19 (TX4 1).1 (TX4 1).2.1 (TX4 1).2.2.1 ∈ gw := gw_at 180 (by decide +kernel) rfl
/-- StripeTasks.now -/
theorem g_X4_19 (hy : y.cls = RX4) (hd : decode cc pc = .ok (.getfield 19, 3)) (hx : (a, sSk a) ∈ G) (hp : pc + 3 = pc') (h : z_V E l (y, cc, nL, ret, hh) R mc ms Q k n G I sz pc' lv (.ref (a + 3) :: st)) : z_V E l (y, cc, nL, ret, hh) R mc ms Q k n G I sz pc lv (.ref a :: st) := v_get (ci := 4) (kf := 1) hd hx rfl rfl in_X4 (by decide) (by rw [hy]; exact fl_X4_19) rfl hp h
theorem fl_X4_23 : Cond.fieldLink RX4 23 (TX4 2).1 (TX4 2).2.1 (TX4 2).2.2.1 ∈ gw := gw_at 181 (by decide +kernel) rfl
/-- StripeTasks.trial -/
theorem g_X4_23 (hy : y.cls = RX4) (hd : decode cc pc = .ok (.getfield 23, 3)) (hx : (a, sSk a) ∈ G) (hp : pc + 3 = pc') (h : z_V E l (y, cc, nL, ret, hh) R mc ms Q k n G I sz pc' lv (.ref (a + 13) :: st)) : z_V E l (y, cc, nL, ret, hh) R mc ms Q k n G I sz pc lv (.ref a :: st) := v_get (ci := 4) (kf := 2) hd hx rfl rfl in_X4 (by decide) (by rw [hy]; exact fl_X4_23) rfl hp h
theorem fl_X4_29 : Cond.fieldLink RX4 29 (TX4 3).1 (TX4 3).2.1 (TX4 3).2.2.1 ∈ gw := gw_at 182 (by decide +kernel) rfl
/-- StripeTasks.history -/
theorem g_X4_29 (hy : y.cls = RX4) (hd : decode cc pc = .ok (.getfield 29, 3)) (hx : (a, sSk a) ∈ G) (hp : pc + 3 = pc') (h : z_V E l (y, cc, nL, ret, hh) R mc ms Q k n G I sz pc' lv (.ref (a + 23) :: st)) : z_V E l (y, cc, nL, ret, hh) R mc ms Q k n G I sz pc lv (.ref a :: st) := v_get (ci := 4) (kf := 3) hd hx rfl rfl in_X4 (by decide) (by rw [hy]; exact fl_X4_29) rfl hp h
theorem fl_X4_33 : Cond.fieldLink RX4 33 (TX4 4).1 (TX4 4).2.1 (TX4 4).2.2.1 ∈ gw := gw_at 183 (by decide +kernel) rfl
/-- StripeTasks.slots -/
theorem g_X4_33 (hy : y.cls = RX4) (hd : decode cc pc = .ok (.getfield 33, 3)) (hx : (a, sSk a) ∈ G) (hp : pc + 3 = pc') (h : z_V E l (y, cc, nL, ret, hh) R mc ms Q k n G I sz pc' lv (.ref (a + 165) :: st)) : z_V E l (y, cc, nL, ret, hh) R mc ms Q k n G I sz pc lv (.ref a :: st) := v_get (ci := 4) (kf := 4) hd hx rfl rfl in_X4 (by decide) (by rw [hy]; exact fl_X4_33) rfl hp h
theorem fl_X4_37 : Cond.fieldLink RX4 37 (TX4 5).1 (TX4 5).2.1 (TX4 5).2.2.1 ∈ gw := gw_at 184 (by decide +kernel) rfl
/-- StripeTasks.slotFilled -/
theorem g_X4_37 (hy : y.cls = RX4) (hd : decode cc pc = .ok (.getfield 37, 3)) (hx : (a, sSk a) ∈ G) (hp : pc + 3 = pc') (h : z_V E l (y, cc, nL, ret, hh) R mc ms Q k n G I sz pc' lv (.ref (a + 166) :: st)) : z_V E l (y, cc, nL, ret, hh) R mc ms Q k n G I sz pc lv (.ref a :: st) := v_get (ci := 4) (kf := 5) hd hx rfl rfl in_X4 (by decide) (by rw [hy]; exact fl_X4_37) rfl hp h
theorem fl_X4_219 : Cond.fieldLink RX4 219 RX4 "LEAST_SETTINGS" "[I" ∈ gw := gw_at 624 (by decide +kernel) rfl
theorem fl_X4_222 : Cond.fieldLink RX4 222 RX4 "MOST_SETTINGS" "[I" ∈ gw := gw_at 626 (by decide +kernel) rfl
end ZFIELDS
theorem fl_X1_29 : Cond.fieldLinkNest RX1 29 RX4 "FIRST_SETTINGS" "[I" RX4 ∈ z_nst := z_nst_at 110 (by decide +kernel) rfl
abbrev mX4_init : zM := (yX4_init, cX4_init, 2, (none), [])
theorem mwX4_init : z_mw yX4_init cX4_init 2 (none) 0 := ⟨gw_at 6 (by decide +kernel) rfl, gw_at 22 (by decide +kernel) rfl, (by decide +kernel), by decide⟩
theorem miX4_init : Cond.instanceMethod yX4_init ∈ gw := gw_at 21 (by decide +kernel) rfl
abbrev mX3_init : zM := (yX3_init, cX3_init, 1, (none), [])
theorem mwX3_init : z_mw yX3_init cX3_init 1 (none) 0 := ⟨gw_at 7 (by decide +kernel) rfl, gw_at 30 (by decide +kernel) rfl, (by decide +kernel), by decide⟩
theorem miX3_init : Cond.instanceMethod yX3_init ∈ gw := gw_at 29 (by decide +kernel) rfl
abbrev mX1_init : zM := (yX1_init, cX1_init, 2, (none), [])
theorem mwX1_init : z_mw yX1_init cX1_init 2 (none) 0 := ⟨gw_at 8 (by decide +kernel) rfl, gw_at 62 (by decide +kernel) rfl, (by decide +kernel), by decide⟩
theorem miX1_init : Cond.instanceMethod yX1_init ∈ gw := gw_at 61 (by decide +kernel) rfl
abbrev mX2_init : zM := (yX2_init, cX2_init, 1, (none), [])
theorem mwX2_init : z_mw yX2_init cX2_init 1 (none) 0 := ⟨gw_at 9 (by decide +kernel) rfl, gw_at 69 (by decide +kernel) rfl, (by decide +kernel), by decide⟩
theorem miX2_init : Cond.instanceMethod yX2_init ∈ gw := gw_at 68 (by decide +kernel) rfl
abbrev mX1_reset : zM := (yX1_reset, cX1_reset, 2, (none), [])
theorem mwX1_reset : z_mw yX1_reset cX1_reset 2 (none) 0 := ⟨gw_at 8 (by decide +kernel) rfl, gw_at 109 (by decide +kernel) rfl, (by decide +kernel), by decide⟩
theorem miX1_reset : z_mi yX1_reset := ⟨gw_at 107 (by decide +kernel) rfl, gw_at 108 (by decide +kernel) rfl⟩
abbrev mX1_endJob : zM := (yX1_endJob, cX1_endJob, 1, (none), [])
theorem mwX1_endJob : z_mw yX1_endJob cX1_endJob 1 (none) 0 := ⟨gw_at 8 (by decide +kernel) rfl, gw_at 115 (by decide +kernel) rfl, (by decide +kernel), by decide⟩
theorem miX1_endJob : z_mi yX1_endJob := ⟨gw_at 113 (by decide +kernel) rfl, gw_at 114 (by decide +kernel) rfl⟩
abbrev mX0_init : zM := (yX0_init, cX0_init, 2, (none), [])
theorem mwX0_init : z_mw yX0_init cX0_init 2 (none) 0 := ⟨gw_at 10 (by decide +kernel) rfl, gw_at 163 (by decide +kernel) rfl, (by decide +kernel), by decide⟩
theorem miX0_init : Cond.instanceMethod yX0_init ∈ gw := gw_at 162 (by decide +kernel) rfl
abbrev mL_call : zM := (yL_call, cL_call, 5, (some FieldType.int), [])
theorem mwL_call : z_mw yL_call cL_call 5 (some FieldType.int) 5 := ⟨gw_at 5 (by decide +kernel) rfl, gw_at 200 (by decide +kernel) rfl, (by decide +kernel), by decide⟩
theorem msL_call : Cond.static yL_call ∈ gw := gw_at 199 (by decide +kernel) rfl
abbrev mL_tryAppend : zM := (yL_tryAppend, cL_tryAppend, 3, (some FieldType.int), [((0 : Nat), (5 : Nat), (6 : Nat), (13 : Nat)), ((0 : Nat), (5 : Nat), (10 : Nat), (24 : Nat))])
theorem mwwL_tryAppend : Cond.initialized yL_tryAppend.cls ∈ gw := gw_at 5 (by decide +kernel) rfl
theorem mwcL_tryAppend : Cond.codeWith yL_tryAppend cL_tryAppend 3 (some FieldType.int) [((0 : Nat), (5 : Nat), (6 : Nat), (13 : Nat)), ((0 : Nat), (5 : Nat), (10 : Nat), (24 : Nat))] ∈ gw := gw_at 203 (by decide +kernel) rfl
theorem msL_tryAppend : Cond.static yL_tryAppend ∈ gw := gw_at 202 (by decide +kernel) rfl
abbrev mX4_append : zM := (yX4_append, cX4_append, 2, (some FieldType.int), [])
theorem mwX4_append : z_mw yX4_append cX4_append 2 (some FieldType.int) 1 := ⟨gw_at 6 (by decide +kernel) rfl, gw_at 209 (by decide +kernel) rfl, (by decide +kernel), by decide⟩
theorem miX4_append : z_mi yX4_append := ⟨gw_at 207 (by decide +kernel) rfl, gw_at 208 (by decide +kernel) rfl⟩
abbrev mX4_isBetween : zM := (yX4_isBetween, cX4_isBetween, 3, (some FieldType.boolean), [])
theorem mwX4_isBetween : z_mw yX4_isBetween cX4_isBetween 3 (some FieldType.boolean) 3 := ⟨gw_at 6 (by decide +kernel) rfl, gw_at 212 (by decide +kernel) rfl, (by decide +kernel), by decide⟩
theorem msX4_isBetween : Cond.static yX4_isBetween ∈ gw := gw_at 211 (by decide +kernel) rfl
abbrev mX3_isFull : zM := (yX3_isFull, cX3_isFull, 1, (some FieldType.boolean), [])
theorem mwX3_isFull : z_mw yX3_isFull cX3_isFull 1 (some FieldType.boolean) 0 := ⟨gw_at 7 (by decide +kernel) rfl, gw_at 279 (by decide +kernel) rfl, (by decide +kernel), by decide⟩
theorem miX3_isFull : z_mi yX3_isFull := ⟨gw_at 277 (by decide +kernel) rfl, gw_at 278 (by decide +kernel) rfl⟩
abbrev mX3_put : zM := (yX3_put, cX3_put, 2, (some FieldType.int), [])
theorem mwX3_put : z_mw yX3_put cX3_put 2 (some FieldType.int) 1 := ⟨gw_at 7 (by decide +kernel) rfl, gw_at 298 (by decide +kernel) rfl, (by decide +kernel), by decide⟩
theorem miX3_put : z_mi yX3_put := ⟨gw_at 296 (by decide +kernel) rfl, gw_at 297 (by decide +kernel) rfl⟩
abbrev mL_tryLoad : zM := (yL_tryLoad, cL_tryLoad, 2, (some FieldType.int), [((0 : Nat), (4 : Nat), (5 : Nat), (24 : Nat))])
theorem mwwL_tryLoad : Cond.initialized yL_tryLoad.cls ∈ gw := gw_at 5 (by decide +kernel) rfl
theorem mwcL_tryLoad : Cond.codeWith yL_tryLoad cL_tryLoad 2 (some FieldType.int) [((0 : Nat), (4 : Nat), (5 : Nat), (24 : Nat))] ∈ gw := gw_at 304 (by decide +kernel) rfl
theorem msL_tryLoad : Cond.static yL_tryLoad ∈ gw := gw_at 303 (by decide +kernel) rfl
abbrev mX4_load : zM := (yX4_load, cX4_load, 3, (some FieldType.int), [])
theorem mwX4_load : z_mw yX4_load cX4_load 3 (some FieldType.int) 0 := ⟨gw_at 6 (by decide +kernel) rfl, gw_at 308 (by decide +kernel) rfl, (by decide +kernel), by decide⟩
theorem miX4_load : z_mi yX4_load := ⟨gw_at 306 (by decide +kernel) rfl, gw_at 307 (by decide +kernel) rfl⟩
abbrev mX3_firstError : zM := (yX3_firstError, cX3_firstError, 2, (some FieldType.int), [])
theorem mwX3_firstError : z_mw yX3_firstError cX3_firstError 2 (some FieldType.int) 0 := ⟨gw_at 7 (by decide +kernel) rfl, gw_at 312 (by decide +kernel) rfl, (by decide +kernel), by decide⟩
theorem miX3_firstError : z_mi yX3_firstError := ⟨gw_at 310 (by decide +kernel) rfl, gw_at 311 (by decide +kernel) rfl⟩
abbrev mX3_beginReading : zM := (yX3_beginReading, cX3_beginReading, 1, (none), [])
theorem mwX3_beginReading : z_mw yX3_beginReading cX3_beginReading 1 (none) 0 := ⟨gw_at 7 (by decide +kernel) rfl, gw_at 316 (by decide +kernel) rfl, (by decide +kernel), by decide⟩
theorem miX3_beginReading : z_mi yX3_beginReading := ⟨gw_at 314 (by decide +kernel) rfl, gw_at 315 (by decide +kernel) rfl⟩
abbrev mX3_readCommand : zM := (yX3_readCommand, cX3_readCommand, 1, (some FieldType.boolean), [])
theorem mwX3_readCommand : z_mw yX3_readCommand cX3_readCommand 1 (some FieldType.boolean) 0 := ⟨gw_at 7 (by decide +kernel) rfl, gw_at 320 (by decide +kernel) rfl, (by decide +kernel), by decide⟩
theorem miX3_readCommand : z_mi yX3_readCommand := ⟨gw_at 318 (by decide +kernel) rfl, gw_at 319 (by decide +kernel) rfl⟩
abbrev mX3_isInText : zM := (yX3_isInText, cX3_isInText, 2, (some FieldType.boolean), [])
theorem mwX3_isInText : z_mw yX3_isInText cX3_isInText 2 (some FieldType.boolean) 1 := ⟨gw_at 7 (by decide +kernel) rfl, gw_at 324 (by decide +kernel) rfl, (by decide +kernel), by decide⟩
theorem miX3_isInText : z_mi yX3_isInText := ⟨gw_at 323 (by decide +kernel) rfl, gw_at 1 (by decide +kernel) rfl⟩
abbrev mX3_readNumber : zM := (yX3_readNumber, cX3_readNumber, 8, (some FieldType.int), [])
theorem mwX3_readNumber : z_mw yX3_readNumber cX3_readNumber 8 (some FieldType.int) 3 := ⟨gw_at 7 (by decide +kernel) rfl, gw_at 328 (by decide +kernel) rfl, (by decide +kernel), by decide⟩
theorem miX3_readNumber : z_mi yX3_readNumber := ⟨gw_at 327 (by decide +kernel) rfl, gw_at 2 (by decide +kernel) rfl⟩
abbrev mX3_digitAt : zM := (yX3_digitAt, cX3_digitAt, 2, (some FieldType.int), [])
theorem mwX3_digitAt : z_mw yX3_digitAt cX3_digitAt 2 (some FieldType.int) 1 := ⟨gw_at 7 (by decide +kernel) rfl, gw_at 332 (by decide +kernel) rfl, (by decide +kernel), by decide⟩
theorem miX3_digitAt : z_mi yX3_digitAt := ⟨gw_at 331 (by decide +kernel) rfl, gw_at 3 (by decide +kernel) rfl⟩
abbrev mX0_forgetAll : zM := (yX0_forgetAll, cX0_forgetAll, 1, (none), [])
theorem mwX0_forgetAll : z_mw yX0_forgetAll cX0_forgetAll 1 (none) 0 := ⟨gw_at 10 (by decide +kernel) rfl, gw_at 337 (by decide +kernel) rfl, (by decide +kernel), by decide⟩
theorem miX0_forgetAll : z_mi yX0_forgetAll := ⟨gw_at 335 (by decide +kernel) rfl, gw_at 336 (by decide +kernel) rfl⟩
abbrev mX4_obeyTextCommand : zM := (yX4_obeyTextCommand, cX4_obeyTextCommand, 4, (some FieldType.boolean), [])
theorem mwX4_obeyTextCommand : z_mw yX4_obeyTextCommand cX4_obeyTextCommand 4 (some FieldType.boolean) 4 := ⟨gw_at 6 (by decide +kernel) rfl, gw_at 342 (by decide +kernel) rfl, (by decide +kernel), by decide⟩
theorem msX4_obeyTextCommand : Cond.static yX4_obeyTextCommand ∈ gw := gw_at 341 (by decide +kernel) rfl
abbrev mX1_addTask : zM := (yX1_addTask, cX1_addTask, 3, (some FieldType.int), [])
theorem mwX1_addTask : z_mw yX1_addTask cX1_addTask 3 (some FieldType.int) 2 := ⟨gw_at 8 (by decide +kernel) rfl, gw_at 346 (by decide +kernel) rfl, (by decide +kernel), by decide⟩
theorem miX1_addTask : z_mi yX1_addTask := ⟨gw_at 344 (by decide +kernel) rfl, gw_at 345 (by decide +kernel) rfl⟩
abbrev mX1_hasRoomForTask : zM := (yX1_hasRoomForTask, cX1_hasRoomForTask, 1, (some FieldType.boolean), [])
theorem mwX1_hasRoomForTask : z_mw yX1_hasRoomForTask cX1_hasRoomForTask 1 (some FieldType.boolean) 0 := ⟨gw_at 8 (by decide +kernel) rfl, gw_at 350 (by decide +kernel) rfl, (by decide +kernel), by decide⟩
theorem miX1_hasRoomForTask : z_mi yX1_hasRoomForTask := ⟨gw_at 348 (by decide +kernel) rfl, gw_at 349 (by decide +kernel) rfl⟩
abbrev mX2_begin : zM := (yX2_begin, cX2_begin, 3, (none), [])
theorem mwX2_begin : z_mw yX2_begin cX2_begin 3 (none) 2 := ⟨gw_at 9 (by decide +kernel) rfl, gw_at 355 (by decide +kernel) rfl, (by decide +kernel), by decide⟩
theorem miX2_begin : z_mi yX2_begin := ⟨gw_at 353 (by decide +kernel) rfl, gw_at 354 (by decide +kernel) rfl⟩
abbrev mX2_switchOff : zM := (yX2_switchOff, cX2_switchOff, 1, (none), [])
theorem mwX2_switchOff : z_mw yX2_switchOff cX2_switchOff 1 (none) 0 := ⟨gw_at 9 (by decide +kernel) rfl, gw_at 359 (by decide +kernel) rfl, (by decide +kernel), by decide⟩
theorem miX2_switchOff : z_mi yX2_switchOff := ⟨gw_at 357 (by decide +kernel) rfl, gw_at 358 (by decide +kernel) rfl⟩
abbrev mX1_startJob : zM := (yX1_startJob, cX1_startJob, 6, (some FieldType.int), [])
theorem mwX1_startJob : z_mw yX1_startJob cX1_startJob 6 (some FieldType.int) 2 := ⟨gw_at 8 (by decide +kernel) rfl, gw_at 363 (by decide +kernel) rfl, (by decide +kernel), by decide⟩
theorem miX1_startJob : z_mi yX1_startJob := ⟨gw_at 361 (by decide +kernel) rfl, gw_at 362 (by decide +kernel) rfl⟩
abbrev mX1_taskNumbered : zM := (yX1_taskNumbered, cX1_taskNumbered, 2, (some (FieldType.object "StripeTasks$Task")), [])
theorem mwX1_taskNumbered : z_mw yX1_taskNumbered cX1_taskNumbered 2 (some (FieldType.object "StripeTasks$Task")) 1 := ⟨gw_at 8 (by decide +kernel) rfl, gw_at 367 (by decide +kernel) rfl, (by decide +kernel), by decide⟩
theorem miX1_taskNumbered : z_mi yX1_taskNumbered := ⟨gw_at 365 (by decide +kernel) rfl, gw_at 366 (by decide +kernel) rfl⟩
abbrev mX1_canBring : zM := (yX1_canBring, cX1_canBring, 6, (some FieldType.boolean), [])
theorem mwX1_canBring : z_mw yX1_canBring cX1_canBring 6 (some FieldType.boolean) 2 := ⟨gw_at 8 (by decide +kernel) rfl, gw_at 371 (by decide +kernel) rfl, (by decide +kernel), by decide⟩
theorem miX1_canBring : z_mi yX1_canBring := ⟨gw_at 369 (by decide +kernel) rfl, gw_at 370 (by decide +kernel) rfl⟩
abbrev mX4_isStripe : zM := (yX4_isStripe, cX4_isStripe, 1, (some FieldType.boolean), [])
theorem mwX4_isStripe : z_mw yX4_isStripe cX4_isStripe 1 (some FieldType.boolean) 1 := ⟨gw_at 6 (by decide +kernel) rfl, gw_at 374 (by decide +kernel) rfl, (by decide +kernel), by decide⟩
theorem msX4_isStripe : Cond.static yX4_isStripe ∈ gw := gw_at 373 (by decide +kernel) rfl
abbrev mX1_isIdle : zM := (yX1_isIdle, cX1_isIdle, 1, (some FieldType.boolean), [])
theorem mwX1_isIdle : z_mw yX1_isIdle cX1_isIdle 1 (some FieldType.boolean) 0 := ⟨gw_at 8 (by decide +kernel) rfl, gw_at 378 (by decide +kernel) rfl, (by decide +kernel), by decide⟩
theorem miX1_isIdle : z_mi yX1_isIdle := ⟨gw_at 376 (by decide +kernel) rfl, gw_at 377 (by decide +kernel) rfl⟩
abbrev mX1_takerOf : zM := (yX1_takerOf, cX1_takerOf, 3, (some FieldType.int), [])
theorem mwX1_takerOf : z_mw yX1_takerOf cX1_takerOf 3 (some FieldType.int) 1 := ⟨gw_at 8 (by decide +kernel) rfl, gw_at 382 (by decide +kernel) rfl, (by decide +kernel), by decide⟩
theorem miX1_takerOf : z_mi yX1_takerOf := ⟨gw_at 380 (by decide +kernel) rfl, gw_at 381 (by decide +kernel) rfl⟩
abbrev mX2_takes : zM := (yX2_takes, cX2_takes, 2, (some FieldType.boolean), [])
theorem mwX2_takes : z_mw yX2_takes cX2_takes 2 (some FieldType.boolean) 1 := ⟨gw_at 9 (by decide +kernel) rfl, gw_at 386 (by decide +kernel) rfl, (by decide +kernel), by decide⟩
theorem miX2_takes : z_mi yX2_takes := ⟨gw_at 384 (by decide +kernel) rfl, gw_at 385 (by decide +kernel) rfl⟩
abbrev mX1_isGood : zM := (yX1_isGood, cX1_isGood, 2, (some FieldType.boolean), [])
theorem mwX1_isGood : z_mw yX1_isGood cX1_isGood 2 (some FieldType.boolean) 1 := ⟨gw_at 8 (by decide +kernel) rfl, gw_at 390 (by decide +kernel) rfl, (by decide +kernel), by decide⟩
theorem miX1_isGood : z_mi yX1_isGood := ⟨gw_at 388 (by decide +kernel) rfl, gw_at 389 (by decide +kernel) rfl⟩
abbrev mX2_takesOneOf : zM := (yX2_takesOneOf, cX2_takesOneOf, 3, (some FieldType.boolean), [])
theorem mwX2_takesOneOf : z_mw yX2_takesOneOf cX2_takesOneOf 3 (some FieldType.boolean) 2 := ⟨gw_at 9 (by decide +kernel) rfl, gw_at 394 (by decide +kernel) rfl, (by decide +kernel), by decide⟩
theorem miX2_takesOneOf : z_mi yX2_takesOneOf := ⟨gw_at 392 (by decide +kernel) rfl, gw_at 393 (by decide +kernel) rfl⟩
abbrev mX4_tryToMakeBad : zM := (yX4_tryToMakeBad, cX4_tryToMakeBad, 2, (some FieldType.boolean), [])
theorem mwX4_tryToMakeBad : z_mw yX4_tryToMakeBad cX4_tryToMakeBad 2 (some FieldType.boolean) 2 := ⟨gw_at 6 (by decide +kernel) rfl, gw_at 397 (by decide +kernel) rfl, (by decide +kernel), by decide⟩
theorem msX4_tryToMakeBad : Cond.static yX4_tryToMakeBad ∈ gw := gw_at 396 (by decide +kernel) rfl
abbrev mX1_makeBad : zM := (yX1_makeBad, cX1_makeBad, 4, (some FieldType.int), [])
theorem mwX1_makeBad : z_mw yX1_makeBad cX1_makeBad 4 (some FieldType.int) 1 := ⟨gw_at 8 (by decide +kernel) rfl, gw_at 402 (by decide +kernel) rfl, (by decide +kernel), by decide⟩
theorem miX1_makeBad : z_mi yX1_makeBad := ⟨gw_at 400 (by decide +kernel) rfl, gw_at 401 (by decide +kernel) rfl⟩
abbrev mX1_victimOf : zM := (yX1_victimOf, cX1_victimOf, 3, (some FieldType.int), [])
theorem mwX1_victimOf : z_mw yX1_victimOf cX1_victimOf 3 (some FieldType.int) 1 := ⟨gw_at 8 (by decide +kernel) rfl, gw_at 406 (by decide +kernel) rfl, (by decide +kernel), by decide⟩
theorem miX1_victimOf : z_mi yX1_victimOf := ⟨gw_at 404 (by decide +kernel) rfl, gw_at 405 (by decide +kernel) rfl⟩
abbrev mX1_moverTo : zM := (yX1_moverTo, cX1_moverTo, 3, (some FieldType.int), [])
theorem mwX1_moverTo : z_mw yX1_moverTo cX1_moverTo 3 (some FieldType.int) 1 := ⟨gw_at 8 (by decide +kernel) rfl, gw_at 410 (by decide +kernel) rfl, (by decide +kernel), by decide⟩
theorem miX1_moverTo : z_mi yX1_moverTo := ⟨gw_at 408 (by decide +kernel) rfl, gw_at 409 (by decide +kernel) rfl⟩
abbrev mX1_jobOwner : zM := (yX1_jobOwner, cX1_jobOwner, 1, (some (FieldType.object "StripeTasks$Task")), [])
theorem mwX1_jobOwner : z_mw yX1_jobOwner cX1_jobOwner 1 (some (FieldType.object "StripeTasks$Task")) 0 := ⟨gw_at 8 (by decide +kernel) rfl, gw_at 414 (by decide +kernel) rfl, (by decide +kernel), by decide⟩
theorem miX1_jobOwner : z_mi yX1_jobOwner := ⟨gw_at 412 (by decide +kernel) rfl, gw_at 413 (by decide +kernel) rfl⟩
abbrev mX1_isTaskInStatus : zM := (yX1_isTaskInStatus, cX1_isTaskInStatus, 4, (some FieldType.boolean), [])
theorem mwX1_isTaskInStatus : z_mw yX1_isTaskInStatus cX1_isTaskInStatus 4 (some FieldType.boolean) 2 := ⟨gw_at 8 (by decide +kernel) rfl, gw_at 418 (by decide +kernel) rfl, (by decide +kernel), by decide⟩
theorem miX1_isTaskInStatus : z_mi yX1_isTaskInStatus := ⟨gw_at 416 (by decide +kernel) rfl, gw_at 417 (by decide +kernel) rfl⟩
abbrev mX2_fallBack : zM := (yX2_fallBack, cX2_fallBack, 1, (none), [])
theorem mwX2_fallBack : z_mw yX2_fallBack cX2_fallBack 1 (none) 0 := ⟨gw_at 9 (by decide +kernel) rfl, gw_at 422 (by decide +kernel) rfl, (by decide +kernel), by decide⟩
theorem miX2_fallBack : z_mi yX2_fallBack := ⟨gw_at 420 (by decide +kernel) rfl, gw_at 421 (by decide +kernel) rfl⟩
abbrev mX1_makeGood : zM := (yX1_makeGood, cX1_makeGood, 3, (some FieldType.int), [])
theorem mwX1_makeGood : z_mw yX1_makeGood cX1_makeGood 3 (some FieldType.int) 1 := ⟨gw_at 8 (by decide +kernel) rfl, gw_at 426 (by decide +kernel) rfl, (by decide +kernel), by decide⟩
theorem miX1_makeGood : z_mi yX1_makeGood := ⟨gw_at 424 (by decide +kernel) rfl, gw_at 425 (by decide +kernel) rfl⟩
abbrev mX1_stopTask : zM := (yX1_stopTask, cX1_stopTask, 3, (some FieldType.int), [])
theorem mwX1_stopTask : z_mw yX1_stopTask cX1_stopTask 3 (some FieldType.int) 1 := ⟨gw_at 8 (by decide +kernel) rfl, gw_at 430 (by decide +kernel) rfl, (by decide +kernel), by decide⟩
theorem miX1_stopTask : z_mi yX1_stopTask := ⟨gw_at 428 (by decide +kernel) rfl, gw_at 429 (by decide +kernel) rfl⟩
abbrev mX1_canStop : zM := (yX1_canStop, cX1_canStop, 3, (some FieldType.boolean), [])
theorem mwX1_canStop : z_mw yX1_canStop cX1_canStop 3 (some FieldType.boolean) 1 := ⟨gw_at 8 (by decide +kernel) rfl, gw_at 434 (by decide +kernel) rfl, (by decide +kernel), by decide⟩
theorem miX1_canStop : z_mi yX1_canStop := ⟨gw_at 432 (by decide +kernel) rfl, gw_at 433 (by decide +kernel) rfl⟩
abbrev mX2_saveValue : zM := (yX2_saveValue, cX2_saveValue, 1, (none), [])
theorem mwX2_saveValue : z_mw yX2_saveValue cX2_saveValue 1 (none) 0 := ⟨gw_at 9 (by decide +kernel) rfl, gw_at 438 (by decide +kernel) rfl, (by decide +kernel), by decide⟩
theorem miX2_saveValue : z_mi yX2_saveValue := ⟨gw_at 436 (by decide +kernel) rfl, gw_at 437 (by decide +kernel) rfl⟩
abbrev mX1_passTicks : zM := (yX1_passTicks, cX1_passTicks, 4, (some FieldType.int), [])
theorem mwX1_passTicks : z_mw yX1_passTicks cX1_passTicks 4 (some FieldType.int) 1 := ⟨gw_at 8 (by decide +kernel) rfl, gw_at 443 (by decide +kernel) rfl, (by decide +kernel), by decide⟩
theorem miX1_passTicks : z_mi yX1_passTicks := ⟨gw_at 441 (by decide +kernel) rfl, gw_at 442 (by decide +kernel) rfl⟩
abbrev mX1_passTick : zM := (yX1_passTick, cX1_passTick, 5, (none), [])
theorem mwX1_passTick : z_mw yX1_passTick cX1_passTick 5 (none) 0 := ⟨gw_at 8 (by decide +kernel) rfl, gw_at 447 (by decide +kernel) rfl, (by decide +kernel), by decide⟩
theorem miX1_passTick : z_mi yX1_passTick := ⟨gw_at 445 (by decide +kernel) rfl, gw_at 446 (by decide +kernel) rfl⟩
abbrev mX1_advanceJob : zM := (yX1_advanceJob, cX1_advanceJob, 2, (none), [])
theorem mwX1_advanceJob : z_mw yX1_advanceJob cX1_advanceJob 2 (none) 0 := ⟨gw_at 8 (by decide +kernel) rfl, gw_at 451 (by decide +kernel) rfl, (by decide +kernel), by decide⟩
theorem miX1_advanceJob : z_mi yX1_advanceJob := ⟨gw_at 449 (by decide +kernel) rfl, gw_at 450 (by decide +kernel) rfl⟩
abbrev mX2_work : zM := (yX2_work, cX2_work, 1, (none), [])
theorem mwX2_work : z_mw yX2_work cX2_work 1 (none) 0 := ⟨gw_at 9 (by decide +kernel) rfl, gw_at 455 (by decide +kernel) rfl, (by decide +kernel), by decide⟩
theorem miX2_work : z_mi yX2_work := ⟨gw_at 453 (by decide +kernel) rfl, gw_at 454 (by decide +kernel) rfl⟩
abbrev mL_tryAbout : zM := (yL_tryAbout, cL_tryAbout, 3, (some FieldType.int), [((0 : Nat), (5 : Nat), (6 : Nat), (13 : Nat))])
theorem mwwL_tryAbout : Cond.initialized yL_tryAbout.cls ∈ gw := gw_at 5 (by decide +kernel) rfl
theorem mwcL_tryAbout : Cond.codeWith yL_tryAbout cL_tryAbout 3 (some FieldType.int) [((0 : Nat), (5 : Nat), (6 : Nat), (13 : Nat))] ∈ gw := gw_at 458 (by decide +kernel) rfl
theorem msL_tryAbout : Cond.static yL_tryAbout ∈ gw := gw_at 457 (by decide +kernel) rfl
abbrev mX4_about : zM := (yX4_about, cX4_about, 2, (some FieldType.int), [])
theorem mwX4_about : z_mw yX4_about cX4_about 2 (some FieldType.int) 1 := ⟨gw_at 6 (by decide +kernel) rfl, gw_at 462 (by decide +kernel) rfl, (by decide +kernel), by decide⟩
theorem miX4_about : z_mi yX4_about := ⟨gw_at 460 (by decide +kernel) rfl, gw_at 461 (by decide +kernel) rfl⟩
abbrev mX1_countRunning : zM := (yX1_countRunning, cX1_countRunning, 3, (some FieldType.int), [])
theorem mwX1_countRunning : z_mw yX1_countRunning cX1_countRunning 3 (some FieldType.int) 0 := ⟨gw_at 8 (by decide +kernel) rfl, gw_at 466 (by decide +kernel) rfl, (by decide +kernel), by decide⟩
theorem miX1_countRunning : z_mi yX1_countRunning := ⟨gw_at 464 (by decide +kernel) rfl, gw_at 465 (by decide +kernel) rfl⟩
abbrev mX1_countFree : zM := (yX1_countFree, cX1_countFree, 3, (some FieldType.int), [])
theorem mwX1_countFree : z_mw yX1_countFree cX1_countFree 3 (some FieldType.int) 0 := ⟨gw_at 8 (by decide +kernel) rfl, gw_at 470 (by decide +kernel) rfl, (by decide +kernel), by decide⟩
theorem miX1_countFree : z_mi yX1_countFree := ⟨gw_at 468 (by decide +kernel) rfl, gw_at 469 (by decide +kernel) rfl⟩
abbrev mX1_isFree : zM := (yX1_isFree, cX1_isFree, 2, (some FieldType.boolean), [])
theorem mwX1_isFree : z_mw yX1_isFree cX1_isFree 2 (some FieldType.boolean) 1 := ⟨gw_at 8 (by decide +kernel) rfl, gw_at 474 (by decide +kernel) rfl, (by decide +kernel), by decide⟩
theorem miX1_isFree : z_mi yX1_isFree := ⟨gw_at 472 (by decide +kernel) rfl, gw_at 473 (by decide +kernel) rfl⟩
abbrev mX1_longestFreeRow : zM := (yX1_longestFreeRow, cX1_longestFreeRow, 3, (some FieldType.int), [])
theorem mwX1_longestFreeRow : z_mw yX1_longestFreeRow cX1_longestFreeRow 3 (some FieldType.int) 0 := ⟨gw_at 8 (by decide +kernel) rfl, gw_at 478 (by decide +kernel) rfl, (by decide +kernel), by decide⟩
theorem miX1_longestFreeRow : z_mi yX1_longestFreeRow := ⟨gw_at 476 (by decide +kernel) rfl, gw_at 477 (by decide +kernel) rfl⟩
abbrev mX1_freeRowFrom : zM := (yX1_freeRowFrom, cX1_freeRowFrom, 3, (some FieldType.int), [])
theorem mwX1_freeRowFrom : z_mw yX1_freeRowFrom cX1_freeRowFrom 3 (some FieldType.int) 1 := ⟨gw_at 8 (by decide +kernel) rfl, gw_at 482 (by decide +kernel) rfl, (by decide +kernel), by decide⟩
theorem miX1_freeRowFrom : z_mi yX1_freeRowFrom := ⟨gw_at 480 (by decide +kernel) rfl, gw_at 481 (by decide +kernel) rfl⟩
abbrev mX1_countBad : zM := (yX1_countBad, cX1_countBad, 3, (some FieldType.int), [])
theorem mwX1_countBad : z_mw yX1_countBad cX1_countBad 3 (some FieldType.int) 0 := ⟨gw_at 8 (by decide +kernel) rfl, gw_at 489 (by decide +kernel) rfl, (by decide +kernel), by decide⟩
theorem miX1_countBad : z_mi yX1_countBad := ⟨gw_at 487 (by decide +kernel) rfl, gw_at 488 (by decide +kernel) rfl⟩
abbrev mL_tryTask : zM := (yL_tryTask, cL_tryTask, 4, (some FieldType.int), [((0 : Nat), (6 : Nat), (7 : Nat), (38 : Nat)), ((0 : Nat), (6 : Nat), (11 : Nat), (13 : Nat))])
theorem mwwL_tryTask : Cond.initialized yL_tryTask.cls ∈ gw := gw_at 5 (by decide +kernel) rfl
theorem mwcL_tryTask : Cond.codeWith yL_tryTask cL_tryTask 4 (some FieldType.int) [((0 : Nat), (6 : Nat), (7 : Nat), (38 : Nat)), ((0 : Nat), (6 : Nat), (11 : Nat), (13 : Nat))] ∈ gw := gw_at 492 (by decide +kernel) rfl
theorem msL_tryTask : Cond.static yL_tryTask ∈ gw := gw_at 491 (by decide +kernel) rfl
abbrev mX4_task : zM := (yX4_task, cX4_task, 4, (some FieldType.int), [])
theorem mwX4_task : z_mw yX4_task cX4_task 4 (some FieldType.int) 2 := ⟨gw_at 6 (by decide +kernel) rfl, gw_at 497 (by decide +kernel) rfl, (by decide +kernel), by decide⟩
theorem miX4_task : z_mi yX4_task := ⟨gw_at 495 (by decide +kernel) rfl, gw_at 496 (by decide +kernel) rfl⟩
abbrev mL_tryStripe : zM := (yL_tryStripe, cL_tryStripe, 4, (some FieldType.int), [((0 : Nat), (6 : Nat), (7 : Nat), (38 : Nat)), ((0 : Nat), (6 : Nat), (11 : Nat), (13 : Nat))])
theorem mwwL_tryStripe : Cond.initialized yL_tryStripe.cls ∈ gw := gw_at 5 (by decide +kernel) rfl
theorem mwcL_tryStripe : Cond.codeWith yL_tryStripe cL_tryStripe 4 (some FieldType.int) [((0 : Nat), (6 : Nat), (7 : Nat), (38 : Nat)), ((0 : Nat), (6 : Nat), (11 : Nat), (13 : Nat))] ∈ gw := gw_at 517 (by decide +kernel) rfl
theorem msL_tryStripe : Cond.static yL_tryStripe ∈ gw := gw_at 516 (by decide +kernel) rfl
abbrev mX4_stripe : zM := (yX4_stripe, cX4_stripe, 3, (some FieldType.int), [])
theorem mwX4_stripe : z_mw yX4_stripe cX4_stripe 3 (some FieldType.int) 2 := ⟨gw_at 6 (by decide +kernel) rfl, gw_at 521 (by decide +kernel) rfl, (by decide +kernel), by decide⟩
theorem miX4_stripe : z_mi yX4_stripe := ⟨gw_at 519 (by decide +kernel) rfl, gw_at 520 (by decide +kernel) rfl⟩
abbrev mX1_isBad : zM := (yX1_isBad, cX1_isBad, 2, (some FieldType.boolean), [])
theorem mwX1_isBad : z_mw yX1_isBad cX1_isBad 2 (some FieldType.boolean) 1 := ⟨gw_at 8 (by decide +kernel) rfl, gw_at 527 (by decide +kernel) rfl, (by decide +kernel), by decide⟩
theorem miX1_isBad : z_mi yX1_isBad := ⟨gw_at 525 (by decide +kernel) rfl, gw_at 526 (by decide +kernel) rfl⟩
abbrev mL_tryJob : zM := (yL_tryJob, cL_tryJob, 3, (some FieldType.int), [((0 : Nat), (5 : Nat), (6 : Nat), (13 : Nat))])
theorem mwwL_tryJob : Cond.initialized yL_tryJob.cls ∈ gw := gw_at 5 (by decide +kernel) rfl
theorem mwcL_tryJob : Cond.codeWith yL_tryJob cL_tryJob 3 (some FieldType.int) [((0 : Nat), (5 : Nat), (6 : Nat), (13 : Nat))] ∈ gw := gw_at 530 (by decide +kernel) rfl
theorem msL_tryJob : Cond.static yL_tryJob ∈ gw := gw_at 529 (by decide +kernel) rfl
abbrev mX4_job : zM := (yX4_job, cX4_job, 2, (some FieldType.int), [])
theorem mwX4_job : z_mw yX4_job cX4_job 2 (some FieldType.int) 1 := ⟨gw_at 6 (by decide +kernel) rfl, gw_at 534 (by decide +kernel) rfl, (by decide +kernel), by decide⟩
theorem miX4_job : z_mi yX4_job := ⟨gw_at 532 (by decide +kernel) rfl, gw_at 533 (by decide +kernel) rfl⟩
abbrev mL_trySetting : zM := (yL_trySetting, cL_trySetting, 3, (some FieldType.int), [((0 : Nat), (5 : Nat), (6 : Nat), (13 : Nat))])
theorem mwwL_trySetting : Cond.initialized yL_trySetting.cls ∈ gw := gw_at 5 (by decide +kernel) rfl
theorem mwcL_trySetting : Cond.codeWith yL_trySetting cL_trySetting 3 (some FieldType.int) [((0 : Nat), (5 : Nat), (6 : Nat), (13 : Nat))] ∈ gw := gw_at 538 (by decide +kernel) rfl
theorem msL_trySetting : Cond.static yL_trySetting ∈ gw := gw_at 537 (by decide +kernel) rfl
abbrev mX4_setting : zM := (yX4_setting, cX4_setting, 2, (some FieldType.int), [])
theorem mwX4_setting : z_mw yX4_setting cX4_setting 2 (some FieldType.int) 1 := ⟨gw_at 6 (by decide +kernel) rfl, gw_at 542 (by decide +kernel) rfl, (by decide +kernel), by decide⟩
theorem miX4_setting : z_mi yX4_setting := ⟨gw_at 540 (by decide +kernel) rfl, gw_at 541 (by decide +kernel) rfl⟩
abbrev mX4_isSetting : zM := (yX4_isSetting, cX4_isSetting, 1, (some FieldType.boolean), [])
theorem mwX4_isSetting : z_mw yX4_isSetting cX4_isSetting 1 (some FieldType.boolean) 1 := ⟨gw_at 6 (by decide +kernel) rfl, gw_at 545 (by decide +kernel) rfl, (by decide +kernel), by decide⟩
theorem msX4_isSetting : Cond.static yX4_isSetting ∈ gw := gw_at 544 (by decide +kernel) rfl
abbrev mL_tryAdd : zM := (yL_tryAdd, cL_tryAdd, 4, (some FieldType.int), [((0 : Nat), (6 : Nat), (7 : Nat), (13 : Nat)), ((0 : Nat), (6 : Nat), (11 : Nat), (24 : Nat))])
theorem mwwL_tryAdd : Cond.initialized yL_tryAdd.cls ∈ gw := gw_at 5 (by decide +kernel) rfl
theorem mwcL_tryAdd : Cond.codeWith yL_tryAdd cL_tryAdd 4 (some FieldType.int) [((0 : Nat), (6 : Nat), (7 : Nat), (13 : Nat)), ((0 : Nat), (6 : Nat), (11 : Nat), (24 : Nat))] ∈ gw := gw_at 548 (by decide +kernel) rfl
theorem msL_tryAdd : Cond.static yL_tryAdd ∈ gw := gw_at 547 (by decide +kernel) rfl
abbrev mX4_add : zM := (yX4_add, cX4_add, 3, (some FieldType.int), [])
theorem mwX4_add : z_mw yX4_add cX4_add 3 (some FieldType.int) 2 := ⟨gw_at 6 (by decide +kernel) rfl, gw_at 552 (by decide +kernel) rfl, (by decide +kernel), by decide⟩
theorem miX4_add : z_mi yX4_add := ⟨gw_at 550 (by decide +kernel) rfl, gw_at 551 (by decide +kernel) rfl⟩
abbrev mX4_isWidth : zM := (yX4_isWidth, cX4_isWidth, 1, (some FieldType.boolean), [])
theorem mwX4_isWidth : z_mw yX4_isWidth cX4_isWidth 1 (some FieldType.boolean) 1 := ⟨gw_at 6 (by decide +kernel) rfl, gw_at 555 (by decide +kernel) rfl, (by decide +kernel), by decide⟩
theorem msX4_isWidth : Cond.static yX4_isWidth ∈ gw := gw_at 554 (by decide +kernel) rfl
abbrev mX4_isValue : zM := (yX4_isValue, cX4_isValue, 1, (some FieldType.boolean), [])
theorem mwX4_isValue : z_mw yX4_isValue cX4_isValue 1 (some FieldType.boolean) 1 := ⟨gw_at 6 (by decide +kernel) rfl, gw_at 558 (by decide +kernel) rfl, (by decide +kernel), by decide⟩
theorem msX4_isValue : Cond.static yX4_isValue ∈ gw := gw_at 557 (by decide +kernel) rfl
abbrev mX0_remember : zM := (yX0_remember, cX0_remember, 2, (none), [])
theorem mwX0_remember : z_mw yX0_remember cX0_remember 2 (none) 1 := ⟨gw_at 10 (by decide +kernel) rfl, gw_at 563 (by decide +kernel) rfl, (by decide +kernel), by decide⟩
theorem miX0_remember : z_mi yX0_remember := ⟨gw_at 561 (by decide +kernel) rfl, gw_at 562 (by decide +kernel) rfl⟩
abbrev mX0_placeOf : zM := (yX0_placeOf, cX0_placeOf, 2, (some FieldType.int), [])
theorem mwX0_placeOf : z_mw yX0_placeOf cX0_placeOf 2 (some FieldType.int) 1 := ⟨gw_at 10 (by decide +kernel) rfl, gw_at 567 (by decide +kernel) rfl, (by decide +kernel), by decide⟩
theorem miX0_placeOf : z_mi yX0_placeOf := ⟨gw_at 566 (by decide +kernel) rfl, gw_at 4 (by decide +kernel) rfl⟩
abbrev mX1_copyFrom : zM := (yX1_copyFrom, cX1_copyFrom, 3, (none), [])
theorem mwX1_copyFrom : z_mw yX1_copyFrom cX1_copyFrom 3 (none) 1 := ⟨gw_at 8 (by decide +kernel) rfl, gw_at 571 (by decide +kernel) rfl, (by decide +kernel), by decide⟩
theorem miX1_copyFrom : z_mi yX1_copyFrom := ⟨gw_at 569 (by decide +kernel) rfl, gw_at 570 (by decide +kernel) rfl⟩
abbrev mX2_copyFrom : zM := (yX2_copyFrom, cX2_copyFrom, 2, (none), [])
theorem mwX2_copyFrom : z_mw yX2_copyFrom cX2_copyFrom 2 (none) 1 := ⟨gw_at 9 (by decide +kernel) rfl, gw_at 575 (by decide +kernel) rfl, (by decide +kernel), by decide⟩
theorem miX2_copyFrom : z_mi yX2_copyFrom := ⟨gw_at 573 (by decide +kernel) rfl, gw_at 574 (by decide +kernel) rfl⟩
abbrev mL_tryBring : zM := (yL_tryBring, cL_tryBring, 4, (some FieldType.int), [((0 : Nat), (6 : Nat), (7 : Nat), (38 : Nat)), ((0 : Nat), (6 : Nat), (11 : Nat), (24 : Nat))])
theorem mwwL_tryBring : Cond.initialized yL_tryBring.cls ∈ gw := gw_at 5 (by decide +kernel) rfl
theorem mwcL_tryBring : Cond.codeWith yL_tryBring cL_tryBring 4 (some FieldType.int) [((0 : Nat), (6 : Nat), (7 : Nat), (38 : Nat)), ((0 : Nat), (6 : Nat), (11 : Nat), (24 : Nat))] ∈ gw := gw_at 578 (by decide +kernel) rfl
theorem msL_tryBring : Cond.static yL_tryBring ∈ gw := gw_at 577 (by decide +kernel) rfl
abbrev mX4_bring : zM := (yX4_bring, cX4_bring, 3, (some FieldType.int), [])
theorem mwX4_bring : z_mw yX4_bring cX4_bring 3 (some FieldType.int) 2 := ⟨gw_at 6 (by decide +kernel) rfl, gw_at 582 (by decide +kernel) rfl, (by decide +kernel), by decide⟩
theorem miX4_bring : z_mi yX4_bring := ⟨gw_at 580 (by decide +kernel) rfl, gw_at 581 (by decide +kernel) rfl⟩
abbrev mX1_hasTask : zM := (yX1_hasTask, cX1_hasTask, 2, (some FieldType.boolean), [])
theorem mwX1_hasTask : z_mw yX1_hasTask cX1_hasTask 2 (some FieldType.boolean) 1 := ⟨gw_at 8 (by decide +kernel) rfl, gw_at 586 (by decide +kernel) rfl, (by decide +kernel), by decide⟩
theorem miX1_hasTask : z_mi yX1_hasTask := ⟨gw_at 584 (by decide +kernel) rfl, gw_at 585 (by decide +kernel) rfl⟩
abbrev mL_tryStop : zM := (yL_tryStop, cL_tryStop, 3, (some FieldType.int), [((0 : Nat), (5 : Nat), (6 : Nat), (38 : Nat)), ((0 : Nat), (5 : Nat), (10 : Nat), (24 : Nat))])
theorem mwwL_tryStop : Cond.initialized yL_tryStop.cls ∈ gw := gw_at 5 (by decide +kernel) rfl
theorem mwcL_tryStop : Cond.codeWith yL_tryStop cL_tryStop 3 (some FieldType.int) [((0 : Nat), (5 : Nat), (6 : Nat), (38 : Nat)), ((0 : Nat), (5 : Nat), (10 : Nat), (24 : Nat))] ∈ gw := gw_at 590 (by decide +kernel) rfl
theorem msL_tryStop : Cond.static yL_tryStop ∈ gw := gw_at 589 (by decide +kernel) rfl
abbrev mX4_stop : zM := (yX4_stop, cX4_stop, 2, (some FieldType.int), [])
theorem mwX4_stop : z_mw yX4_stop cX4_stop 2 (some FieldType.int) 1 := ⟨gw_at 6 (by decide +kernel) rfl, gw_at 594 (by decide +kernel) rfl, (by decide +kernel), by decide⟩
theorem miX4_stop : z_mi yX4_stop := ⟨gw_at 592 (by decide +kernel) rfl, gw_at 593 (by decide +kernel) rfl⟩
abbrev mL_tryBad : zM := (yL_tryBad, cL_tryBad, 3, (some FieldType.int), [((0 : Nat), (5 : Nat), (6 : Nat), (38 : Nat))])
theorem mwwL_tryBad : Cond.initialized yL_tryBad.cls ∈ gw := gw_at 5 (by decide +kernel) rfl
theorem mwcL_tryBad : Cond.codeWith yL_tryBad cL_tryBad 3 (some FieldType.int) [((0 : Nat), (5 : Nat), (6 : Nat), (38 : Nat))] ∈ gw := gw_at 598 (by decide +kernel) rfl
theorem msL_tryBad : Cond.static yL_tryBad ∈ gw := gw_at 597 (by decide +kernel) rfl
abbrev mX4_turnBad : zM := (yX4_turnBad, cX4_turnBad, 2, (some FieldType.int), [])
theorem mwX4_turnBad : z_mw yX4_turnBad cX4_turnBad 2 (some FieldType.int) 1 := ⟨gw_at 6 (by decide +kernel) rfl, gw_at 602 (by decide +kernel) rfl, (by decide +kernel), by decide⟩
theorem miX4_turnBad : z_mi yX4_turnBad := ⟨gw_at 600 (by decide +kernel) rfl, gw_at 601 (by decide +kernel) rfl⟩
abbrev mL_tryMend : zM := (yL_tryMend, cL_tryMend, 3, (some FieldType.int), [((0 : Nat), (5 : Nat), (6 : Nat), (38 : Nat))])
theorem mwwL_tryMend : Cond.initialized yL_tryMend.cls ∈ gw := gw_at 5 (by decide +kernel) rfl
theorem mwcL_tryMend : Cond.codeWith yL_tryMend cL_tryMend 3 (some FieldType.int) [((0 : Nat), (5 : Nat), (6 : Nat), (38 : Nat))] ∈ gw := gw_at 605 (by decide +kernel) rfl
theorem msL_tryMend : Cond.static yL_tryMend ∈ gw := gw_at 604 (by decide +kernel) rfl
abbrev mX4_mend : zM := (yX4_mend, cX4_mend, 2, (some FieldType.int), [])
theorem mwX4_mend : z_mw yX4_mend cX4_mend 2 (some FieldType.int) 1 := ⟨gw_at 6 (by decide +kernel) rfl, gw_at 609 (by decide +kernel) rfl, (by decide +kernel), by decide⟩
theorem miX4_mend : z_mi yX4_mend := ⟨gw_at 607 (by decide +kernel) rfl, gw_at 608 (by decide +kernel) rfl⟩
abbrev mL_tryRun : zM := (yL_tryRun, cL_tryRun, 3, (some FieldType.int), [((0 : Nat), (5 : Nat), (6 : Nat), (13 : Nat))])
theorem mwwL_tryRun : Cond.initialized yL_tryRun.cls ∈ gw := gw_at 5 (by decide +kernel) rfl
theorem mwcL_tryRun : Cond.codeWith yL_tryRun cL_tryRun 3 (some FieldType.int) [((0 : Nat), (5 : Nat), (6 : Nat), (13 : Nat))] ∈ gw := gw_at 612 (by decide +kernel) rfl
theorem msL_tryRun : Cond.static yL_tryRun ∈ gw := gw_at 611 (by decide +kernel) rfl
abbrev mX4_run : zM := (yX4_run, cX4_run, 2, (some FieldType.int), [])
theorem mwX4_run : z_mw yX4_run cX4_run 2 (some FieldType.int) 1 := ⟨gw_at 6 (by decide +kernel) rfl, gw_at 616 (by decide +kernel) rfl, (by decide +kernel), by decide⟩
theorem miX4_run : z_mi yX4_run := ⟨gw_at 614 (by decide +kernel) rfl, gw_at 615 (by decide +kernel) rfl⟩
abbrev mL_tryLay : zM := (yL_tryLay, cL_tryLay, 4, (some FieldType.int), [((0 : Nat), (6 : Nat), (7 : Nat), (13 : Nat))])
theorem mwwL_tryLay : Cond.initialized yL_tryLay.cls ∈ gw := gw_at 5 (by decide +kernel) rfl
theorem mwcL_tryLay : Cond.codeWith yL_tryLay cL_tryLay 4 (some FieldType.int) [((0 : Nat), (6 : Nat), (7 : Nat), (13 : Nat))] ∈ gw := gw_at 619 (by decide +kernel) rfl
theorem msL_tryLay : Cond.static yL_tryLay ∈ gw := gw_at 618 (by decide +kernel) rfl
abbrev mX4_set : zM := (yX4_set, cX4_set, 4, (some FieldType.int), [])
theorem mwX4_set : z_mw yX4_set cX4_set 4 (some FieldType.int) 2 := ⟨gw_at 6 (by decide +kernel) rfl, gw_at 623 (by decide +kernel) rfl, (by decide +kernel), by decide⟩
theorem miX4_set : z_mi yX4_set := ⟨gw_at 621 (by decide +kernel) rfl, gw_at 622 (by decide +kernel) rfl⟩
abbrev mL_tryUndo : zM := (yL_tryUndo, cL_tryUndo, 2, (some FieldType.int), [((0 : Nat), (4 : Nat), (5 : Nat), (24 : Nat))])
theorem mwwL_tryUndo : Cond.initialized yL_tryUndo.cls ∈ gw := gw_at 5 (by decide +kernel) rfl
theorem mwcL_tryUndo : Cond.codeWith yL_tryUndo cL_tryUndo 2 (some FieldType.int) [((0 : Nat), (4 : Nat), (5 : Nat), (24 : Nat))] ∈ gw := gw_at 630 (by decide +kernel) rfl
theorem msL_tryUndo : Cond.static yL_tryUndo ∈ gw := gw_at 629 (by decide +kernel) rfl
abbrev mX4_undo : zM := (yX4_undo, cX4_undo, 1, (some FieldType.int), [])
theorem mwX4_undo : z_mw yX4_undo cX4_undo 1 (some FieldType.int) 0 := ⟨gw_at 6 (by decide +kernel) rfl, gw_at 634 (by decide +kernel) rfl, (by decide +kernel), by decide⟩
theorem miX4_undo : z_mi yX4_undo := ⟨gw_at 632 (by decide +kernel) rfl, gw_at 633 (by decide +kernel) rfl⟩
abbrev mX0_takeBack : zM := (yX0_takeBack, cX0_takeBack, 2, (some FieldType.int), [])
theorem mwX0_takeBack : z_mw yX0_takeBack cX0_takeBack 2 (some FieldType.int) 1 := ⟨gw_at 10 (by decide +kernel) rfl, gw_at 638 (by decide +kernel) rfl, (by decide +kernel), by decide⟩
theorem miX0_takeBack : z_mi yX0_takeBack := ⟨gw_at 636 (by decide +kernel) rfl, gw_at 637 (by decide +kernel) rfl⟩
abbrev mL_tryGap : zM := (yL_tryGap, cL_tryGap, 3, (some FieldType.int), [((0 : Nat), (5 : Nat), (6 : Nat), (13 : Nat))])
theorem mwwL_tryGap : Cond.initialized yL_tryGap.cls ∈ gw := gw_at 5 (by decide +kernel) rfl
theorem mwcL_tryGap : Cond.codeWith yL_tryGap cL_tryGap 3 (some FieldType.int) [((0 : Nat), (5 : Nat), (6 : Nat), (13 : Nat))] ∈ gw := gw_at 641 (by decide +kernel) rfl
theorem msL_tryGap : Cond.static yL_tryGap ∈ gw := gw_at 640 (by decide +kernel) rfl
abbrev mX4_bestGap : zM := (yX4_bestGap, cX4_bestGap, 2, (some FieldType.int), [])
theorem mwX4_bestGap : z_mw yX4_bestGap cX4_bestGap 2 (some FieldType.int) 1 := ⟨gw_at 6 (by decide +kernel) rfl, gw_at 645 (by decide +kernel) rfl, (by decide +kernel), by decide⟩
theorem miX4_bestGap : z_mi yX4_bestGap := ⟨gw_at 643 (by decide +kernel) rfl, gw_at 644 (by decide +kernel) rfl⟩
abbrev mX1_shortestGap : zM := (yX1_shortestGap, cX1_shortestGap, 6, (some FieldType.int), [])
theorem mwX1_shortestGap : z_mw yX1_shortestGap cX1_shortestGap 6 (some FieldType.int) 1 := ⟨gw_at 8 (by decide +kernel) rfl, gw_at 649 (by decide +kernel) rfl, (by decide +kernel), by decide⟩
theorem miX1_shortestGap : z_mi yX1_shortestGap := ⟨gw_at 647 (by decide +kernel) rfl, gw_at 648 (by decide +kernel) rfl⟩
abbrev mL_tryWindow : zM := (yL_tryWindow, cL_tryWindow, 4, (some FieldType.int), [((0 : Nat), (6 : Nat), (7 : Nat), (13 : Nat))])
theorem mwwL_tryWindow : Cond.initialized yL_tryWindow.cls ∈ gw := gw_at 5 (by decide +kernel) rfl
theorem mwcL_tryWindow : Cond.codeWith yL_tryWindow cL_tryWindow 4 (some FieldType.int) [((0 : Nat), (6 : Nat), (7 : Nat), (13 : Nat))] ∈ gw := gw_at 652 (by decide +kernel) rfl
theorem msL_tryWindow : Cond.static yL_tryWindow ∈ gw := gw_at 651 (by decide +kernel) rfl
abbrev mX4_window : zM := (yX4_window, cX4_window, 4, (some FieldType.int), [])
theorem mwX4_window : z_mw yX4_window cX4_window 4 (some FieldType.int) 2 := ⟨gw_at 6 (by decide +kernel) rfl, gw_at 656 (by decide +kernel) rfl, (by decide +kernel), by decide⟩
theorem miX4_window : z_mi yX4_window := ⟨gw_at 654 (by decide +kernel) rfl, gw_at 655 (by decide +kernel) rfl⟩
abbrev mX1_easiestWindow : zM := (yX1_easiestWindow, cX1_easiestWindow, 6, (some FieldType.int), [])
theorem mwX1_easiestWindow : z_mw yX1_easiestWindow cX1_easiestWindow 6 (some FieldType.int) 1 := ⟨gw_at 8 (by decide +kernel) rfl, gw_at 660 (by decide +kernel) rfl, (by decide +kernel), by decide⟩
theorem miX1_easiestWindow : z_mi yX1_easiestWindow := ⟨gw_at 658 (by decide +kernel) rfl, gw_at 659 (by decide +kernel) rfl⟩
abbrev mX1_canBeMadeFree : zM := (yX1_canBeMadeFree, cX1_canBeMadeFree, 4, (some FieldType.boolean), [])
theorem mwX1_canBeMadeFree : z_mw yX1_canBeMadeFree cX1_canBeMadeFree 4 (some FieldType.boolean) 2 := ⟨gw_at 8 (by decide +kernel) rfl, gw_at 664 (by decide +kernel) rfl, (by decide +kernel), by decide⟩
theorem miX1_canBeMadeFree : z_mi yX1_canBeMadeFree := ⟨gw_at 662 (by decide +kernel) rfl, gw_at 663 (by decide +kernel) rfl⟩
abbrev mX1_widthInTheWay : zM := (yX1_widthInTheWay, cX1_widthInTheWay, 5, (some FieldType.int), [])
theorem mwX1_widthInTheWay : z_mw yX1_widthInTheWay cX1_widthInTheWay 5 (some FieldType.int) 2 := ⟨gw_at 8 (by decide +kernel) rfl, gw_at 668 (by decide +kernel) rfl, (by decide +kernel), by decide⟩
theorem miX1_widthInTheWay : z_mi yX1_widthInTheWay := ⟨gw_at 666 (by decide +kernel) rfl, gw_at 667 (by decide +kernel) rfl⟩
abbrev mL_tryComing : zM := (yL_tryComing, cL_tryComing, 5, (some FieldType.int), [((0 : Nat), (7 : Nat), (8 : Nat), (38 : Nat)), ((0 : Nat), (7 : Nat), (13 : Nat), (13 : Nat))])
theorem mwwL_tryComing : Cond.initialized yL_tryComing.cls ∈ gw := gw_at 5 (by decide +kernel) rfl
theorem mwcL_tryComing : Cond.codeWith yL_tryComing cL_tryComing 5 (some FieldType.int) [((0 : Nat), (7 : Nat), (8 : Nat), (38 : Nat)), ((0 : Nat), (7 : Nat), (13 : Nat), (13 : Nat))] ∈ gw := gw_at 672 (by decide +kernel) rfl
theorem msL_tryComing : Cond.static yL_tryComing ∈ gw := gw_at 671 (by decide +kernel) rfl
abbrev mX4_coming : zM := (yX4_coming, cX4_coming, 6, (some FieldType.int), [])
theorem mwX4_coming : z_mw yX4_coming cX4_coming 6 (some FieldType.int) 3 := ⟨gw_at 6 (by decide +kernel) rfl, gw_at 676 (by decide +kernel) rfl, (by decide +kernel), by decide⟩
theorem miX4_coming : z_mi yX4_coming := ⟨gw_at 674 (by decide +kernel) rfl, gw_at 675 (by decide +kernel) rfl⟩
abbrev mL_tryLost : zM := (yL_tryLost, cL_tryLost, 3, (some FieldType.int), [((0 : Nat), (5 : Nat), (6 : Nat), (38 : Nat))])
theorem mwwL_tryLost : Cond.initialized yL_tryLost.cls ∈ gw := gw_at 5 (by decide +kernel) rfl
theorem mwcL_tryLost : Cond.codeWith yL_tryLost cL_tryLost 3 (some FieldType.int) [((0 : Nat), (5 : Nat), (6 : Nat), (38 : Nat))] ∈ gw := gw_at 681 (by decide +kernel) rfl
theorem msL_tryLost : Cond.static yL_tryLost ∈ gw := gw_at 680 (by decide +kernel) rfl
abbrev mX4_lost : zM := (yX4_lost, cX4_lost, 3, (some FieldType.int), [])
theorem mwX4_lost : z_mw yX4_lost cX4_lost 3 (some FieldType.int) 1 := ⟨gw_at 6 (by decide +kernel) rfl, gw_at 685 (by decide +kernel) rfl, (by decide +kernel), by decide⟩
theorem miX4_lost : z_mi yX4_lost := ⟨gw_at 683 (by decide +kernel) rfl, gw_at 684 (by decide +kernel) rfl⟩
abbrev mL_tryKeep : zM := (yL_tryKeep, cL_tryKeep, 3, (some FieldType.int), [((0 : Nat), (5 : Nat), (6 : Nat), (38 : Nat))])
theorem mwwL_tryKeep : Cond.initialized yL_tryKeep.cls ∈ gw := gw_at 5 (by decide +kernel) rfl
theorem mwcL_tryKeep : Cond.codeWith yL_tryKeep cL_tryKeep 3 (some FieldType.int) [((0 : Nat), (5 : Nat), (6 : Nat), (38 : Nat))] ∈ gw := gw_at 689 (by decide +kernel) rfl
theorem msL_tryKeep : Cond.static yL_tryKeep ∈ gw := gw_at 688 (by decide +kernel) rfl
abbrev mX4_save : zM := (yX4_save, cX4_save, 2, (some FieldType.int), [])
theorem mwX4_save : z_mw yX4_save cX4_save 2 (some FieldType.int) 1 := ⟨gw_at 6 (by decide +kernel) rfl, gw_at 693 (by decide +kernel) rfl, (by decide +kernel), by decide⟩
theorem miX4_save : z_mi yX4_save := ⟨gw_at 691 (by decide +kernel) rfl, gw_at 692 (by decide +kernel) rfl⟩
abbrev mL_tryBack : zM := (yL_tryBack, cL_tryBack, 3, (some FieldType.int), [((0 : Nat), (5 : Nat), (6 : Nat), (38 : Nat)), ((0 : Nat), (5 : Nat), (10 : Nat), (24 : Nat))])
theorem mwwL_tryBack : Cond.initialized yL_tryBack.cls ∈ gw := gw_at 5 (by decide +kernel) rfl
theorem mwcL_tryBack : Cond.codeWith yL_tryBack cL_tryBack 3 (some FieldType.int) [((0 : Nat), (5 : Nat), (6 : Nat), (38 : Nat)), ((0 : Nat), (5 : Nat), (10 : Nat), (24 : Nat))] ∈ gw := gw_at 696 (by decide +kernel) rfl
theorem msL_tryBack : Cond.static yL_tryBack ∈ gw := gw_at 695 (by decide +kernel) rfl
abbrev mX4_restore : zM := (yX4_restore, cX4_restore, 2, (some FieldType.int), [])
theorem mwX4_restore : z_mw yX4_restore cX4_restore 2 (some FieldType.int) 1 := ⟨gw_at 6 (by decide +kernel) rfl, gw_at 700 (by decide +kernel) rfl, (by decide +kernel), by decide⟩
theorem miX4_restore : z_mi yX4_restore := ⟨gw_at 698 (by decide +kernel) rfl, gw_at 699 (by decide +kernel) rfl⟩
abbrev mL_cell : zM := (yL_cell, cL_cell, 2, (some FieldType.int), [])
theorem mwL_cell : z_mw yL_cell cL_cell 2 (some FieldType.int) 2 := ⟨gw_at 5 (by decide +kernel) rfl, gw_at 703 (by decide +kernel) rfl, (by decide +kernel), by decide⟩
theorem msL_cell : Cond.static yL_cell ∈ gw := gw_at 702 (by decide +kernel) rfl
abbrev mL_refuses : zM := (yL_refuses, cL_refuses, 4, (some FieldType.boolean), [])
theorem mwL_refuses : z_mw yL_refuses cL_refuses 4 (some FieldType.boolean) 2 := ⟨gw_at 5 (by decide +kernel) rfl, gw_t3 223 rfl rfl, (by decide +kernel), by decide⟩
theorem msL_refuses : Cond.static yL_refuses ∈ gw := gw_at 707 (by decide +kernel) rfl
abbrev mL_doScript : zM := (yL_doScript, cL_doScript, 5, (some FieldType.int), [((0 : Nat), (6 : Nat), (7 : Nat), (13 : Nat))])
theorem mwwL_doScript : Cond.initialized yL_doScript.cls ∈ gw := gw_at 5 (by decide +kernel) rfl
theorem mwcL_doScript : Cond.codeWith yL_doScript cL_doScript 5 (some FieldType.int) [((0 : Nat), (6 : Nat), (7 : Nat), (13 : Nat))] ∈ gw := gw_at 711 (by decide +kernel) rfl
theorem msL_doScript : Cond.static yL_doScript ∈ gw := gw_at 710 (by decide +kernel) rfl
abbrev mX4_runScript : zM := (yX4_runScript, cX4_runScript, 6, (some FieldType.int), [])
theorem mwX4_runScript : z_mw yX4_runScript cX4_runScript 6 (some FieldType.int) 2 := ⟨gw_at 6 (by decide +kernel) rfl, gw_at 715 (by decide +kernel) rfl, (by decide +kernel), by decide⟩
theorem miX4_runScript : z_mi yX4_runScript := ⟨gw_at 713 (by decide +kernel) rfl, gw_at 714 (by decide +kernel) rfl⟩
abbrev mX4_withoutLastGroups : zM := (yX4_withoutLastGroups, cX4_withoutLastGroups, 6, (some FieldType.long), [])
theorem mwX4_withoutLastGroups : z_mw yX4_withoutLastGroups cX4_withoutLastGroups 6 (some FieldType.long) 2 := ⟨gw_at 6 (by decide +kernel) rfl, gw_at 718 (by decide +kernel) rfl, (by decide +kernel), by decide⟩
theorem msX4_withoutLastGroups : Cond.static yX4_withoutLastGroups ∈ gw := gw_at 717 (by decide +kernel) rfl
abbrev mX4_obeyGroup : zM := (yX4_obeyGroup, cX4_obeyGroup, 9, (some FieldType.boolean), [])
theorem mwX4_obeyGroup : z_mw yX4_obeyGroup cX4_obeyGroup 9 (some FieldType.boolean) 2 := ⟨gw_at 6 (by decide +kernel) rfl, gw_at 722 (by decide +kernel) rfl, (by decide +kernel), by decide⟩
theorem msX4_obeyGroup : Cond.static yX4_obeyGroup ∈ gw := gw_at 721 (by decide +kernel) rfl
abbrev mX1_isTaskAtValue : zM := (yX1_isTaskAtValue, cX1_isTaskAtValue, 4, (some FieldType.boolean), [])
theorem mwX1_isTaskAtValue : z_mw yX1_isTaskAtValue cX1_isTaskAtValue 4 (some FieldType.boolean) 2 := ⟨gw_at 8 (by decide +kernel) rfl, gw_at 727 (by decide +kernel) rfl, (by decide +kernel), by decide⟩
theorem miX1_isTaskAtValue : z_mi yX1_isTaskAtValue := ⟨gw_at 725 (by decide +kernel) rfl, gw_at 726 (by decide +kernel) rfl⟩
abbrev mX1_ticksUntilIdle : zM := (yX1_ticksUntilIdle, cX1_ticksUntilIdle, 2, (some FieldType.int), [])
theorem mwX1_ticksUntilIdle : z_mw yX1_ticksUntilIdle cX1_ticksUntilIdle 2 (some FieldType.int) 0 := ⟨gw_at 8 (by decide +kernel) rfl, gw_at 731 (by decide +kernel) rfl, (by decide +kernel), by decide⟩
theorem miX1_ticksUntilIdle : z_mi yX1_ticksUntilIdle := ⟨gw_at 729 (by decide +kernel) rfl, gw_at 730 (by decide +kernel) rfl⟩
abbrev mL_doSimulate : zM := (yL_doSimulate, cL_doSimulate, 5, (some FieldType.int), [((0 : Nat), (6 : Nat), (7 : Nat), (13 : Nat))])
theorem mwwL_doSimulate : Cond.initialized yL_doSimulate.cls ∈ gw := gw_at 5 (by decide +kernel) rfl
theorem mwcL_doSimulate : Cond.codeWith yL_doSimulate cL_doSimulate 5 (some FieldType.int) [((0 : Nat), (6 : Nat), (7 : Nat), (13 : Nat))] ∈ gw := gw_at 735 (by decide +kernel) rfl
theorem msL_doSimulate : Cond.static yL_doSimulate ∈ gw := gw_at 734 (by decide +kernel) rfl
abbrev mX4_simulate : zM := (yX4_simulate, cX4_simulate, 7, (some FieldType.int), [])
theorem mwX4_simulate : z_mw yX4_simulate cX4_simulate 7 (some FieldType.int) 2 := ⟨gw_at 6 (by decide +kernel) rfl, gw_at 739 (by decide +kernel) rfl, (by decide +kernel), by decide⟩
theorem miX4_simulate : z_mi yX4_simulate := ⟨gw_at 737 (by decide +kernel) rfl, gw_at 738 (by decide +kernel) rfl⟩
abbrev mX4_takeTurn : zM := (yX4_takeTurn, cX4_takeTurn, 3, (none), [])
theorem mwX4_takeTurn : z_mw yX4_takeTurn cX4_takeTurn 3 (none) 2 := ⟨gw_at 6 (by decide +kernel) rfl, gw_at 744 (by decide +kernel) rfl, (by decide +kernel), by decide⟩
theorem msX4_takeTurn : Cond.static yX4_takeTurn ∈ gw := gw_at 743 (by decide +kernel) rfl
abbrev mL_holds : zM := (yL_holds, cL_holds, 14, (some FieldType.boolean), [])
theorem mwL_holds : z_mw yL_holds cL_holds 14 (some FieldType.boolean) 2 := ⟨gw_at 5 (by decide +kernel) rfl, gw_t4 25 rfl rfl, (by decide +kernel), by decide⟩
theorem msL_holds : Cond.static yL_holds ∈ gw := gw_at 749 (by decide +kernel) rfl
abbrev mX4_idleIn : zM := (yX4_idleIn, cX4_idleIn, 1, (some FieldType.int), [])
theorem mwX4_idleIn : z_mw yX4_idleIn cX4_idleIn 1 (some FieldType.int) 0 := ⟨gw_at 6 (by decide +kernel) rfl, gw_at 754 (by decide +kernel) rfl, (by decide +kernel), by decide⟩
theorem miX4_idleIn : z_mi yX4_idleIn := ⟨gw_at 752 (by decide +kernel) rfl, gw_at 753 (by decide +kernel) rfl⟩
abbrev mL_act : zM := (yL_act, cL_act, 5, (some FieldType.int), [])
theorem mwL_act : z_mw yL_act cL_act 5 (some FieldType.int) 2 := ⟨gw_at 5 (by decide +kernel) rfl, gw_at 757 (by decide +kernel) rfl, (by decide +kernel), by decide⟩
theorem msL_act : Cond.static yL_act ∈ gw := gw_at 756 (by decide +kernel) rfl
abbrev mL_alike : zM := (yL_alike, cL_alike, 5, (some FieldType.boolean), [])
theorem mwL_alike : z_mw yL_alike cL_alike 5 (some FieldType.boolean) 3 := ⟨gw_at 5 (by decide +kernel) rfl, gw_at 760 (by decide +kernel) rfl, (by decide +kernel), by decide⟩
theorem msL_alike : Cond.static yL_alike ∈ gw := gw_at 759 (by decide +kernel) rfl
abbrev mL_ticks : zM := (yL_ticks, cL_ticks, 16, (some FieldType.boolean), [])
theorem mwL_ticks : z_mw yL_ticks cL_ticks 16 (some FieldType.boolean) 3 := ⟨gw_at 5 (by decide +kernel) rfl, gw_at 763 (by decide +kernel) rfl, (by decide +kernel), by decide⟩
theorem msL_ticks : Cond.static yL_ticks ∈ gw := gw_at 762 (by decide +kernel) rfl
abbrev mL_thrown : zM := (yL_thrown, cL_thrown, 1, (some FieldType.boolean), [])
theorem mwL_thrown : z_mw yL_thrown cL_thrown 1 (some FieldType.boolean) 1 := ⟨gw_at 5 (by decide +kernel) rfl, gw_at 766 (by decide +kernel) rfl, (by decide +kernel), by decide⟩
theorem msL_thrown : Cond.static yL_thrown ∈ gw := gw_at 765 (by decide +kernel) rfl
abbrev mL_loses : zM := (yL_loses, cL_loses, 12, (some FieldType.boolean), [])
theorem mwL_loses : z_mw yL_loses cL_loses 12 (some FieldType.boolean) 3 := ⟨gw_at 5 (by decide +kernel) rfl, gw_at 769 (by decide +kernel) rfl, (by decide +kernel), by decide⟩
theorem msL_loses : Cond.static yL_loses ∈ gw := gw_at 768 (by decide +kernel) rfl
theorem lk_L_181 : Cond.methodLink RL 181 yX4_init ∈ gw := gw_at 20 (by decide +kernel) rfl
theorem lk_X4_1 : Cond.methodLink RX4 1 Lib.objectInit ∈ gw := gw_at 23 (by decide +kernel) rfl
theorem lk_X4_9 : Cond.methodLinkNest RX4 9 yX3_init RX4 ∈ z_nst := z_nst_at 28 (by decide +kernel) rfl
theorem lk_X3_3 : Cond.methodLink RX3 3 Lib.objectInit ∈ gw := gw_at 31 (by decide +kernel) rfl
theorem lk_X4_18 : Cond.methodLink RX4 18 yX1_init ∈ gw := gw_at 60 (by decide +kernel) rfl
theorem lk_X1_3 : Cond.methodLink RX1 3 Lib.objectInit ∈ gw := gw_at 63 (by decide +kernel) rfl
theorem lk_X1_25 : Cond.methodLinkNest RX1 25 yX2_init RX4 ∈ z_nst := z_nst_at 67 (by decide +kernel) rfl
theorem lk_X2_3 : Cond.methodLink RX2 3 Lib.objectInit ∈ gw := gw_at 70 (by decide +kernel) rfl
theorem lk_X1_26 : Cond.methodLink RX1 26 yX1_reset ∈ gw := gw_at 106 (by decide +kernel) rfl
theorem lk_X1_48 : Cond.methodLink RX1 48 yX1_endJob ∈ gw := gw_at 112 (by decide +kernel) rfl
theorem lk_X4_28 : Cond.methodLink RX4 28 yX0_init ∈ gw := gw_at 161 (by decide +kernel) rfl
theorem lk_X0_3 : Cond.methodLink RX0 3 Lib.objectInit ∈ gw := gw_at 164 (by decide +kernel) rfl
theorem lk_X0_24 : Cond.methodLink RX0 24 yX1_init ∈ gw := gw_at 167 (by decide +kernel) rfl
theorem lk_L_164 : Cond.methodLink RL 164 yL_call ∈ gw := gw_at 198 (by decide +kernel) rfl
theorem lk_L_93 : Cond.methodLink RL 93 yL_tryAppend ∈ gw := gw_at 201 (by decide +kernel) rfl
theorem lk_L_20 : Cond.methodLink RL 20 yX4_append ∈ gw := gw_at 206 (by decide +kernel) rfl
theorem lk_X4_41 : Cond.methodLink RX4 41 yX4_isBetween ∈ gw := gw_at 210 (by decide +kernel) rfl
theorem lk_X4_48 : Cond.methodLink RX4 48 yX3_isFull ∈ gw := gw_at 276 (by decide +kernel) rfl
theorem lk_X4_55 : Cond.methodLink RX4 55 yX3_put ∈ gw := gw_at 295 (by decide +kernel) rfl
theorem lk_X3_35 : Cond.methodLinkNest RX3 35 yX4_isBetween RX4 ∈ z_nst := z_nst_at 299 (by decide +kernel) rfl
theorem lk_L_99 : Cond.methodLink RL 99 yL_tryLoad ∈ gw := gw_at 302 (by decide +kernel) rfl
theorem lk_L_27 : Cond.methodLink RL 27 yX4_load ∈ gw := gw_at 305 (by decide +kernel) rfl
theorem lk_X4_63 : Cond.methodLink RX4 63 yX3_firstError ∈ gw := gw_at 309 (by decide +kernel) rfl
theorem lk_X3_39 : Cond.methodLink RX3 39 yX3_beginReading ∈ gw := gw_at 313 (by decide +kernel) rfl
theorem lk_X3_42 : Cond.methodLink RX3 42 yX3_readCommand ∈ gw := gw_at 317 (by decide +kernel) rfl
theorem lk_X3_46 : Cond.methodLink RX3 46 yX3_isInText ∈ gw := gw_at 321 (by decide +kernel) rfl
theorem lk_X3_50 : Cond.methodLink RX3 50 yX3_readNumber ∈ gw := gw_at 325 (by decide +kernel) rfl
theorem lk_X3_54 : Cond.methodLink RX3 54 yX3_digitAt ∈ gw := gw_at 329 (by decide +kernel) rfl
theorem lk_X4_66 : Cond.methodLink RX4 66 yX1_reset ∈ gw := gw_at 333 (by decide +kernel) rfl
theorem lk_X4_69 : Cond.methodLink RX4 69 yX0_forgetAll ∈ gw := gw_at 334 (by decide +kernel) rfl
theorem lk_X4_72 : Cond.methodLink RX4 72 yX3_beginReading ∈ gw := gw_at 338 (by decide +kernel) rfl
theorem lk_X4_75 : Cond.methodLink RX4 75 yX3_readCommand ∈ gw := gw_at 339 (by decide +kernel) rfl
theorem lk_X4_88 : Cond.methodLink RX4 88 yX4_obeyTextCommand ∈ gw := gw_at 340 (by decide +kernel) rfl
theorem lk_X4_190 : Cond.methodLink RX4 190 yX1_addTask ∈ gw := gw_at 343 (by decide +kernel) rfl
theorem lk_X1_72 : Cond.methodLink RX1 72 yX1_hasRoomForTask ∈ gw := gw_at 347 (by decide +kernel) rfl
theorem lk_X1_68 : Cond.methodLinkNest RX1 68 yX4_isBetween RX4 ∈ z_nst := z_nst_at 351 (by decide +kernel) rfl
theorem lk_X1_76 : Cond.methodLink RX1 76 yX2_begin ∈ gw := gw_at 352 (by decide +kernel) rfl
theorem lk_X2_27 : Cond.methodLink RX2 27 yX2_switchOff ∈ gw := gw_at 356 (by decide +kernel) rfl
theorem lk_X4_201 : Cond.methodLink RX4 201 yX1_startJob ∈ gw := gw_at 360 (by decide +kernel) rfl
theorem lk_X1_64 : Cond.methodLink RX1 64 yX1_taskNumbered ∈ gw := gw_at 364 (by decide +kernel) rfl
theorem lk_X1_153 : Cond.methodLink RX1 153 yX1_canBring ∈ gw := gw_at 368 (by decide +kernel) rfl
theorem lk_X1_100 : Cond.methodLinkNest RX1 100 yX4_isStripe RX4 ∈ z_nst := z_nst_at 372 (by decide +kernel) rfl
theorem lk_X1_147 : Cond.methodLink RX1 147 yX1_isIdle ∈ gw := gw_at 375 (by decide +kernel) rfl
theorem lk_X1_116 : Cond.methodLink RX1 116 yX1_takerOf ∈ gw := gw_at 379 (by decide +kernel) rfl
theorem lk_X1_103 : Cond.methodLink RX1 103 yX2_takes ∈ gw := gw_at 383 (by decide +kernel) rfl
theorem lk_X1_113 : Cond.methodLink RX1 113 yX1_isGood ∈ gw := gw_at 387 (by decide +kernel) rfl
theorem lk_X1_141 : Cond.methodLink RX1 141 yX2_takesOneOf ∈ gw := gw_at 391 (by decide +kernel) rfl
theorem lk_X4_279 : Cond.methodLink RX4 279 yX4_tryToMakeBad ∈ gw := gw_at 395 (by decide +kernel) rfl
theorem lk_X4_144 : Cond.methodLink RX4 144 yX4_isStripe ∈ gw := gw_at 398 (by decide +kernel) rfl
theorem lk_X4_210 : Cond.methodLink RX4 210 yX1_makeBad ∈ gw := gw_at 399 (by decide +kernel) rfl
theorem lk_X1_144 : Cond.methodLink RX1 144 yX1_victimOf ∈ gw := gw_at 403 (by decide +kernel) rfl
theorem lk_X1_120 : Cond.methodLink RX1 120 yX1_moverTo ∈ gw := gw_at 407 (by decide +kernel) rfl
theorem lk_X1_106 : Cond.methodLink RX1 106 yX1_jobOwner ∈ gw := gw_at 411 (by decide +kernel) rfl
theorem lk_X1_96 : Cond.methodLink RX1 96 yX1_isTaskInStatus ∈ gw := gw_at 415 (by decide +kernel) rfl
theorem lk_X1_150 : Cond.methodLink RX1 150 yX2_fallBack ∈ gw := gw_at 419 (by decide +kernel) rfl
theorem lk_X4_213 : Cond.methodLink RX4 213 yX1_makeGood ∈ gw := gw_at 423 (by decide +kernel) rfl
theorem lk_X4_207 : Cond.methodLink RX4 207 yX1_stopTask ∈ gw := gw_at 427 (by decide +kernel) rfl
theorem lk_X1_83 : Cond.methodLink RX1 83 yX1_canStop ∈ gw := gw_at 431 (by decide +kernel) rfl
theorem lk_X1_87 : Cond.methodLink RX1 87 yX2_saveValue ∈ gw := gw_at 435 (by decide +kernel) rfl
theorem lk_X1_90 : Cond.methodLink RX1 90 yX2_switchOff ∈ gw := gw_at 439 (by decide +kernel) rfl
theorem lk_X4_216 : Cond.methodLink RX4 216 yX1_passTicks ∈ gw := gw_at 440 (by decide +kernel) rfl
theorem lk_X1_159 : Cond.methodLink RX1 159 yX1_passTick ∈ gw := gw_at 444 (by decide +kernel) rfl
theorem lk_X1_162 : Cond.methodLink RX1 162 yX1_advanceJob ∈ gw := gw_at 448 (by decide +kernel) rfl
theorem lk_X1_165 : Cond.methodLink RX1 165 yX2_work ∈ gw := gw_at 452 (by decide +kernel) rfl
theorem lk_L_103 : Cond.methodLink RL 103 yL_tryAbout ∈ gw := gw_at 456 (by decide +kernel) rfl
theorem lk_L_31 : Cond.methodLink RL 31 yX4_about ∈ gw := gw_at 459 (by decide +kernel) rfl
theorem lk_X4_98 : Cond.methodLink RX4 98 yX1_countRunning ∈ gw := gw_at 463 (by decide +kernel) rfl
theorem lk_X4_101 : Cond.methodLink RX4 101 yX1_countFree ∈ gw := gw_at 467 (by decide +kernel) rfl
theorem lk_X1_123 : Cond.methodLink RX1 123 yX1_isFree ∈ gw := gw_at 471 (by decide +kernel) rfl
theorem lk_X4_104 : Cond.methodLink RX4 104 yX1_longestFreeRow ∈ gw := gw_at 475 (by decide +kernel) rfl
theorem lk_X1_126 : Cond.methodLink RX1 126 yX1_freeRowFrom ∈ gw := gw_at 479 (by decide +kernel) rfl
theorem lk_X4_107 : Cond.methodLink RX4 107 yX1_countBad ∈ gw := gw_at 486 (by decide +kernel) rfl
theorem lk_L_106 : Cond.methodLink RL 106 yL_tryTask ∈ gw := gw_at 490 (by decide +kernel) rfl
theorem lk_L_34 : Cond.methodLink RL 34 yX4_task ∈ gw := gw_at 494 (by decide +kernel) rfl
theorem lk_X4_119 : Cond.methodLink RX4 119 yX1_taskNumbered ∈ gw := gw_at 498 (by decide +kernel) rfl
theorem lk_L_110 : Cond.methodLink RL 110 yL_tryStripe ∈ gw := gw_at 515 (by decide +kernel) rfl
theorem lk_L_41 : Cond.methodLink RL 41 yX4_stripe ∈ gw := gw_at 518 (by decide +kernel) rfl
theorem lk_X4_148 : Cond.methodLink RX4 148 yX1_takerOf ∈ gw := gw_at 522 (by decide +kernel) rfl
theorem lk_X4_152 : Cond.methodLink RX4 152 yX1_moverTo ∈ gw := gw_at 523 (by decide +kernel) rfl
theorem lk_X4_155 : Cond.methodLink RX4 155 yX1_isBad ∈ gw := gw_at 524 (by decide +kernel) rfl
theorem lk_L_113 : Cond.methodLink RL 113 yL_tryJob ∈ gw := gw_at 528 (by decide +kernel) rfl
theorem lk_L_44 : Cond.methodLink RL 44 yX4_job ∈ gw := gw_at 531 (by decide +kernel) rfl
theorem lk_X4_158 : Cond.methodLink RX4 158 yX1_isIdle ∈ gw := gw_at 535 (by decide +kernel) rfl
theorem lk_L_116 : Cond.methodLink RL 116 yL_trySetting ∈ gw := gw_at 536 (by decide +kernel) rfl
theorem lk_L_47 : Cond.methodLink RL 47 yX4_setting ∈ gw := gw_at 539 (by decide +kernel) rfl
theorem lk_X4_170 : Cond.methodLink RX4 170 yX4_isSetting ∈ gw := gw_at 543 (by decide +kernel) rfl
theorem lk_L_119 : Cond.methodLink RL 119 yL_tryAdd ∈ gw := gw_at 546 (by decide +kernel) rfl
theorem lk_L_50 : Cond.methodLink RL 50 yX4_add ∈ gw := gw_at 549 (by decide +kernel) rfl
theorem lk_X4_177 : Cond.methodLink RX4 177 yX4_isWidth ∈ gw := gw_at 553 (by decide +kernel) rfl
theorem lk_X4_180 : Cond.methodLink RX4 180 yX4_isValue ∈ gw := gw_at 556 (by decide +kernel) rfl
theorem lk_X4_183 : Cond.methodLink RX4 183 yX1_hasRoomForTask ∈ gw := gw_at 559 (by decide +kernel) rfl
theorem lk_X4_186 : Cond.methodLink RX4 186 yX0_remember ∈ gw := gw_at 560 (by decide +kernel) rfl
theorem lk_X0_25 : Cond.methodLink RX0 25 yX0_placeOf ∈ gw := gw_at 564 (by decide +kernel) rfl
theorem lk_X0_29 : Cond.methodLink RX0 29 yX1_copyFrom ∈ gw := gw_at 568 (by decide +kernel) rfl
theorem lk_X1_51 : Cond.methodLink RX1 51 yX2_copyFrom ∈ gw := gw_at 572 (by decide +kernel) rfl
theorem lk_L_122 : Cond.methodLink RL 122 yL_tryBring ∈ gw := gw_at 576 (by decide +kernel) rfl
theorem lk_L_53 : Cond.methodLink RL 53 yX4_bring ∈ gw := gw_at 579 (by decide +kernel) rfl
theorem lk_X4_194 : Cond.methodLink RX4 194 yX1_hasTask ∈ gw := gw_at 583 (by decide +kernel) rfl
theorem lk_X4_197 : Cond.methodLink RX4 197 yX1_canBring ∈ gw := gw_at 587 (by decide +kernel) rfl
theorem lk_L_125 : Cond.methodLink RL 125 yL_tryStop ∈ gw := gw_at 588 (by decide +kernel) rfl
theorem lk_L_56 : Cond.methodLink RL 56 yX4_stop ∈ gw := gw_at 591 (by decide +kernel) rfl
theorem lk_X4_204 : Cond.methodLink RX4 204 yX1_canStop ∈ gw := gw_at 595 (by decide +kernel) rfl
theorem lk_L_128 : Cond.methodLink RL 128 yL_tryBad ∈ gw := gw_at 596 (by decide +kernel) rfl
theorem lk_L_59 : Cond.methodLink RL 59 yX4_turnBad ∈ gw := gw_at 599 (by decide +kernel) rfl
theorem lk_L_131 : Cond.methodLink RL 131 yL_tryMend ∈ gw := gw_at 603 (by decide +kernel) rfl
theorem lk_L_62 : Cond.methodLink RL 62 yX4_mend ∈ gw := gw_at 606 (by decide +kernel) rfl
theorem lk_L_134 : Cond.methodLink RL 134 yL_tryRun ∈ gw := gw_at 610 (by decide +kernel) rfl
theorem lk_L_65 : Cond.methodLink RL 65 yX4_run ∈ gw := gw_at 613 (by decide +kernel) rfl
theorem lk_L_137 : Cond.methodLink RL 137 yL_tryLay ∈ gw := gw_at 617 (by decide +kernel) rfl
theorem lk_L_68 : Cond.methodLink RL 68 yX4_set ∈ gw := gw_at 620 (by decide +kernel) rfl
theorem lk_L_140 : Cond.methodLink RL 140 yL_tryUndo ∈ gw := gw_at 628 (by decide +kernel) rfl
theorem lk_L_71 : Cond.methodLink RL 71 yX4_undo ∈ gw := gw_at 631 (by decide +kernel) rfl
theorem lk_X4_228 : Cond.methodLink RX4 228 yX0_takeBack ∈ gw := gw_at 635 (by decide +kernel) rfl
theorem lk_L_143 : Cond.methodLink RL 143 yL_tryGap ∈ gw := gw_at 639 (by decide +kernel) rfl
theorem lk_L_74 : Cond.methodLink RL 74 yX4_bestGap ∈ gw := gw_at 642 (by decide +kernel) rfl
theorem lk_X4_232 : Cond.methodLink RX4 232 yX1_shortestGap ∈ gw := gw_at 646 (by decide +kernel) rfl
theorem lk_L_146 : Cond.methodLink RL 146 yL_tryWindow ∈ gw := gw_at 650 (by decide +kernel) rfl
theorem lk_L_77 : Cond.methodLink RL 77 yX4_window ∈ gw := gw_at 653 (by decide +kernel) rfl
theorem lk_X4_235 : Cond.methodLink RX4 235 yX1_easiestWindow ∈ gw := gw_at 657 (by decide +kernel) rfl
theorem lk_X1_135 : Cond.methodLink RX1 135 yX1_canBeMadeFree ∈ gw := gw_at 661 (by decide +kernel) rfl
theorem lk_X1_138 : Cond.methodLink RX1 138 yX1_widthInTheWay ∈ gw := gw_at 665 (by decide +kernel) rfl
theorem lk_X4_238 : Cond.methodLink RX4 238 yX1_widthInTheWay ∈ gw := gw_at 669 (by decide +kernel) rfl
theorem lk_L_149 : Cond.methodLink RL 149 yL_tryComing ∈ gw := gw_at 670 (by decide +kernel) rfl
theorem lk_L_80 : Cond.methodLink RL 80 yX4_coming ∈ gw := gw_at 673 (by decide +kernel) rfl
theorem lk_X4_244 : Cond.methodLink RX4 244 yX1_copyFrom ∈ gw := gw_at 677 (by decide +kernel) rfl
theorem lk_X4_247 : Cond.methodLink RX4 247 yX1_passTick ∈ gw := gw_at 678 (by decide +kernel) rfl
theorem lk_L_153 : Cond.methodLink RL 153 yL_tryLost ∈ gw := gw_at 679 (by decide +kernel) rfl
theorem lk_L_84 : Cond.methodLink RL 84 yX4_lost ∈ gw := gw_at 682 (by decide +kernel) rfl
theorem lk_X4_250 : Cond.methodLink RX4 250 yX1_victimOf ∈ gw := gw_at 686 (by decide +kernel) rfl
theorem lk_L_156 : Cond.methodLink RL 156 yL_tryKeep ∈ gw := gw_at 687 (by decide +kernel) rfl
theorem lk_L_87 : Cond.methodLink RL 87 yX4_save ∈ gw := gw_at 690 (by decide +kernel) rfl
theorem lk_L_159 : Cond.methodLink RL 159 yL_tryBack ∈ gw := gw_at 694 (by decide +kernel) rfl
theorem lk_L_90 : Cond.methodLink RL 90 yX4_restore ∈ gw := gw_at 697 (by decide +kernel) rfl
theorem lk_L_182 : Cond.methodLink RL 182 yL_cell ∈ gw := gw_at 701 (by decide +kernel) rfl
theorem lk_L_190 : Cond.methodLink RL 190 yL_refuses ∈ gw := gw_at 706 (by decide +kernel) rfl
theorem lk_L_168 : Cond.methodLink RL 168 yL_doScript ∈ gw := gw_at 709 (by decide +kernel) rfl
theorem lk_L_7 : Cond.methodLink RL 7 yX4_runScript ∈ gw := gw_at 712 (by decide +kernel) rfl
theorem lk_X4_256 : Cond.methodLink RX4 256 yX4_withoutLastGroups ∈ gw := gw_at 716 (by decide +kernel) rfl
theorem lk_X4_262 : Cond.methodLink RX4 262 yX4_obeyGroup ∈ gw := gw_at 720 (by decide +kernel) rfl
theorem lk_X4_282 : Cond.methodLink RX4 282 yX1_isTaskInStatus ∈ gw := gw_at 723 (by decide +kernel) rfl
theorem lk_X4_285 : Cond.methodLink RX4 285 yX1_isTaskAtValue ∈ gw := gw_at 724 (by decide +kernel) rfl
theorem lk_X4_241 : Cond.methodLink RX4 241 yX1_ticksUntilIdle ∈ gw := gw_at 728 (by decide +kernel) rfl
theorem lk_L_174 : Cond.methodLink RL 174 yL_doSimulate ∈ gw := gw_at 733 (by decide +kernel) rfl
theorem lk_L_16 : Cond.methodLink RL 16 yX4_simulate ∈ gw := gw_at 736 (by decide +kernel) rfl
theorem lk_X4_270 : Cond.methodLink RX4 270 yX4_takeTurn ∈ gw := gw_at 742 (by decide +kernel) rfl
theorem lk_L_198 : Cond.methodLink RL 198 yL_holds ∈ gw := gw_at 748 (by decide +kernel) rfl
theorem lk_L_178 : Cond.methodLink RL 178 yX4_idleIn ∈ gw := gw_at 751 (by decide +kernel) rfl
theorem lk_L_186 : Cond.methodLink RL 186 yL_act ∈ gw := gw_at 755 (by decide +kernel) rfl
theorem lk_L_194 : Cond.methodLink RL 194 yL_alike ∈ gw := gw_at 758 (by decide +kernel) rfl
theorem lk_L_201 : Cond.methodLink RL 201 yL_ticks ∈ gw := gw_at 761 (by decide +kernel) rfl
theorem lk_L_207 : Cond.methodLink RL 207 yL_thrown ∈ gw := gw_at 764 (by decide +kernel) rfl
theorem lk_L_204 : Cond.methodLink RL 204 yL_loses ∈ gw := gw_at 767 (by decide +kernel) rfl
