/-! WHAT THE TABLES SAY, by place; the shapes of the cells; a row of the judgement a field (written by wip/whole/mk_words.py) -/
theorem gw_list (ws : List Cond) (ps : List Nat) (h : ps.map (fun i => lw_tbl[i]?) = ws.map some) (g : ws.all goodWord = true) : ∀ w ∈ ws, w ∈ gw := by
  intro w hw
  refine List.mem_filter.mpr ⟨?_, List.all_eq_true.mp g w hw⟩
  have h1 : some w ∈ ps.map (fun i => lw_tbl[i]?) := by rw [h]; exact List.mem_map.mpr ⟨w, hw, rfl⟩
  obtain ⟨i, -, hi⟩ := List.mem_map.mp h1
  exact List.mem_of_getElem? hi
def z_b (c : Bool) : Int32 := if c then 1 else 0
theorem z_b_nar (c : Bool) : narrow .boolean (.int (z_b c)) = .int (z_b c) := by cases c <;> rfl
theorem ac_int : Cond.arrayClass .int ∈ gw := gw_at 113 (by decide +kernel) rfl
theorem ac_boolean : Cond.arrayClass .boolean ∈ gw := gw_at 112 (by decide +kernel) rfl
theorem ac_char : Cond.arrayClass .char ∈ gw := gw_at 65 (by decide +kernel) rfl
theorem ac_long : Cond.arrayClass .long ∈ gw := gw_at 1041 (by decide +kernel) rfl
theorem ini_X0 : Cond.initialized RX0 ∈ gw := gw_at 17 (by decide +kernel) rfl
theorem ins_X0 : Cond.instantiable RX0 3 ∈ gw := gw_at 168 (by decide +kernel) rfl
theorem ini_X1 : Cond.initialized RX1 ∈ gw := gw_at 15 (by decide +kernel) rfl
theorem ins_X1 : Cond.instantiable RX1 11 ∈ gw := gw_at 67 (by decide +kernel) rfl
theorem ini_X2 : Cond.initialized RX2 ∈ gw := gw_at 16 (by decide +kernel) rfl
theorem ins_X2 : Cond.instantiable RX2 7 ∈ gw := gw_at 74 (by decide +kernel) rfl
theorem ini_X3 : Cond.initialized RX3 ∈ gw := gw_at 14 (by decide +kernel) rfl
theorem ins_X3 : Cond.instantiable RX3 7 ∈ gw := gw_at 35 (by decide +kernel) rfl
theorem ini_X4 : Cond.initialized RX4 ∈ gw := gw_at 13 (by decide +kernel) rfl
theorem ins_X4 : Cond.instantiable RX4 6 ∈ gw := gw_at 27 (by decide +kernel) rfl
theorem ini_X5 : Cond.initialized RX5 ∈ gw := gw_at 18 (by decide +kernel) rfl
theorem ins_X5 : Cond.instantiable RX5 11 ∈ gw := gw_at 758 (by decide +kernel) rfl
theorem ini_L : Cond.initialized RL ∈ gw := gw_at 12 (by decide +kernel) rfl
theorem ini_IAE : Cond.initialized "java/lang/IllegalArgumentException" ∈ gw := gw_at 22 (by decide +kernel) rfl
theorem cst_IAE : Cond.castable "java/lang/IllegalArgumentException" "java/lang/IllegalArgumentException" ∈ z_nst := z_nst_at 273 (by decide +kernel) rfl
theorem ini_ISE : Cond.initialized "java/lang/IllegalStateException" ∈ gw := gw_at 23 (by decide +kernel) rfl
theorem cst_ISE : Cond.castable "java/lang/IllegalStateException" "java/lang/IllegalStateException" ∈ z_nst := z_nst_at 340 (by decide +kernel) rfl
theorem ini_IOOBE : Cond.initialized "java/lang/IndexOutOfBoundsException" ∈ gw := gw_at 25 (by decide +kernel) rfl
theorem cst_IOOBE : Cond.castable "java/lang/IndexOutOfBoundsException" "java/lang/IndexOutOfBoundsException" ∈ z_nst := z_nst_at 524 (by decide +kernel) rfl
theorem cl_L_8 : Cond.classLink RL 8 RX4 ∈ gw := gw_at 26 (by decide +kernel) rfl
theorem cl_X4_7 : Cond.classLink RX4 7 RX3 ∈ gw := gw_at 34 (by decide +kernel) rfl
theorem cl_X4_16 : Cond.classLink RX4 16 RX1 ∈ gw := gw_at 66 (by decide +kernel) rfl
theorem cl_X1_9 : Cond.classLink RX1 9 RX2 ∈ gw := gw_at 72 (by decide +kernel) rfl
theorem cl_X4_26 : Cond.classLink RX4 26 RX0 ∈ gw := gw_at 167 (by decide +kernel) rfl
theorem cl_X0_9 : Cond.classLink RX0 9 RX1 ∈ gw := gw_at 173 (by decide +kernel) rfl
theorem cl_L_13 : Cond.classLink RL 13 "java/lang/IllegalArgumentException" ∈ gw := gw_at 264 (by decide +kernel) rfl
theorem cl_L_15 : Cond.classLink RL 15 "java/lang/IllegalStateException" ∈ gw := gw_at 265 (by decide +kernel) rfl
theorem cl_X4_45 : Cond.classLink RX4 45 "java/lang/IllegalArgumentException" ∈ gw := gw_at 271 (by decide +kernel) rfl
theorem cl_X4_52 : Cond.classLink RX4 52 "java/lang/IllegalStateException" ∈ gw := gw_at 338 (by decide +kernel) rfl
theorem cl_L_28 : Cond.classLink RL 28 "java/lang/IndexOutOfBoundsException" ∈ gw := gw_at 516 (by decide +kernel) rfl
theorem cl_X4_123 : Cond.classLink RX4 123 "java/lang/IndexOutOfBoundsException" ∈ gw := gw_at 522 (by decide +kernel) rfl
theorem cn_X4_260 : Cond.constantLong RX4 260 (100000) ∈ gw := gw_at 719 (by decide +kernel) rfl
theorem cn_X4_266 : Cond.constantLong RX4 266 (6364136223846793005) ∈ gw := gw_at 735 (by decide +kernel) rfl
theorem cn_X4_268 : Cond.constantLong RX4 268 (1442695040888963407) ∈ gw := gw_at 736 (by decide +kernel) rfl
theorem cl_L_91 : Cond.classLink RL 91 RX5 ∈ gw := gw_at 757 (by decide +kernel) rfl
theorem cn_X5_94 : Cond.constantLong RX5 94 (255) ∈ gw := gw_at 808 (by decide +kernel) rfl
theorem cn_X5_88 : Cond.constantLong RX5 88 (9) ∈ gw := gw_at 836 (by decide +kernel) rfl
theorem cn_X5_41 : Cond.constantLong RX5 41 (11) ∈ gw := gw_at 856 (by decide +kernel) rfl
theorem cn_X5_155 : Cond.constantLong RX5 155 (8) ∈ gw := gw_at 913 (by decide +kernel) rfl
theorem cn_X5_163 : Cond.constantLong RX5 163 (5) ∈ gw := gw_at 927 (by decide +kernel) rfl
theorem cn_X5_165 : Cond.constantLong RX5 165 (2) ∈ gw := gw_at 932 (by decide +kernel) rfl
theorem cn_X5_167 : Cond.constantLong RX5 167 (6) ∈ gw := gw_at 945 (by decide +kernel) rfl
theorem cn_X5_169 : Cond.constantLong RX5 169 (996) ∈ gw := gw_at 946 (by decide +kernel) rfl
theorem cn_X5_174 : Cond.constantLong RX5 174 (60) ∈ gw := gw_at 971 (by decide +kernel) rfl
theorem cn_X5_90 : Cond.constantLong RX5 90 (20) ∈ gw := gw_at 979 (by decide +kernel) rfl
theorem cn_X5_92 : Cond.constantLong RX5 92 (99) ∈ gw := gw_at 980 (by decide +kernel) rfl
theorem cn_X5_180 : Cond.constantLong RX5 180 (12) ∈ gw := gw_at 993 (by decide +kernel) rfl
theorem cn_X5_188 : Cond.constantLong RX5 188 (200) ∈ gw := gw_at 1008 (by decide +kernel) rfl
theorem cn_X5_190 : Cond.constantLong RX5 190 (100000) ∈ gw := gw_at 1017 (by decide +kernel) rfl
theorem cn_X5_192 : Cond.constantLong RX5 192 (3) ∈ gw := gw_at 1018 (by decide +kernel) rfl
theorem cn_X5_197 : Cond.constantLong RX5 197 (6364136223846793005) ∈ gw := gw_at 1027 (by decide +kernel) rfl
theorem cn_X5_199 : Cond.constantLong RX5 199 (1442695040888963407) ∈ gw := gw_at 1028 (by decide +kernel) rfl
theorem cn_L_172 : Cond.constantLong RL 172 (4294967295) ∈ gw := gw_at 1040 (by decide +kernel) rfl
theorem oi_i : Cond.instanceMethod Lib.objectInit ∈ gw := gw_at 32 (by decide +kernel) rfl
theorem oi_c : Cond.code Lib.objectInit ⟨#[0xb1]⟩ 1 none ∈ gw := gw_at 33 (by decide +kernel) rfl
theorem in_X0 : ∀ w ∈ u_ws RX0 TX0 3, w ∈ gw := gw_list _ [180, 182, 184] (by decide +kernel) (by decide +kernel)
theorem in_X1 : ∀ w ∈ u_ws RX1 TX1 11, w ∈ gw := gw_list _ [144, 146, 148, 150, 152, 154, 156, 158, 160, 162, 164] (by decide +kernel) (by decide +kernel)
theorem in_X2 : ∀ w ∈ u_ws RX2 TX2 7, w ∈ gw := gw_list _ [97, 99, 101, 103, 105, 107, 109] (by decide +kernel) (by decide +kernel)
theorem in_X3 : ∀ w ∈ u_ws RX3 TX3 7, w ∈ gw := gw_list _ [50, 52, 54, 56, 58, 60, 62] (by decide +kernel) (by decide +kernel)
theorem in_X4 : ∀ w ∈ u_ws RX4 TX4 6, w ∈ gw := gw_list _ [193, 195, 197, 199, 201, 203] (by decide +kernel) (by decide +kernel)
theorem in_X5 : ∀ w ∈ u_ws RX5 TX5 11, w ∈ gw := gw_list _ [777, 779, 781, 783, 785, 787, 789, 791, 793, 795, 797] (by decide +kernel) (by decide +kernel)
def sHi (a : Nat) : (Nat → Int32) → va_E := fun i => .inr (0, [.ref (a + 1), .int (i 1), .int (i 2)])
def sHi0 : (Nat → Int32) → va_E := fun i => .inr (0, [.null, .int (i 1), .int (i 2)])
def sSt (a : Nat) : (Nat → Int32) → va_E := fun i => .inr (1, [.ref (a + 1), .ref (a + 2), .ref (a + 3), .int (i 3), .int (i 4), .int (i 5), .int (i 6), .int (i 7), .int (i 8), .int (i 9), .int (i 10)])
def sSt0 : (Nat → Int32) → va_E := fun i => .inr (1, [.null, .null, .null, .int (i 3), .int (i 4), .int (i 5), .int (i 6), .int (i 7), .int (i 8), .int (i 9), .int (i 10)])
def sTk : (Nat → Int32) → va_E := fun i => .inr (2, [.int (i 0), .int (i 1), .int (i 2), .int (i 3), .int (i 4), .int (i 5), .int (i 6)])
def sTx (a : Nat) : (Nat → Int32) → va_E := fun i => .inr (3, [.ref (a + 1), .int (i 1), .int (i 2), .int (i 3), .int (i 4), .int (i 5), .int (i 6)])
def sTx0 : (Nat → Int32) → va_E := fun i => .inr (3, [.null, .int (i 1), .int (i 2), .int (i 3), .int (i 4), .int (i 5), .int (i 6)])
def sSk (a : Nat) : (Nat → Int32) → va_E := fun _ => .inr (4, [.ref (a + 1), .ref (a + 3), .ref (a + 13), .ref (a + 23), .ref (a + 165), .ref (a + 166)])
def sSk0 : (Nat → Int32) → va_E := fun _ => .inr (4, [.null, .null, .null, .null, .null, .null])
def sMd (a : Nat) : (Nat → Int32) → va_E := fun i => .inr (5, [.int (i 0), .ref (a + 1), .int (i 2), .ref (a + 2), .ref (a + 3), .ref (a + 4), .int (i 6), .ref (a + 5), .ref (a + 6), .int (i 9), .int (i 10)])
def sMd0 : (Nat → Int32) → va_E := fun i => .inr (5, [.int (i 0), .null, .int (i 2), .null, .null, .null, .int (i 6), .null, .null, .int (i 9), .int (i 10)])
section ZFIELDS
variable {E : zE} {l : Launch} {y : MethodName} {cc : ByteArray} {nL : Nat} {ret : Option FieldType} {hh : List (Nat × Nat × Nat × Nat)} {R : Room} {mc ms : Nat} {Q : zQ} {k n : Nat} {G : zG} {I : zI} {sz pc pc' : Nat} {lv : List (Option Value)} {st : List Value} {a : Nat}
theorem fl_X3_9 : Cond.fieldLink RX3 9 (TX3 0).1 (TX3 0).2.1 (TX3 0).2.2.1 ∈ gw := gw_at 40 (by decide +kernel) rfl
/-- StripeTasks$Text.characters -/
theorem g_X3_9 (hy : y.cls = RX3) (hd : decode cc pc = .ok (.getfield 9, 3)) (hx : (a, sTx a) ∈ G) (hp : pc + 3 = pc') (h : z_V E l (y, cc, nL, ret, hh) R mc ms Q k n G I sz pc' lv (.ref (a + 1) :: st)) : z_V E l (y, cc, nL, ret, hh) R mc ms Q k n G I sz pc lv (.ref a :: st) := v_get (ci := 3) (kf := 0) hd hx rfl rfl in_X3 (by decide) (by rw [hy]; exact fl_X3_9) rfl hp h
theorem fl_X3_15 : Cond.fieldLink RX3 15 (TX3 1).1 (TX3 1).2.1 (TX3 1).2.2.1 ∈ gw := gw_at 41 (by decide +kernel) rfl
/-- StripeTasks$Text.length -/
theorem g_X3_15 (hy : y.cls = RX3) (hd : decode cc pc = .ok (.getfield 15, 3)) (hx : (a, sTx a) ∈ G) (hp : pc + 3 = pc') (h : z_V E l (y, cc, nL, ret, hh) R mc ms Q k n G I sz pc' lv (.int (I a 1) :: st)) : z_V E l (y, cc, nL, ret, hh) R mc ms Q k n G I sz pc lv (.ref a :: st) := v_get (ci := 3) (kf := 1) hd hx rfl rfl in_X3 (by decide) (by rw [hy]; exact fl_X3_15) rfl hp h
theorem p_X3_15 {x : Int32} (hy : y.cls = RX3) (hd : decode cc pc = .ok (.putfield 15, 3)) (hx : (a, sTx a) ∈ G) (hp : pc + 3 = pc') (h : z_V E l (y, cc, nL, ret, hh) R mc ms Q k n G (z_up I a 1 x) sz pc' lv st) : z_V E l (y, cc, nL, ret, hh) R mc ms Q k n G I sz pc lv (.int x :: .ref a :: st) := v_put (ci := 3) (kf := 1) (I' := z_up I a 1 x) hd hx rfl rfl in_X3 tyX3 tyX3_ok nmX3 (by decide) (by rw [hy]; exact fl_X3_15) rfl (ty := .int) (by decide +kernel) rfl rfl (by simp) (fun q h => z_up_ne I a 1 x h) (by rw [z_up_at]; rfl) hp h
theorem fl_X3_19 : Cond.fieldLink RX3 19 (TX3 2).1 (TX3 2).2.1 (TX3 2).2.2.1 ∈ gw := gw_at 42 (by decide +kernel) rfl
/-- StripeTasks$Text.at -/
theorem g_X3_19 (hy : y.cls = RX3) (hd : decode cc pc = .ok (.getfield 19, 3)) (hx : (a, sTx a) ∈ G) (hp : pc + 3 = pc') (h : z_V E l (y, cc, nL, ret, hh) R mc ms Q k n G I sz pc' lv (.int (I a 2) :: st)) : z_V E l (y, cc, nL, ret, hh) R mc ms Q k n G I sz pc lv (.ref a :: st) := v_get (ci := 3) (kf := 2) hd hx rfl rfl in_X3 (by decide) (by rw [hy]; exact fl_X3_19) rfl hp h
theorem p_X3_19 {x : Int32} (hy : y.cls = RX3) (hd : decode cc pc = .ok (.putfield 19, 3)) (hx : (a, sTx a) ∈ G) (hp : pc + 3 = pc') (h : z_V E l (y, cc, nL, ret, hh) R mc ms Q k n G (z_up I a 2 x) sz pc' lv st) : z_V E l (y, cc, nL, ret, hh) R mc ms Q k n G I sz pc lv (.int x :: .ref a :: st) := v_put (ci := 3) (kf := 2) (I' := z_up I a 2 x) hd hx rfl rfl in_X3 tyX3 tyX3_ok nmX3 (by decide) (by rw [hy]; exact fl_X3_19) rfl (ty := .int) (by decide +kernel) rfl rfl (by simp) (fun q h => z_up_ne I a 2 x h) (by rw [z_up_at]; rfl) hp h
theorem fl_X3_22 : Cond.fieldLink RX3 22 (TX3 3).1 (TX3 3).2.1 (TX3 3).2.2.1 ∈ gw := gw_at 43 (by decide +kernel) rfl
/-- StripeTasks$Text.wrong -/
theorem g_X3_22 (hy : y.cls = RX3) (hd : decode cc pc = .ok (.getfield 22, 3)) (hx : (a, sTx a) ∈ G) (hp : pc + 3 = pc') (h : z_V E l (y, cc, nL, ret, hh) R mc ms Q k n G I sz pc' lv (.int (I a 3) :: st)) : z_V E l (y, cc, nL, ret, hh) R mc ms Q k n G I sz pc lv (.ref a :: st) := v_get (ci := 3) (kf := 3) hd hx rfl rfl in_X3 (by decide) (by rw [hy]; exact fl_X3_22) rfl hp h
theorem p_X3_22 {x : Int32} (hn9 : narrow .boolean (.int x) = .int x) (hf9 : fits .boolean (.int x) = true) (hy : y.cls = RX3) (hd : decode cc pc = .ok (.putfield 22, 3)) (hx : (a, sTx a) ∈ G) (hp : pc + 3 = pc') (h : z_V E l (y, cc, nL, ret, hh) R mc ms Q k n G (z_up I a 3 x) sz pc' lv st) : z_V E l (y, cc, nL, ret, hh) R mc ms Q k n G I sz pc lv (.int x :: .ref a :: st) := v_put (ci := 3) (kf := 3) (I' := z_up I a 3 x) hd hx rfl rfl in_X3 tyX3 tyX3_ok nmX3 (by decide) (by rw [hy]; exact fl_X3_22) rfl (ty := .boolean) (by decide +kernel) hn9 hf9 (by simp) (fun q h => z_up_ne I a 3 x h) (by rw [z_up_at]; rfl) hp h
theorem fl_X3_26 : Cond.fieldLink RX3 26 (TX3 4).1 (TX3 4).2.1 (TX3 4).2.2.1 ∈ gw := gw_at 44 (by decide +kernel) rfl
/-- StripeTasks$Text.letter -/
theorem g_X3_26 (hy : y.cls = RX3) (hd : decode cc pc = .ok (.getfield 26, 3)) (hx : (a, sTx a) ∈ G) (hp : pc + 3 = pc') (h : z_V E l (y, cc, nL, ret, hh) R mc ms Q k n G I sz pc' lv (.int (I a 4) :: st)) : z_V E l (y, cc, nL, ret, hh) R mc ms Q k n G I sz pc lv (.ref a :: st) := v_get (ci := 3) (kf := 4) hd hx rfl rfl in_X3 (by decide) (by rw [hy]; exact fl_X3_26) rfl hp h
theorem p_X3_26 {x : Int32} (hy : y.cls = RX3) (hd : decode cc pc = .ok (.putfield 26, 3)) (hx : (a, sTx a) ∈ G) (hp : pc + 3 = pc') (h : z_V E l (y, cc, nL, ret, hh) R mc ms Q k n G (z_up I a 4 x) sz pc' lv st) : z_V E l (y, cc, nL, ret, hh) R mc ms Q k n G I sz pc lv (.int x :: .ref a :: st) := v_put (ci := 3) (kf := 4) (I' := z_up I a 4 x) hd hx rfl rfl in_X3 tyX3 tyX3_ok nmX3 (by decide) (by rw [hy]; exact fl_X3_26) rfl (ty := .int) (by decide +kernel) rfl rfl (by simp) (fun q h => z_up_ne I a 4 x h) (by rw [z_up_at]; rfl) hp h
theorem fl_X4_78 : Cond.fieldLink RX4 78 (TX3 4).1 (TX3 4).2.1 (TX3 4).2.2.1 ∈ gw := gw_at 45 (by decide +kernel) rfl
/-- StripeTasks$Text.letter -/
theorem g_X4_78 (hy : y.cls = RX4) (hd : decode cc pc = .ok (.getfield 78, 3)) (hx : (a, sTx a) ∈ G) (hp : pc + 3 = pc') (h : z_V E l (y, cc, nL, ret, hh) R mc ms Q k n G I sz pc' lv (.int (I a 4) :: st)) : z_V E l (y, cc, nL, ret, hh) R mc ms Q k n G I sz pc lv (.ref a :: st) := v_get (ci := 3) (kf := 4) hd hx rfl rfl in_X3 (by decide) (by rw [hy]; exact fl_X4_78) rfl hp h
theorem p_X4_78 {x : Int32} (hy : y.cls = RX4) (hd : decode cc pc = .ok (.putfield 78, 3)) (hx : (a, sTx a) ∈ G) (hp : pc + 3 = pc') (h : z_V E l (y, cc, nL, ret, hh) R mc ms Q k n G (z_up I a 4 x) sz pc' lv st) : z_V E l (y, cc, nL, ret, hh) R mc ms Q k n G I sz pc lv (.int x :: .ref a :: st) := v_put (ci := 3) (kf := 4) (I' := z_up I a 4 x) hd hx rfl rfl in_X3 tyX3 tyX3_ok nmX3 (by decide) (by rw [hy]; exact fl_X4_78) rfl (ty := .int) (by decide +kernel) rfl rfl (by simp) (fun q h => z_up_ne I a 4 x h) (by rw [z_up_at]; rfl) hp h
theorem fl_X3_29 : Cond.fieldLink RX3 29 (TX3 5).1 (TX3 5).2.1 (TX3 5).2.2.1 ∈ gw := gw_at 46 (by decide +kernel) rfl
/-- StripeTasks$Text.first -/
theorem g_X3_29 (hy : y.cls = RX3) (hd : decode cc pc = .ok (.getfield 29, 3)) (hx : (a, sTx a) ∈ G) (hp : pc + 3 = pc') (h : z_V E l (y, cc, nL, ret, hh) R mc ms Q k n G I sz pc' lv (.int (I a 5) :: st)) : z_V E l (y, cc, nL, ret, hh) R mc ms Q k n G I sz pc lv (.ref a :: st) := v_get (ci := 3) (kf := 5) hd hx rfl rfl in_X3 (by decide) (by rw [hy]; exact fl_X3_29) rfl hp h
theorem p_X3_29 {x : Int32} (hy : y.cls = RX3) (hd : decode cc pc = .ok (.putfield 29, 3)) (hx : (a, sTx a) ∈ G) (hp : pc + 3 = pc') (h : z_V E l (y, cc, nL, ret, hh) R mc ms Q k n G (z_up I a 5 x) sz pc' lv st) : z_V E l (y, cc, nL, ret, hh) R mc ms Q k n G I sz pc lv (.int x :: .ref a :: st) := v_put (ci := 3) (kf := 5) (I' := z_up I a 5 x) hd hx rfl rfl in_X3 tyX3 tyX3_ok nmX3 (by decide) (by rw [hy]; exact fl_X3_29) rfl (ty := .int) (by decide +kernel) rfl rfl (by simp) (fun q h => z_up_ne I a 5 x h) (by rw [z_up_at]; rfl) hp h
theorem fl_X4_82 : Cond.fieldLink RX4 82 (TX3 5).1 (TX3 5).2.1 (TX3 5).2.2.1 ∈ gw := gw_at 47 (by decide +kernel) rfl
/-- StripeTasks$Text.first -/
theorem g_X4_82 (hy : y.cls = RX4) (hd : decode cc pc = .ok (.getfield 82, 3)) (hx : (a, sTx a) ∈ G) (hp : pc + 3 = pc') (h : z_V E l (y, cc, nL, ret, hh) R mc ms Q k n G I sz pc' lv (.int (I a 5) :: st)) : z_V E l (y, cc, nL, ret, hh) R mc ms Q k n G I sz pc lv (.ref a :: st) := v_get (ci := 3) (kf := 5) hd hx rfl rfl in_X3 (by decide) (by rw [hy]; exact fl_X4_82) rfl hp h
theorem p_X4_82 {x : Int32} (hy : y.cls = RX4) (hd : decode cc pc = .ok (.putfield 82, 3)) (hx : (a, sTx a) ∈ G) (hp : pc + 3 = pc') (h : z_V E l (y, cc, nL, ret, hh) R mc ms Q k n G (z_up I a 5 x) sz pc' lv st) : z_V E l (y, cc, nL, ret, hh) R mc ms Q k n G I sz pc lv (.int x :: .ref a :: st) := v_put (ci := 3) (kf := 5) (I' := z_up I a 5 x) hd hx rfl rfl in_X3 tyX3 tyX3_ok nmX3 (by decide) (by rw [hy]; exact fl_X4_82) rfl (ty := .int) (by decide +kernel) rfl rfl (by simp) (fun q h => z_up_ne I a 5 x h) (by rw [z_up_at]; rfl) hp h
theorem fl_X3_32 : Cond.fieldLink RX3 32 (TX3 6).1 (TX3 6).2.1 (TX3 6).2.2.1 ∈ gw := gw_at 48 (by decide +kernel) rfl
/-- StripeTasks$Text.second -/
theorem g_X3_32 (hy : y.cls = RX3) (hd : decode cc pc = .ok (.getfield 32, 3)) (hx : (a, sTx a) ∈ G) (hp : pc + 3 = pc') (h : z_V E l (y, cc, nL, ret, hh) R mc ms Q k n G I sz pc' lv (.int (I a 6) :: st)) : z_V E l (y, cc, nL, ret, hh) R mc ms Q k n G I sz pc lv (.ref a :: st) := v_get (ci := 3) (kf := 6) hd hx rfl rfl in_X3 (by decide) (by rw [hy]; exact fl_X3_32) rfl hp h
theorem p_X3_32 {x : Int32} (hy : y.cls = RX3) (hd : decode cc pc = .ok (.putfield 32, 3)) (hx : (a, sTx a) ∈ G) (hp : pc + 3 = pc') (h : z_V E l (y, cc, nL, ret, hh) R mc ms Q k n G (z_up I a 6 x) sz pc' lv st) : z_V E l (y, cc, nL, ret, hh) R mc ms Q k n G I sz pc lv (.int x :: .ref a :: st) := v_put (ci := 3) (kf := 6) (I' := z_up I a 6 x) hd hx rfl rfl in_X3 tyX3 tyX3_ok nmX3 (by decide) (by rw [hy]; exact fl_X3_32) rfl (ty := .int) (by decide +kernel) rfl rfl (by simp) (fun q h => z_up_ne I a 6 x h) (by rw [z_up_at]; rfl) hp h
theorem fl_X4_85 : Cond.fieldLink RX4 85 (TX3 6).1 (TX3 6).2.1 (TX3 6).2.2.1 ∈ gw := gw_at 49 (by decide +kernel) rfl
/-- StripeTasks$Text.second -/
theorem g_X4_85 (hy : y.cls = RX4) (hd : decode cc pc = .ok (.getfield 85, 3)) (hx : (a, sTx a) ∈ G) (hp : pc + 3 = pc') (h : z_V E l (y, cc, nL, ret, hh) R mc ms Q k n G I sz pc' lv (.int (I a 6) :: st)) : z_V E l (y, cc, nL, ret, hh) R mc ms Q k n G I sz pc lv (.ref a :: st) := v_get (ci := 3) (kf := 6) hd hx rfl rfl in_X3 (by decide) (by rw [hy]; exact fl_X4_85) rfl hp h
theorem p_X4_85 {x : Int32} (hy : y.cls = RX4) (hd : decode cc pc = .ok (.putfield 85, 3)) (hx : (a, sTx a) ∈ G) (hp : pc + 3 = pc') (h : z_V E l (y, cc, nL, ret, hh) R mc ms Q k n G (z_up I a 6 x) sz pc' lv st) : z_V E l (y, cc, nL, ret, hh) R mc ms Q k n G I sz pc lv (.int x :: .ref a :: st) := v_put (ci := 3) (kf := 6) (I' := z_up I a 6 x) hd hx rfl rfl in_X3 tyX3 tyX3_ok nmX3 (by decide) (by rw [hy]; exact fl_X4_85) rfl (ty := .int) (by decide +kernel) rfl rfl (by simp) (fun q h => z_up_ne I a 6 x h) (by rw [z_up_at]; rfl) hp h
theorem fl_X2_9 : Cond.fieldLink RX2 9 (TX2 0).1 (TX2 0).2.1 (TX2 0).2.2.1 ∈ gw := gw_at 79 (by decide +kernel) rfl
/-- StripeTasks$Task.width -/
theorem g_X2_9 (hy : y.cls = RX2) (hd : decode cc pc = .ok (.getfield 9, 3)) (hx : (a, sTk) ∈ G) (hp : pc + 3 = pc') (h : z_V E l (y, cc, nL, ret, hh) R mc ms Q k n G I sz pc' lv (.int (I a 0) :: st)) : z_V E l (y, cc, nL, ret, hh) R mc ms Q k n G I sz pc lv (.ref a :: st) := v_get (ci := 2) (kf := 0) hd hx rfl rfl in_X2 (by decide) (by rw [hy]; exact fl_X2_9) rfl hp h
theorem p_X2_9 {x : Int32} (hy : y.cls = RX2) (hd : decode cc pc = .ok (.putfield 9, 3)) (hx : (a, sTk) ∈ G) (hp : pc + 3 = pc') (h : z_V E l (y, cc, nL, ret, hh) R mc ms Q k n G (z_up I a 0 x) sz pc' lv st) : z_V E l (y, cc, nL, ret, hh) R mc ms Q k n G I sz pc lv (.int x :: .ref a :: st) := v_put (ci := 2) (kf := 0) (I' := z_up I a 0 x) hd hx rfl rfl in_X2 tyX2 tyX2_ok nmX2 (by decide) (by rw [hy]; exact fl_X2_9) rfl (ty := .int) (by decide +kernel) rfl rfl (by simp) (fun q h => z_up_ne I a 0 x h) (by rw [z_up_at]; rfl) hp h
theorem fl_X4_126 : Cond.fieldLink RX4 126 (TX2 0).1 (TX2 0).2.1 (TX2 0).2.2.1 ∈ gw := gw_at 80 (by decide +kernel) rfl
/-- StripeTasks$Task.width -/
theorem g_X4_126 (hy : y.cls = RX4) (hd : decode cc pc = .ok (.getfield 126, 3)) (hx : (a, sTk) ∈ G) (hp : pc + 3 = pc') (h : z_V E l (y, cc, nL, ret, hh) R mc ms Q k n G I sz pc' lv (.int (I a 0) :: st)) : z_V E l (y, cc, nL, ret, hh) R mc ms Q k n G I sz pc lv (.ref a :: st) := v_get (ci := 2) (kf := 0) hd hx rfl rfl in_X2 (by decide) (by rw [hy]; exact fl_X4_126) rfl hp h
theorem p_X4_126 {x : Int32} (hy : y.cls = RX4) (hd : decode cc pc = .ok (.putfield 126, 3)) (hx : (a, sTk) ∈ G) (hp : pc + 3 = pc') (h : z_V E l (y, cc, nL, ret, hh) R mc ms Q k n G (z_up I a 0 x) sz pc' lv st) : z_V E l (y, cc, nL, ret, hh) R mc ms Q k n G I sz pc lv (.int x :: .ref a :: st) := v_put (ci := 2) (kf := 0) (I' := z_up I a 0 x) hd hx rfl rfl in_X2 tyX2 tyX2_ok nmX2 (by decide) (by rw [hy]; exact fl_X4_126) rfl (ty := .int) (by decide +kernel) rfl rfl (by simp) (fun q h => z_up_ne I a 0 x h) (by rw [z_up_at]; rfl) hp h
theorem fl_X1_110 : Cond.fieldLink RX1 110 (TX2 0).1 (TX2 0).2.1 (TX2 0).2.2.1 ∈ gw := gw_at 81 (by decide +kernel) rfl
/-- StripeTasks$Task.width -/
theorem g_X1_110 (hy : y.cls = RX1) (hd : decode cc pc = .ok (.getfield 110, 3)) (hx : (a, sTk) ∈ G) (hp : pc + 3 = pc') (h : z_V E l (y, cc, nL, ret, hh) R mc ms Q k n G I sz pc' lv (.int (I a 0) :: st)) : z_V E l (y, cc, nL, ret, hh) R mc ms Q k n G I sz pc lv (.ref a :: st) := v_get (ci := 2) (kf := 0) hd hx rfl rfl in_X2 (by decide) (by rw [hy]; exact fl_X1_110) rfl hp h
theorem p_X1_110 {x : Int32} (hy : y.cls = RX1) (hd : decode cc pc = .ok (.putfield 110, 3)) (hx : (a, sTk) ∈ G) (hp : pc + 3 = pc') (h : z_V E l (y, cc, nL, ret, hh) R mc ms Q k n G (z_up I a 0 x) sz pc' lv st) : z_V E l (y, cc, nL, ret, hh) R mc ms Q k n G I sz pc lv (.int x :: .ref a :: st) := v_put (ci := 2) (kf := 0) (I' := z_up I a 0 x) hd hx rfl rfl in_X2 tyX2 tyX2_ok nmX2 (by decide) (by rw [hy]; exact fl_X1_110) rfl (ty := .int) (by decide +kernel) rfl rfl (by simp) (fun q h => z_up_ne I a 0 x h) (by rw [z_up_at]; rfl) hp h
theorem fl_X2_15 : Cond.fieldLink RX2 15 (TX2 1).1 (TX2 1).2.1 (TX2 1).2.2.1 ∈ gw := gw_at 82 (by decide +kernel) rfl
/-- StripeTasks$Task.value -/
theorem g_X2_15 (hy : y.cls = RX2) (hd : decode cc pc = .ok (.getfield 15, 3)) (hx : (a, sTk) ∈ G) (hp : pc + 3 = pc') (h : z_V E l (y, cc, nL, ret, hh) R mc ms Q k n G I sz pc' lv (.int (I a 1) :: st)) : z_V E l (y, cc, nL, ret, hh) R mc ms Q k n G I sz pc lv (.ref a :: st) := v_get (ci := 2) (kf := 1) hd hx rfl rfl in_X2 (by decide) (by rw [hy]; exact fl_X2_15) rfl hp h
theorem p_X2_15 {x : Int32} (hy : y.cls = RX2) (hd : decode cc pc = .ok (.putfield 15, 3)) (hx : (a, sTk) ∈ G) (hp : pc + 3 = pc') (h : z_V E l (y, cc, nL, ret, hh) R mc ms Q k n G (z_up I a 1 x) sz pc' lv st) : z_V E l (y, cc, nL, ret, hh) R mc ms Q k n G I sz pc lv (.int x :: .ref a :: st) := v_put (ci := 2) (kf := 1) (I' := z_up I a 1 x) hd hx rfl rfl in_X2 tyX2 tyX2_ok nmX2 (by decide) (by rw [hy]; exact fl_X2_15) rfl (ty := .int) (by decide +kernel) rfl rfl (by simp) (fun q h => z_up_ne I a 1 x h) (by rw [z_up_at]; rfl) hp h
theorem fl_X4_131 : Cond.fieldLink RX4 131 (TX2 1).1 (TX2 1).2.1 (TX2 1).2.2.1 ∈ gw := gw_at 83 (by decide +kernel) rfl
/-- StripeTasks$Task.value -/
theorem g_X4_131 (hy : y.cls = RX4) (hd : decode cc pc = .ok (.getfield 131, 3)) (hx : (a, sTk) ∈ G) (hp : pc + 3 = pc') (h : z_V E l (y, cc, nL, ret, hh) R mc ms Q k n G I sz pc' lv (.int (I a 1) :: st)) : z_V E l (y, cc, nL, ret, hh) R mc ms Q k n G I sz pc lv (.ref a :: st) := v_get (ci := 2) (kf := 1) hd hx rfl rfl in_X2 (by decide) (by rw [hy]; exact fl_X4_131) rfl hp h
theorem p_X4_131 {x : Int32} (hy : y.cls = RX4) (hd : decode cc pc = .ok (.putfield 131, 3)) (hx : (a, sTk) ∈ G) (hp : pc + 3 = pc') (h : z_V E l (y, cc, nL, ret, hh) R mc ms Q k n G (z_up I a 1 x) sz pc' lv st) : z_V E l (y, cc, nL, ret, hh) R mc ms Q k n G I sz pc lv (.int x :: .ref a :: st) := v_put (ci := 2) (kf := 1) (I' := z_up I a 1 x) hd hx rfl rfl in_X2 tyX2 tyX2_ok nmX2 (by decide) (by rw [hy]; exact fl_X4_131) rfl (ty := .int) (by decide +kernel) rfl rfl (by simp) (fun q h => z_up_ne I a 1 x h) (by rw [z_up_at]; rfl) hp h
theorem fl_X1_93 : Cond.fieldLink RX1 93 (TX2 1).1 (TX2 1).2.1 (TX2 1).2.2.1 ∈ gw := gw_at 84 (by decide +kernel) rfl
/-- StripeTasks$Task.value -/
theorem g_X1_93 (hy : y.cls = RX1) (hd : decode cc pc = .ok (.getfield 93, 3)) (hx : (a, sTk) ∈ G) (hp : pc + 3 = pc') (h : z_V E l (y, cc, nL, ret, hh) R mc ms Q k n G I sz pc' lv (.int (I a 1) :: st)) : z_V E l (y, cc, nL, ret, hh) R mc ms Q k n G I sz pc lv (.ref a :: st) := v_get (ci := 2) (kf := 1) hd hx rfl rfl in_X2 (by decide) (by rw [hy]; exact fl_X1_93) rfl hp h
theorem p_X1_93 {x : Int32} (hy : y.cls = RX1) (hd : decode cc pc = .ok (.putfield 93, 3)) (hx : (a, sTk) ∈ G) (hp : pc + 3 = pc') (h : z_V E l (y, cc, nL, ret, hh) R mc ms Q k n G (z_up I a 1 x) sz pc' lv st) : z_V E l (y, cc, nL, ret, hh) R mc ms Q k n G I sz pc lv (.int x :: .ref a :: st) := v_put (ci := 2) (kf := 1) (I' := z_up I a 1 x) hd hx rfl rfl in_X2 tyX2 tyX2_ok nmX2 (by decide) (by rw [hy]; exact fl_X1_93) rfl (ty := .int) (by decide +kernel) rfl rfl (by simp) (fun q h => z_up_ne I a 1 x h) (by rw [z_up_at]; rfl) hp h
theorem fl_X2_18 : Cond.fieldLink RX2 18 (TX2 2).1 (TX2 2).2.1 (TX2 2).2.2.1 ∈ gw := gw_at 85 (by decide +kernel) rfl
/-- StripeTasks$Task.saved -/
theorem g_X2_18 (hy : y.cls = RX2) (hd : decode cc pc = .ok (.getfield 18, 3)) (hx : (a, sTk) ∈ G) (hp : pc + 3 = pc') (h : z_V E l (y, cc, nL, ret, hh) R mc ms Q k n G I sz pc' lv (.int (I a 2) :: st)) : z_V E l (y, cc, nL, ret, hh) R mc ms Q k n G I sz pc lv (.ref a :: st) := v_get (ci := 2) (kf := 2) hd hx rfl rfl in_X2 (by decide) (by rw [hy]; exact fl_X2_18) rfl hp h
theorem p_X2_18 {x : Int32} (hy : y.cls = RX2) (hd : decode cc pc = .ok (.putfield 18, 3)) (hx : (a, sTk) ∈ G) (hp : pc + 3 = pc') (h : z_V E l (y, cc, nL, ret, hh) R mc ms Q k n G (z_up I a 2 x) sz pc' lv st) : z_V E l (y, cc, nL, ret, hh) R mc ms Q k n G I sz pc lv (.int x :: .ref a :: st) := v_put (ci := 2) (kf := 2) (I' := z_up I a 2 x) hd hx rfl rfl in_X2 tyX2 tyX2_ok nmX2 (by decide) (by rw [hy]; exact fl_X2_18) rfl (ty := .int) (by decide +kernel) rfl rfl (by simp) (fun q h => z_up_ne I a 2 x h) (by rw [z_up_at]; rfl) hp h
theorem fl_X4_134 : Cond.fieldLink RX4 134 (TX2 2).1 (TX2 2).2.1 (TX2 2).2.2.1 ∈ gw := gw_at 86 (by decide +kernel) rfl
/-- StripeTasks$Task.saved -/
theorem g_X4_134 (hy : y.cls = RX4) (hd : decode cc pc = .ok (.getfield 134, 3)) (hx : (a, sTk) ∈ G) (hp : pc + 3 = pc') (h : z_V E l (y, cc, nL, ret, hh) R mc ms Q k n G I sz pc' lv (.int (I a 2) :: st)) : z_V E l (y, cc, nL, ret, hh) R mc ms Q k n G I sz pc lv (.ref a :: st) := v_get (ci := 2) (kf := 2) hd hx rfl rfl in_X2 (by decide) (by rw [hy]; exact fl_X4_134) rfl hp h
theorem p_X4_134 {x : Int32} (hy : y.cls = RX4) (hd : decode cc pc = .ok (.putfield 134, 3)) (hx : (a, sTk) ∈ G) (hp : pc + 3 = pc') (h : z_V E l (y, cc, nL, ret, hh) R mc ms Q k n G (z_up I a 2 x) sz pc' lv st) : z_V E l (y, cc, nL, ret, hh) R mc ms Q k n G I sz pc lv (.int x :: .ref a :: st) := v_put (ci := 2) (kf := 2) (I' := z_up I a 2 x) hd hx rfl rfl in_X2 tyX2 tyX2_ok nmX2 (by decide) (by rw [hy]; exact fl_X4_134) rfl (ty := .int) (by decide +kernel) rfl rfl (by simp) (fun q h => z_up_ne I a 2 x h) (by rw [z_up_at]; rfl) hp h
theorem fl_X2_21 : Cond.fieldLink RX2 21 (TX2 3).1 (TX2 3).2.1 (TX2 3).2.2.1 ∈ gw := gw_at 87 (by decide +kernel) rfl
/-- StripeTasks$Task.worked -/
theorem g_X2_21 (hy : y.cls = RX2) (hd : decode cc pc = .ok (.getfield 21, 3)) (hx : (a, sTk) ∈ G) (hp : pc + 3 = pc') (h : z_V E l (y, cc, nL, ret, hh) R mc ms Q k n G I sz pc' lv (.int (I a 3) :: st)) : z_V E l (y, cc, nL, ret, hh) R mc ms Q k n G I sz pc lv (.ref a :: st) := v_get (ci := 2) (kf := 3) hd hx rfl rfl in_X2 (by decide) (by rw [hy]; exact fl_X2_21) rfl hp h
theorem p_X2_21 {x : Int32} (hy : y.cls = RX2) (hd : decode cc pc = .ok (.putfield 21, 3)) (hx : (a, sTk) ∈ G) (hp : pc + 3 = pc') (h : z_V E l (y, cc, nL, ret, hh) R mc ms Q k n G (z_up I a 3 x) sz pc' lv st) : z_V E l (y, cc, nL, ret, hh) R mc ms Q k n G I sz pc lv (.int x :: .ref a :: st) := v_put (ci := 2) (kf := 3) (I' := z_up I a 3 x) hd hx rfl rfl in_X2 tyX2 tyX2_ok nmX2 (by decide) (by rw [hy]; exact fl_X2_21) rfl (ty := .int) (by decide +kernel) rfl rfl (by simp) (fun q h => z_up_ne I a 3 x h) (by rw [z_up_at]; rfl) hp h
theorem fl_X4_137 : Cond.fieldLink RX4 137 (TX2 3).1 (TX2 3).2.1 (TX2 3).2.2.1 ∈ gw := gw_at 88 (by decide +kernel) rfl
/-- StripeTasks$Task.worked -/
theorem g_X4_137 (hy : y.cls = RX4) (hd : decode cc pc = .ok (.getfield 137, 3)) (hx : (a, sTk) ∈ G) (hp : pc + 3 = pc') (h : z_V E l (y, cc, nL, ret, hh) R mc ms Q k n G I sz pc' lv (.int (I a 3) :: st)) : z_V E l (y, cc, nL, ret, hh) R mc ms Q k n G I sz pc lv (.ref a :: st) := v_get (ci := 2) (kf := 3) hd hx rfl rfl in_X2 (by decide) (by rw [hy]; exact fl_X4_137) rfl hp h
theorem p_X4_137 {x : Int32} (hy : y.cls = RX4) (hd : decode cc pc = .ok (.putfield 137, 3)) (hx : (a, sTk) ∈ G) (hp : pc + 3 = pc') (h : z_V E l (y, cc, nL, ret, hh) R mc ms Q k n G (z_up I a 3 x) sz pc' lv st) : z_V E l (y, cc, nL, ret, hh) R mc ms Q k n G I sz pc lv (.int x :: .ref a :: st) := v_put (ci := 2) (kf := 3) (I' := z_up I a 3 x) hd hx rfl rfl in_X2 tyX2 tyX2_ok nmX2 (by decide) (by rw [hy]; exact fl_X4_137) rfl (ty := .int) (by decide +kernel) rfl rfl (by simp) (fun q h => z_up_ne I a 3 x h) (by rw [z_up_at]; rfl) hp h
theorem fl_X2_24 : Cond.fieldLink RX2 24 (TX2 4).1 (TX2 4).2.1 (TX2 4).2.2.1 ∈ gw := gw_at 89 (by decide +kernel) rfl
/-- StripeTasks$Task.unsaved -/
theorem g_X2_24 (hy : y.cls = RX2) (hd : decode cc pc = .ok (.getfield 24, 3)) (hx : (a, sTk) ∈ G) (hp : pc + 3 = pc') (h : z_V E l (y, cc, nL, ret, hh) R mc ms Q k n G I sz pc' lv (.int (I a 4) :: st)) : z_V E l (y, cc, nL, ret, hh) R mc ms Q k n G I sz pc lv (.ref a :: st) := v_get (ci := 2) (kf := 4) hd hx rfl rfl in_X2 (by decide) (by rw [hy]; exact fl_X2_24) rfl hp h
theorem p_X2_24 {x : Int32} (hy : y.cls = RX2) (hd : decode cc pc = .ok (.putfield 24, 3)) (hx : (a, sTk) ∈ G) (hp : pc + 3 = pc') (h : z_V E l (y, cc, nL, ret, hh) R mc ms Q k n G (z_up I a 4 x) sz pc' lv st) : z_V E l (y, cc, nL, ret, hh) R mc ms Q k n G I sz pc lv (.int x :: .ref a :: st) := v_put (ci := 2) (kf := 4) (I' := z_up I a 4 x) hd hx rfl rfl in_X2 tyX2 tyX2_ok nmX2 (by decide) (by rw [hy]; exact fl_X2_24) rfl (ty := .int) (by decide +kernel) rfl rfl (by simp) (fun q h => z_up_ne I a 4 x h) (by rw [z_up_at]; rfl) hp h
theorem fl_X4_253 : Cond.fieldLink RX4 253 (TX2 4).1 (TX2 4).2.1 (TX2 4).2.2.1 ∈ gw := gw_at 90 (by decide +kernel) rfl
/-- StripeTasks$Task.unsaved -/
theorem g_X4_253 (hy : y.cls = RX4) (hd : decode cc pc = .ok (.getfield 253, 3)) (hx : (a, sTk) ∈ G) (hp : pc + 3 = pc') (h : z_V E l (y, cc, nL, ret, hh) R mc ms Q k n G I sz pc' lv (.int (I a 4) :: st)) : z_V E l (y, cc, nL, ret, hh) R mc ms Q k n G I sz pc lv (.ref a :: st) := v_get (ci := 2) (kf := 4) hd hx rfl rfl in_X2 (by decide) (by rw [hy]; exact fl_X4_253) rfl hp h
theorem p_X4_253 {x : Int32} (hy : y.cls = RX4) (hd : decode cc pc = .ok (.putfield 253, 3)) (hx : (a, sTk) ∈ G) (hp : pc + 3 = pc') (h : z_V E l (y, cc, nL, ret, hh) R mc ms Q k n G (z_up I a 4 x) sz pc' lv st) : z_V E l (y, cc, nL, ret, hh) R mc ms Q k n G I sz pc lv (.int x :: .ref a :: st) := v_put (ci := 2) (kf := 4) (I' := z_up I a 4 x) hd hx rfl rfl in_X2 tyX2 tyX2_ok nmX2 (by decide) (by rw [hy]; exact fl_X4_253) rfl (ty := .int) (by decide +kernel) rfl rfl (by simp) (fun q h => z_up_ne I a 4 x h) (by rw [z_up_at]; rfl) hp h
theorem fl_X2_30 : Cond.fieldLink RX2 30 (TX2 5).1 (TX2 5).2.1 (TX2 5).2.2.1 ∈ gw := gw_at 91 (by decide +kernel) rfl
/-- StripeTasks$Task.status -/
theorem g_X2_30 (hy : y.cls = RX2) (hd : decode cc pc = .ok (.getfield 30, 3)) (hx : (a, sTk) ∈ G) (hp : pc + 3 = pc') (h : z_V E l (y, cc, nL, ret, hh) R mc ms Q k n G I sz pc' lv (.int (I a 5) :: st)) : z_V E l (y, cc, nL, ret, hh) R mc ms Q k n G I sz pc lv (.ref a :: st) := v_get (ci := 2) (kf := 5) hd hx rfl rfl in_X2 (by decide) (by rw [hy]; exact fl_X2_30) rfl hp h
theorem p_X2_30 {x : Int32} (hy : y.cls = RX2) (hd : decode cc pc = .ok (.putfield 30, 3)) (hx : (a, sTk) ∈ G) (hp : pc + 3 = pc') (h : z_V E l (y, cc, nL, ret, hh) R mc ms Q k n G (z_up I a 5 x) sz pc' lv st) : z_V E l (y, cc, nL, ret, hh) R mc ms Q k n G I sz pc lv (.int x :: .ref a :: st) := v_put (ci := 2) (kf := 5) (I' := z_up I a 5 x) hd hx rfl rfl in_X2 tyX2 tyX2_ok nmX2 (by decide) (by rw [hy]; exact fl_X2_30) rfl (ty := .int) (by decide +kernel) rfl rfl (by simp) (fun q h => z_up_ne I a 5 x h) (by rw [z_up_at]; rfl) hp h
theorem fl_X4_140 : Cond.fieldLink RX4 140 (TX2 5).1 (TX2 5).2.1 (TX2 5).2.2.1 ∈ gw := gw_at 92 (by decide +kernel) rfl
/-- StripeTasks$Task.status -/
theorem g_X4_140 (hy : y.cls = RX4) (hd : decode cc pc = .ok (.getfield 140, 3)) (hx : (a, sTk) ∈ G) (hp : pc + 3 = pc') (h : z_V E l (y, cc, nL, ret, hh) R mc ms Q k n G I sz pc' lv (.int (I a 5) :: st)) : z_V E l (y, cc, nL, ret, hh) R mc ms Q k n G I sz pc lv (.ref a :: st) := v_get (ci := 2) (kf := 5) hd hx rfl rfl in_X2 (by decide) (by rw [hy]; exact fl_X4_140) rfl hp h
theorem p_X4_140 {x : Int32} (hy : y.cls = RX4) (hd : decode cc pc = .ok (.putfield 140, 3)) (hx : (a, sTk) ∈ G) (hp : pc + 3 = pc') (h : z_V E l (y, cc, nL, ret, hh) R mc ms Q k n G (z_up I a 5 x) sz pc' lv st) : z_V E l (y, cc, nL, ret, hh) R mc ms Q k n G I sz pc lv (.int x :: .ref a :: st) := v_put (ci := 2) (kf := 5) (I' := z_up I a 5 x) hd hx rfl rfl in_X2 tyX2 tyX2_ok nmX2 (by decide) (by rw [hy]; exact fl_X4_140) rfl (ty := .int) (by decide +kernel) rfl rfl (by simp) (fun q h => z_up_ne I a 5 x h) (by rw [z_up_at]; rfl) hp h
theorem fl_X1_80 : Cond.fieldLink RX1 80 (TX2 5).1 (TX2 5).2.1 (TX2 5).2.2.1 ∈ gw := gw_at 93 (by decide +kernel) rfl
/-- StripeTasks$Task.status -/
theorem g_X1_80 (hy : y.cls = RX1) (hd : decode cc pc = .ok (.getfield 80, 3)) (hx : (a, sTk) ∈ G) (hp : pc + 3 = pc') (h : z_V E l (y, cc, nL, ret, hh) R mc ms Q k n G I sz pc' lv (.int (I a 5) :: st)) : z_V E l (y, cc, nL, ret, hh) R mc ms Q k n G I sz pc lv (.ref a :: st) := v_get (ci := 2) (kf := 5) hd hx rfl rfl in_X2 (by decide) (by rw [hy]; exact fl_X1_80) rfl hp h
theorem p_X1_80 {x : Int32} (hy : y.cls = RX1) (hd : decode cc pc = .ok (.putfield 80, 3)) (hx : (a, sTk) ∈ G) (hp : pc + 3 = pc') (h : z_V E l (y, cc, nL, ret, hh) R mc ms Q k n G (z_up I a 5 x) sz pc' lv st) : z_V E l (y, cc, nL, ret, hh) R mc ms Q k n G I sz pc lv (.int x :: .ref a :: st) := v_put (ci := 2) (kf := 5) (I' := z_up I a 5 x) hd hx rfl rfl in_X2 tyX2 tyX2_ok nmX2 (by decide) (by rw [hy]; exact fl_X1_80) rfl (ty := .int) (by decide +kernel) rfl rfl (by simp) (fun q h => z_up_ne I a 5 x h) (by rw [z_up_at]; rfl) hp h
theorem fl_X2_33 : Cond.fieldLink RX2 33 (TX2 6).1 (TX2 6).2.1 (TX2 6).2.2.1 ∈ gw := gw_at 94 (by decide +kernel) rfl
/-- StripeTasks$Task.first -/
theorem g_X2_33 (hy : y.cls = RX2) (hd : decode cc pc = .ok (.getfield 33, 3)) (hx : (a, sTk) ∈ G) (hp : pc + 3 = pc') (h : z_V E l (y, cc, nL, ret, hh) R mc ms Q k n G I sz pc' lv (.int (I a 6) :: st)) : z_V E l (y, cc, nL, ret, hh) R mc ms Q k n G I sz pc lv (.ref a :: st) := v_get (ci := 2) (kf := 6) hd hx rfl rfl in_X2 (by decide) (by rw [hy]; exact fl_X2_33) rfl hp h
theorem p_X2_33 {x : Int32} (hy : y.cls = RX2) (hd : decode cc pc = .ok (.putfield 33, 3)) (hx : (a, sTk) ∈ G) (hp : pc + 3 = pc') (h : z_V E l (y, cc, nL, ret, hh) R mc ms Q k n G (z_up I a 6 x) sz pc' lv st) : z_V E l (y, cc, nL, ret, hh) R mc ms Q k n G I sz pc lv (.int x :: .ref a :: st) := v_put (ci := 2) (kf := 6) (I' := z_up I a 6 x) hd hx rfl rfl in_X2 tyX2 tyX2_ok nmX2 (by decide) (by rw [hy]; exact fl_X2_33) rfl (ty := .int) (by decide +kernel) rfl rfl (by simp) (fun q h => z_up_ne I a 6 x h) (by rw [z_up_at]; rfl) hp h
theorem fl_X4_143 : Cond.fieldLink RX4 143 (TX2 6).1 (TX2 6).2.1 (TX2 6).2.2.1 ∈ gw := gw_at 95 (by decide +kernel) rfl
/-- StripeTasks$Task.first -/
theorem g_X4_143 (hy : y.cls = RX4) (hd : decode cc pc = .ok (.getfield 143, 3)) (hx : (a, sTk) ∈ G) (hp : pc + 3 = pc') (h : z_V E l (y, cc, nL, ret, hh) R mc ms Q k n G I sz pc' lv (.int (I a 6) :: st)) : z_V E l (y, cc, nL, ret, hh) R mc ms Q k n G I sz pc lv (.ref a :: st) := v_get (ci := 2) (kf := 6) hd hx rfl rfl in_X2 (by decide) (by rw [hy]; exact fl_X4_143) rfl hp h
theorem p_X4_143 {x : Int32} (hy : y.cls = RX4) (hd : decode cc pc = .ok (.putfield 143, 3)) (hx : (a, sTk) ∈ G) (hp : pc + 3 = pc') (h : z_V E l (y, cc, nL, ret, hh) R mc ms Q k n G (z_up I a 6 x) sz pc' lv st) : z_V E l (y, cc, nL, ret, hh) R mc ms Q k n G I sz pc lv (.int x :: .ref a :: st) := v_put (ci := 2) (kf := 6) (I' := z_up I a 6 x) hd hx rfl rfl in_X2 tyX2 tyX2_ok nmX2 (by decide) (by rw [hy]; exact fl_X4_143) rfl (ty := .int) (by decide +kernel) rfl rfl (by simp) (fun q h => z_up_ne I a 6 x h) (by rw [z_up_at]; rfl) hp h
theorem fl_X1_156 : Cond.fieldLink RX1 156 (TX2 6).1 (TX2 6).2.1 (TX2 6).2.2.1 ∈ gw := gw_at 96 (by decide +kernel) rfl
/-- StripeTasks$Task.first -/
theorem g_X1_156 (hy : y.cls = RX1) (hd : decode cc pc = .ok (.getfield 156, 3)) (hx : (a, sTk) ∈ G) (hp : pc + 3 = pc') (h : z_V E l (y, cc, nL, ret, hh) R mc ms Q k n G I sz pc' lv (.int (I a 6) :: st)) : z_V E l (y, cc, nL, ret, hh) R mc ms Q k n G I sz pc lv (.ref a :: st) := v_get (ci := 2) (kf := 6) hd hx rfl rfl in_X2 (by decide) (by rw [hy]; exact fl_X1_156) rfl hp h
theorem p_X1_156 {x : Int32} (hy : y.cls = RX1) (hd : decode cc pc = .ok (.putfield 156, 3)) (hx : (a, sTk) ∈ G) (hp : pc + 3 = pc') (h : z_V E l (y, cc, nL, ret, hh) R mc ms Q k n G (z_up I a 6 x) sz pc' lv st) : z_V E l (y, cc, nL, ret, hh) R mc ms Q k n G I sz pc lv (.int x :: .ref a :: st) := v_put (ci := 2) (kf := 6) (I' := z_up I a 6 x) hd hx rfl rfl in_X2 tyX2 tyX2_ok nmX2 (by decide) (by rw [hy]; exact fl_X1_156) rfl (ty := .int) (by decide +kernel) rfl rfl (by simp) (fun q h => z_up_ne I a 6 x h) (by rw [z_up_at]; rfl) hp h
theorem fl_X1_11 : Cond.fieldLink RX1 11 (TX1 0).1 (TX1 0).2.1 (TX1 0).2.2.1 ∈ gw := gw_at 124 (by decide +kernel) rfl
/-- StripeTasks$State.tasks -/
theorem g_X1_11 (hy : y.cls = RX1) (hd : decode cc pc = .ok (.getfield 11, 3)) (hx : (a, sSt a) ∈ G) (hp : pc + 3 = pc') (h : z_V E l (y, cc, nL, ret, hh) R mc ms Q k n G I sz pc' lv (.ref (a + 1) :: st)) : z_V E l (y, cc, nL, ret, hh) R mc ms Q k n G I sz pc lv (.ref a :: st) := v_get (ci := 1) (kf := 0) hd hx rfl rfl in_X1 (by decide) (by rw [hy]; exact fl_X1_11) rfl hp h
theorem fl_X1_17 : Cond.fieldLink RX1 17 (TX1 1).1 (TX1 1).2.1 (TX1 1).2.2.1 ∈ gw := gw_at 125 (by decide +kernel) rfl
/-- StripeTasks$State.bad -/
theorem g_X1_17 (hy : y.cls = RX1) (hd : decode cc pc = .ok (.getfield 17, 3)) (hx : (a, sSt a) ∈ G) (hp : pc + 3 = pc') (h : z_V E l (y, cc, nL, ret, hh) R mc ms Q k n G I sz pc' lv (.ref (a + 2) :: st)) : z_V E l (y, cc, nL, ret, hh) R mc ms Q k n G I sz pc lv (.ref a :: st) := v_get (ci := 1) (kf := 1) hd hx rfl rfl in_X1 (by decide) (by rw [hy]; exact fl_X1_17) rfl hp h
theorem fl_X1_21 : Cond.fieldLink RX1 21 (TX1 2).1 (TX1 2).2.1 (TX1 2).2.2.1 ∈ gw := gw_at 126 (by decide +kernel) rfl
/-- StripeTasks$State.settings -/
theorem g_X1_21 (hy : y.cls = RX1) (hd : decode cc pc = .ok (.getfield 21, 3)) (hx : (a, sSt a) ∈ G) (hp : pc + 3 = pc') (h : z_V E l (y, cc, nL, ret, hh) R mc ms Q k n G I sz pc' lv (.ref (a + 3) :: st)) : z_V E l (y, cc, nL, ret, hh) R mc ms Q k n G I sz pc lv (.ref a :: st) := v_get (ci := 1) (kf := 2) hd hx rfl rfl in_X1 (by decide) (by rw [hy]; exact fl_X1_21) rfl hp h
theorem fl_X4_173 : Cond.fieldLink RX4 173 (TX1 2).1 (TX1 2).2.1 (TX1 2).2.2.1 ∈ gw := gw_at 127 (by decide +kernel) rfl
/-- StripeTasks$State.settings -/
theorem g_X4_173 (hy : y.cls = RX4) (hd : decode cc pc = .ok (.getfield 173, 3)) (hx : (a, sSt a) ∈ G) (hp : pc + 3 = pc') (h : z_V E l (y, cc, nL, ret, hh) R mc ms Q k n G I sz pc' lv (.ref (a + 3) :: st)) : z_V E l (y, cc, nL, ret, hh) R mc ms Q k n G I sz pc lv (.ref a :: st) := v_get (ci := 1) (kf := 2) hd hx rfl rfl in_X1 (by decide) (by rw [hy]; exact fl_X4_173) rfl hp h
theorem fl_X1_32 : Cond.fieldLink RX1 32 (TX1 3).1 (TX1 3).2.1 (TX1 3).2.2.1 ∈ gw := gw_at 128 (by decide +kernel) rfl
/-- StripeTasks$State.count -/
theorem g_X1_32 (hy : y.cls = RX1) (hd : decode cc pc = .ok (.getfield 32, 3)) (hx : (a, sSt a) ∈ G) (hp : pc + 3 = pc') (h : z_V E l (y, cc, nL, ret, hh) R mc ms Q k n G I sz pc' lv (.int (I a 3) :: st)) : z_V E l (y, cc, nL, ret, hh) R mc ms Q k n G I sz pc lv (.ref a :: st) := v_get (ci := 1) (kf := 3) hd hx rfl rfl in_X1 (by decide) (by rw [hy]; exact fl_X1_32) rfl hp h
theorem p_X1_32 {x : Int32} (hy : y.cls = RX1) (hd : decode cc pc = .ok (.putfield 32, 3)) (hx : (a, sSt a) ∈ G) (hp : pc + 3 = pc') (h : z_V E l (y, cc, nL, ret, hh) R mc ms Q k n G (z_up I a 3 x) sz pc' lv st) : z_V E l (y, cc, nL, ret, hh) R mc ms Q k n G I sz pc lv (.int x :: .ref a :: st) := v_put (ci := 1) (kf := 3) (I' := z_up I a 3 x) hd hx rfl rfl in_X1 tyX1 tyX1_ok nmX1 (by decide) (by rw [hy]; exact fl_X1_32) rfl (ty := .int) (by decide +kernel) rfl rfl (by simp) (fun q h => z_up_ne I a 3 x h) (by rw [z_up_at]; rfl) hp h
theorem fl_X4_92 : Cond.fieldLink RX4 92 (TX1 3).1 (TX1 3).2.1 (TX1 3).2.2.1 ∈ gw := gw_at 129 (by decide +kernel) rfl
/-- StripeTasks$State.count -/
theorem g_X4_92 (hy : y.cls = RX4) (hd : decode cc pc = .ok (.getfield 92, 3)) (hx : (a, sSt a) ∈ G) (hp : pc + 3 = pc') (h : z_V E l (y, cc, nL, ret, hh) R mc ms Q k n G I sz pc' lv (.int (I a 3) :: st)) : z_V E l (y, cc, nL, ret, hh) R mc ms Q k n G I sz pc lv (.ref a :: st) := v_get (ci := 1) (kf := 3) hd hx rfl rfl in_X1 (by decide) (by rw [hy]; exact fl_X4_92) rfl hp h
theorem p_X4_92 {x : Int32} (hy : y.cls = RX4) (hd : decode cc pc = .ok (.putfield 92, 3)) (hx : (a, sSt a) ∈ G) (hp : pc + 3 = pc') (h : z_V E l (y, cc, nL, ret, hh) R mc ms Q k n G (z_up I a 3 x) sz pc' lv st) : z_V E l (y, cc, nL, ret, hh) R mc ms Q k n G I sz pc lv (.int x :: .ref a :: st) := v_put (ci := 1) (kf := 3) (I' := z_up I a 3 x) hd hx rfl rfl in_X1 tyX1 tyX1_ok nmX1 (by decide) (by rw [hy]; exact fl_X4_92) rfl (ty := .int) (by decide +kernel) rfl rfl (by simp) (fun q h => z_up_ne I a 3 x h) (by rw [z_up_at]; rfl) hp h
theorem fl_X1_36 : Cond.fieldLink RX1 36 (TX1 4).1 (TX1 4).2.1 (TX1 4).2.2.1 ∈ gw := gw_at 130 (by decide +kernel) rfl
/-- StripeTasks$State.ticks -/
theorem g_X1_36 (hy : y.cls = RX1) (hd : decode cc pc = .ok (.getfield 36, 3)) (hx : (a, sSt a) ∈ G) (hp : pc + 3 = pc') (h : z_V E l (y, cc, nL, ret, hh) R mc ms Q k n G I sz pc' lv (.int (I a 4) :: st)) : z_V E l (y, cc, nL, ret, hh) R mc ms Q k n G I sz pc lv (.ref a :: st) := v_get (ci := 1) (kf := 4) hd hx rfl rfl in_X1 (by decide) (by rw [hy]; exact fl_X1_36) rfl hp h
theorem p_X1_36 {x : Int32} (hy : y.cls = RX1) (hd : decode cc pc = .ok (.putfield 36, 3)) (hx : (a, sSt a) ∈ G) (hp : pc + 3 = pc') (h : z_V E l (y, cc, nL, ret, hh) R mc ms Q k n G (z_up I a 4 x) sz pc' lv st) : z_V E l (y, cc, nL, ret, hh) R mc ms Q k n G I sz pc lv (.int x :: .ref a :: st) := v_put (ci := 1) (kf := 4) (I' := z_up I a 4 x) hd hx rfl rfl in_X1 tyX1 tyX1_ok nmX1 (by decide) (by rw [hy]; exact fl_X1_36) rfl (ty := .int) (by decide +kernel) rfl rfl (by simp) (fun q h => z_up_ne I a 4 x h) (by rw [z_up_at]; rfl) hp h
theorem fl_X4_95 : Cond.fieldLink RX4 95 (TX1 4).1 (TX1 4).2.1 (TX1 4).2.2.1 ∈ gw := gw_at 131 (by decide +kernel) rfl
/-- StripeTasks$State.ticks -/
theorem g_X4_95 (hy : y.cls = RX4) (hd : decode cc pc = .ok (.getfield 95, 3)) (hx : (a, sSt a) ∈ G) (hp : pc + 3 = pc') (h : z_V E l (y, cc, nL, ret, hh) R mc ms Q k n G I sz pc' lv (.int (I a 4) :: st)) : z_V E l (y, cc, nL, ret, hh) R mc ms Q k n G I sz pc lv (.ref a :: st) := v_get (ci := 1) (kf := 4) hd hx rfl rfl in_X1 (by decide) (by rw [hy]; exact fl_X4_95) rfl hp h
theorem p_X4_95 {x : Int32} (hy : y.cls = RX4) (hd : decode cc pc = .ok (.putfield 95, 3)) (hx : (a, sSt a) ∈ G) (hp : pc + 3 = pc') (h : z_V E l (y, cc, nL, ret, hh) R mc ms Q k n G (z_up I a 4 x) sz pc' lv st) : z_V E l (y, cc, nL, ret, hh) R mc ms Q k n G I sz pc lv (.int x :: .ref a :: st) := v_put (ci := 1) (kf := 4) (I' := z_up I a 4 x) hd hx rfl rfl in_X1 tyX1 tyX1_ok nmX1 (by decide) (by rw [hy]; exact fl_X4_95) rfl (ty := .int) (by decide +kernel) rfl rfl (by simp) (fun q h => z_up_ne I a 4 x h) (by rw [z_up_at]; rfl) hp h
theorem fl_X1_39 : Cond.fieldLink RX1 39 (TX1 5).1 (TX1 5).2.1 (TX1 5).2.2.1 ∈ gw := gw_at 132 (by decide +kernel) rfl
/-- StripeTasks$State.works -/
theorem g_X1_39 (hy : y.cls = RX1) (hd : decode cc pc = .ok (.getfield 39, 3)) (hx : (a, sSt a) ∈ G) (hp : pc + 3 = pc') (h : z_V E l (y, cc, nL, ret, hh) R mc ms Q k n G I sz pc' lv (.int (I a 5) :: st)) : z_V E l (y, cc, nL, ret, hh) R mc ms Q k n G I sz pc lv (.ref a :: st) := v_get (ci := 1) (kf := 5) hd hx rfl rfl in_X1 (by decide) (by rw [hy]; exact fl_X1_39) rfl hp h
theorem p_X1_39 {x : Int32} (hy : y.cls = RX1) (hd : decode cc pc = .ok (.putfield 39, 3)) (hx : (a, sSt a) ∈ G) (hp : pc + 3 = pc') (h : z_V E l (y, cc, nL, ret, hh) R mc ms Q k n G (z_up I a 5 x) sz pc' lv st) : z_V E l (y, cc, nL, ret, hh) R mc ms Q k n G I sz pc lv (.int x :: .ref a :: st) := v_put (ci := 1) (kf := 5) (I' := z_up I a 5 x) hd hx rfl rfl in_X1 tyX1 tyX1_ok nmX1 (by decide) (by rw [hy]; exact fl_X1_39) rfl (ty := .int) (by decide +kernel) rfl rfl (by simp) (fun q h => z_up_ne I a 5 x h) (by rw [z_up_at]; rfl) hp h
theorem fl_X4_116 : Cond.fieldLink RX4 116 (TX1 5).1 (TX1 5).2.1 (TX1 5).2.2.1 ∈ gw := gw_at 133 (by decide +kernel) rfl
/-- StripeTasks$State.works -/
theorem g_X4_116 (hy : y.cls = RX4) (hd : decode cc pc = .ok (.getfield 116, 3)) (hx : (a, sSt a) ∈ G) (hp : pc + 3 = pc') (h : z_V E l (y, cc, nL, ret, hh) R mc ms Q k n G I sz pc' lv (.int (I a 5) :: st)) : z_V E l (y, cc, nL, ret, hh) R mc ms Q k n G I sz pc lv (.ref a :: st) := v_get (ci := 1) (kf := 5) hd hx rfl rfl in_X1 (by decide) (by rw [hy]; exact fl_X4_116) rfl hp h
theorem p_X4_116 {x : Int32} (hy : y.cls = RX4) (hd : decode cc pc = .ok (.putfield 116, 3)) (hx : (a, sSt a) ∈ G) (hp : pc + 3 = pc') (h : z_V E l (y, cc, nL, ret, hh) R mc ms Q k n G (z_up I a 5 x) sz pc' lv st) : z_V E l (y, cc, nL, ret, hh) R mc ms Q k n G I sz pc lv (.int x :: .ref a :: st) := v_put (ci := 1) (kf := 5) (I' := z_up I a 5 x) hd hx rfl rfl in_X1 tyX1 tyX1_ok nmX1 (by decide) (by rw [hy]; exact fl_X4_116) rfl (ty := .int) (by decide +kernel) rfl rfl (by simp) (fun q h => z_up_ne I a 5 x h) (by rw [z_up_at]; rfl) hp h
theorem fl_X1_55 : Cond.fieldLink RX1 55 (TX1 6).1 (TX1 6).2.1 (TX1 6).2.2.1 ∈ gw := gw_at 134 (by decide +kernel) rfl
/-- StripeTasks$State.jobTask -/
theorem g_X1_55 (hy : y.cls = RX1) (hd : decode cc pc = .ok (.getfield 55, 3)) (hx : (a, sSt a) ∈ G) (hp : pc + 3 = pc') (h : z_V E l (y, cc, nL, ret, hh) R mc ms Q k n G I sz pc' lv (.int (I a 6) :: st)) : z_V E l (y, cc, nL, ret, hh) R mc ms Q k n G I sz pc lv (.ref a :: st) := v_get (ci := 1) (kf := 6) hd hx rfl rfl in_X1 (by decide) (by rw [hy]; exact fl_X1_55) rfl hp h
theorem p_X1_55 {x : Int32} (hy : y.cls = RX1) (hd : decode cc pc = .ok (.putfield 55, 3)) (hx : (a, sSt a) ∈ G) (hp : pc + 3 = pc') (h : z_V E l (y, cc, nL, ret, hh) R mc ms Q k n G (z_up I a 6 x) sz pc' lv st) : z_V E l (y, cc, nL, ret, hh) R mc ms Q k n G I sz pc lv (.int x :: .ref a :: st) := v_put (ci := 1) (kf := 6) (I' := z_up I a 6 x) hd hx rfl rfl in_X1 tyX1 tyX1_ok nmX1 (by decide) (by rw [hy]; exact fl_X1_55) rfl (ty := .int) (by decide +kernel) rfl rfl (by simp) (fun q h => z_up_ne I a 6 x h) (by rw [z_up_at]; rfl) hp h
theorem fl_X4_161 : Cond.fieldLink RX4 161 (TX1 6).1 (TX1 6).2.1 (TX1 6).2.2.1 ∈ gw := gw_at 135 (by decide +kernel) rfl
/-- StripeTasks$State.jobTask -/
theorem g_X4_161 (hy : y.cls = RX4) (hd : decode cc pc = .ok (.getfield 161, 3)) (hx : (a, sSt a) ∈ G) (hp : pc + 3 = pc') (h : z_V E l (y, cc, nL, ret, hh) R mc ms Q k n G I sz pc' lv (.int (I a 6) :: st)) : z_V E l (y, cc, nL, ret, hh) R mc ms Q k n G I sz pc lv (.ref a :: st) := v_get (ci := 1) (kf := 6) hd hx rfl rfl in_X1 (by decide) (by rw [hy]; exact fl_X4_161) rfl hp h
theorem p_X4_161 {x : Int32} (hy : y.cls = RX4) (hd : decode cc pc = .ok (.putfield 161, 3)) (hx : (a, sSt a) ∈ G) (hp : pc + 3 = pc') (h : z_V E l (y, cc, nL, ret, hh) R mc ms Q k n G (z_up I a 6 x) sz pc' lv st) : z_V E l (y, cc, nL, ret, hh) R mc ms Q k n G I sz pc lv (.int x :: .ref a :: st) := v_put (ci := 1) (kf := 6) (I' := z_up I a 6 x) hd hx rfl rfl in_X1 tyX1 tyX1_ok nmX1 (by decide) (by rw [hy]; exact fl_X4_161) rfl (ty := .int) (by decide +kernel) rfl rfl (by simp) (fun q h => z_up_ne I a 6 x h) (by rw [z_up_at]; rfl) hp h
theorem fl_X1_58 : Cond.fieldLink RX1 58 (TX1 7).1 (TX1 7).2.1 (TX1 7).2.2.1 ∈ gw := gw_at 136 (by decide +kernel) rfl
/-- StripeTasks$State.jobFirst -/
theorem g_X1_58 (hy : y.cls = RX1) (hd : decode cc pc = .ok (.getfield 58, 3)) (hx : (a, sSt a) ∈ G) (hp : pc + 3 = pc') (h : z_V E l (y, cc, nL, ret, hh) R mc ms Q k n G I sz pc' lv (.int (I a 7) :: st)) : z_V E l (y, cc, nL, ret, hh) R mc ms Q k n G I sz pc lv (.ref a :: st) := v_get (ci := 1) (kf := 7) hd hx rfl rfl in_X1 (by decide) (by rw [hy]; exact fl_X1_58) rfl hp h
theorem p_X1_58 {x : Int32} (hy : y.cls = RX1) (hd : decode cc pc = .ok (.putfield 58, 3)) (hx : (a, sSt a) ∈ G) (hp : pc + 3 = pc') (h : z_V E l (y, cc, nL, ret, hh) R mc ms Q k n G (z_up I a 7 x) sz pc' lv st) : z_V E l (y, cc, nL, ret, hh) R mc ms Q k n G I sz pc lv (.int x :: .ref a :: st) := v_put (ci := 1) (kf := 7) (I' := z_up I a 7 x) hd hx rfl rfl in_X1 tyX1 tyX1_ok nmX1 (by decide) (by rw [hy]; exact fl_X1_58) rfl (ty := .int) (by decide +kernel) rfl rfl (by simp) (fun q h => z_up_ne I a 7 x h) (by rw [z_up_at]; rfl) hp h
theorem fl_X4_164 : Cond.fieldLink RX4 164 (TX1 7).1 (TX1 7).2.1 (TX1 7).2.2.1 ∈ gw := gw_at 137 (by decide +kernel) rfl
/-- StripeTasks$State.jobFirst -/
theorem g_X4_164 (hy : y.cls = RX4) (hd : decode cc pc = .ok (.getfield 164, 3)) (hx : (a, sSt a) ∈ G) (hp : pc + 3 = pc') (h : z_V E l (y, cc, nL, ret, hh) R mc ms Q k n G I sz pc' lv (.int (I a 7) :: st)) : z_V E l (y, cc, nL, ret, hh) R mc ms Q k n G I sz pc lv (.ref a :: st) := v_get (ci := 1) (kf := 7) hd hx rfl rfl in_X1 (by decide) (by rw [hy]; exact fl_X4_164) rfl hp h
theorem p_X4_164 {x : Int32} (hy : y.cls = RX4) (hd : decode cc pc = .ok (.putfield 164, 3)) (hx : (a, sSt a) ∈ G) (hp : pc + 3 = pc') (h : z_V E l (y, cc, nL, ret, hh) R mc ms Q k n G (z_up I a 7 x) sz pc' lv st) : z_V E l (y, cc, nL, ret, hh) R mc ms Q k n G I sz pc lv (.int x :: .ref a :: st) := v_put (ci := 1) (kf := 7) (I' := z_up I a 7 x) hd hx rfl rfl in_X1 tyX1 tyX1_ok nmX1 (by decide) (by rw [hy]; exact fl_X4_164) rfl (ty := .int) (by decide +kernel) rfl rfl (by simp) (fun q h => z_up_ne I a 7 x h) (by rw [z_up_at]; rfl) hp h
theorem fl_X1_61 : Cond.fieldLink RX1 61 (TX1 8).1 (TX1 8).2.1 (TX1 8).2.2.1 ∈ gw := gw_at 138 (by decide +kernel) rfl
/-- StripeTasks$State.jobTicks -/
theorem g_X1_61 (hy : y.cls = RX1) (hd : decode cc pc = .ok (.getfield 61, 3)) (hx : (a, sSt a) ∈ G) (hp : pc + 3 = pc') (h : z_V E l (y, cc, nL, ret, hh) R mc ms Q k n G I sz pc' lv (.int (I a 8) :: st)) : z_V E l (y, cc, nL, ret, hh) R mc ms Q k n G I sz pc lv (.ref a :: st) := v_get (ci := 1) (kf := 8) hd hx rfl rfl in_X1 (by decide) (by rw [hy]; exact fl_X1_61) rfl hp h
theorem p_X1_61 {x : Int32} (hy : y.cls = RX1) (hd : decode cc pc = .ok (.putfield 61, 3)) (hx : (a, sSt a) ∈ G) (hp : pc + 3 = pc') (h : z_V E l (y, cc, nL, ret, hh) R mc ms Q k n G (z_up I a 8 x) sz pc' lv st) : z_V E l (y, cc, nL, ret, hh) R mc ms Q k n G I sz pc lv (.int x :: .ref a :: st) := v_put (ci := 1) (kf := 8) (I' := z_up I a 8 x) hd hx rfl rfl in_X1 tyX1 tyX1_ok nmX1 (by decide) (by rw [hy]; exact fl_X1_61) rfl (ty := .int) (by decide +kernel) rfl rfl (by simp) (fun q h => z_up_ne I a 8 x h) (by rw [z_up_at]; rfl) hp h
theorem fl_X4_167 : Cond.fieldLink RX4 167 (TX1 8).1 (TX1 8).2.1 (TX1 8).2.2.1 ∈ gw := gw_at 139 (by decide +kernel) rfl
/-- StripeTasks$State.jobTicks -/
theorem g_X4_167 (hy : y.cls = RX4) (hd : decode cc pc = .ok (.getfield 167, 3)) (hx : (a, sSt a) ∈ G) (hp : pc + 3 = pc') (h : z_V E l (y, cc, nL, ret, hh) R mc ms Q k n G I sz pc' lv (.int (I a 8) :: st)) : z_V E l (y, cc, nL, ret, hh) R mc ms Q k n G I sz pc lv (.ref a :: st) := v_get (ci := 1) (kf := 8) hd hx rfl rfl in_X1 (by decide) (by rw [hy]; exact fl_X4_167) rfl hp h
theorem p_X4_167 {x : Int32} (hy : y.cls = RX4) (hd : decode cc pc = .ok (.putfield 167, 3)) (hx : (a, sSt a) ∈ G) (hp : pc + 3 = pc') (h : z_V E l (y, cc, nL, ret, hh) R mc ms Q k n G (z_up I a 8 x) sz pc' lv st) : z_V E l (y, cc, nL, ret, hh) R mc ms Q k n G I sz pc lv (.int x :: .ref a :: st) := v_put (ci := 1) (kf := 8) (I' := z_up I a 8 x) hd hx rfl rfl in_X1 tyX1 tyX1_ok nmX1 (by decide) (by rw [hy]; exact fl_X4_167) rfl (ty := .int) (by decide +kernel) rfl rfl (by simp) (fun q h => z_up_ne I a 8 x h) (by rw [z_up_at]; rfl) hp h
theorem fl_X1_42 : Cond.fieldLink RX1 42 (TX1 9).1 (TX1 9).2.1 (TX1 9).2.2.1 ∈ gw := gw_at 140 (by decide +kernel) rfl
/-- StripeTasks$State.jobsDone -/
theorem g_X1_42 (hy : y.cls = RX1) (hd : decode cc pc = .ok (.getfield 42, 3)) (hx : (a, sSt a) ∈ G) (hp : pc + 3 = pc') (h : z_V E l (y, cc, nL, ret, hh) R mc ms Q k n G I sz pc' lv (.int (I a 9) :: st)) : z_V E l (y, cc, nL, ret, hh) R mc ms Q k n G I sz pc lv (.ref a :: st) := v_get (ci := 1) (kf := 9) hd hx rfl rfl in_X1 (by decide) (by rw [hy]; exact fl_X1_42) rfl hp h
theorem p_X1_42 {x : Int32} (hy : y.cls = RX1) (hd : decode cc pc = .ok (.putfield 42, 3)) (hx : (a, sSt a) ∈ G) (hp : pc + 3 = pc') (h : z_V E l (y, cc, nL, ret, hh) R mc ms Q k n G (z_up I a 9 x) sz pc' lv st) : z_V E l (y, cc, nL, ret, hh) R mc ms Q k n G I sz pc lv (.int x :: .ref a :: st) := v_put (ci := 1) (kf := 9) (I' := z_up I a 9 x) hd hx rfl rfl in_X1 tyX1 tyX1_ok nmX1 (by decide) (by rw [hy]; exact fl_X1_42) rfl (ty := .int) (by decide +kernel) rfl rfl (by simp) (fun q h => z_up_ne I a 9 x h) (by rw [z_up_at]; rfl) hp h
theorem fl_X4_110 : Cond.fieldLink RX4 110 (TX1 9).1 (TX1 9).2.1 (TX1 9).2.2.1 ∈ gw := gw_at 141 (by decide +kernel) rfl
/-- StripeTasks$State.jobsDone -/
theorem g_X4_110 (hy : y.cls = RX4) (hd : decode cc pc = .ok (.getfield 110, 3)) (hx : (a, sSt a) ∈ G) (hp : pc + 3 = pc') (h : z_V E l (y, cc, nL, ret, hh) R mc ms Q k n G I sz pc' lv (.int (I a 9) :: st)) : z_V E l (y, cc, nL, ret, hh) R mc ms Q k n G I sz pc lv (.ref a :: st) := v_get (ci := 1) (kf := 9) hd hx rfl rfl in_X1 (by decide) (by rw [hy]; exact fl_X4_110) rfl hp h
theorem p_X4_110 {x : Int32} (hy : y.cls = RX4) (hd : decode cc pc = .ok (.putfield 110, 3)) (hx : (a, sSt a) ∈ G) (hp : pc + 3 = pc') (h : z_V E l (y, cc, nL, ret, hh) R mc ms Q k n G (z_up I a 9 x) sz pc' lv st) : z_V E l (y, cc, nL, ret, hh) R mc ms Q k n G I sz pc lv (.int x :: .ref a :: st) := v_put (ci := 1) (kf := 9) (I' := z_up I a 9 x) hd hx rfl rfl in_X1 tyX1 tyX1_ok nmX1 (by decide) (by rw [hy]; exact fl_X4_110) rfl (ty := .int) (by decide +kernel) rfl rfl (by simp) (fun q h => z_up_ne I a 9 x h) (by rw [z_up_at]; rfl) hp h
theorem fl_X1_45 : Cond.fieldLink RX1 45 (TX1 10).1 (TX1 10).2.1 (TX1 10).2.2.1 ∈ gw := gw_at 142 (by decide +kernel) rfl
/-- StripeTasks$State.jobsLost -/
theorem g_X1_45 (hy : y.cls = RX1) (hd : decode cc pc = .ok (.getfield 45, 3)) (hx : (a, sSt a) ∈ G) (hp : pc + 3 = pc') (h : z_V E l (y, cc, nL, ret, hh) R mc ms Q k n G I sz pc' lv (.int (I a 10) :: st)) : z_V E l (y, cc, nL, ret, hh) R mc ms Q k n G I sz pc lv (.ref a :: st) := v_get (ci := 1) (kf := 10) hd hx rfl rfl in_X1 (by decide) (by rw [hy]; exact fl_X1_45) rfl hp h
theorem p_X1_45 {x : Int32} (hy : y.cls = RX1) (hd : decode cc pc = .ok (.putfield 45, 3)) (hx : (a, sSt a) ∈ G) (hp : pc + 3 = pc') (h : z_V E l (y, cc, nL, ret, hh) R mc ms Q k n G (z_up I a 10 x) sz pc' lv st) : z_V E l (y, cc, nL, ret, hh) R mc ms Q k n G I sz pc lv (.int x :: .ref a :: st) := v_put (ci := 1) (kf := 10) (I' := z_up I a 10 x) hd hx rfl rfl in_X1 tyX1 tyX1_ok nmX1 (by decide) (by rw [hy]; exact fl_X1_45) rfl (ty := .int) (by decide +kernel) rfl rfl (by simp) (fun q h => z_up_ne I a 10 x h) (by rw [z_up_at]; rfl) hp h
theorem fl_X4_113 : Cond.fieldLink RX4 113 (TX1 10).1 (TX1 10).2.1 (TX1 10).2.2.1 ∈ gw := gw_at 143 (by decide +kernel) rfl
/-- StripeTasks$State.jobsLost -/
theorem g_X4_113 (hy : y.cls = RX4) (hd : decode cc pc = .ok (.getfield 113, 3)) (hx : (a, sSt a) ∈ G) (hp : pc + 3 = pc') (h : z_V E l (y, cc, nL, ret, hh) R mc ms Q k n G I sz pc' lv (.int (I a 10) :: st)) : z_V E l (y, cc, nL, ret, hh) R mc ms Q k n G I sz pc lv (.ref a :: st) := v_get (ci := 1) (kf := 10) hd hx rfl rfl in_X1 (by decide) (by rw [hy]; exact fl_X4_113) rfl hp h
theorem p_X4_113 {x : Int32} (hy : y.cls = RX4) (hd : decode cc pc = .ok (.putfield 113, 3)) (hx : (a, sSt a) ∈ G) (hp : pc + 3 = pc') (h : z_V E l (y, cc, nL, ret, hh) R mc ms Q k n G (z_up I a 10 x) sz pc' lv st) : z_V E l (y, cc, nL, ret, hh) R mc ms Q k n G I sz pc lv (.int x :: .ref a :: st) := v_put (ci := 1) (kf := 10) (I' := z_up I a 10 x) hd hx rfl rfl in_X1 tyX1 tyX1_ok nmX1 (by decide) (by rw [hy]; exact fl_X4_113) rfl (ty := .int) (by decide +kernel) rfl rfl (by simp) (fun q h => z_up_ne I a 10 x h) (by rw [z_up_at]; rfl) hp h
theorem fl_X0_11 : Cond.fieldLink RX0 11 (TX0 0).1 (TX0 0).2.1 (TX0 0).2.2.1 ∈ gw := gw_at 176 (by decide +kernel) rfl
/-- StripeTasks$History.states -/
theorem g_X0_11 (hy : y.cls = RX0) (hd : decode cc pc = .ok (.getfield 11, 3)) (hx : (a, sHi a) ∈ G) (hp : pc + 3 = pc') (h : z_V E l (y, cc, nL, ret, hh) R mc ms Q k n G I sz pc' lv (.ref (a + 1) :: st)) : z_V E l (y, cc, nL, ret, hh) R mc ms Q k n G I sz pc lv (.ref a :: st) := v_get (ci := 0) (kf := 0) hd hx rfl rfl in_X0 (by decide) (by rw [hy]; exact fl_X0_11) rfl hp h
theorem fl_X0_17 : Cond.fieldLink RX0 17 (TX0 1).1 (TX0 1).2.1 (TX0 1).2.2.1 ∈ gw := gw_at 177 (by decide +kernel) rfl
/-- StripeTasks$History.oldest -/
theorem g_X0_17 (hy : y.cls = RX0) (hd : decode cc pc = .ok (.getfield 17, 3)) (hx : (a, sHi a) ∈ G) (hp : pc + 3 = pc') (h : z_V E l (y, cc, nL, ret, hh) R mc ms Q k n G I sz pc' lv (.int (I a 1) :: st)) : z_V E l (y, cc, nL, ret, hh) R mc ms Q k n G I sz pc lv (.ref a :: st) := v_get (ci := 0) (kf := 1) hd hx rfl rfl in_X0 (by decide) (by rw [hy]; exact fl_X0_17) rfl hp h
theorem p_X0_17 {x : Int32} (hy : y.cls = RX0) (hd : decode cc pc = .ok (.putfield 17, 3)) (hx : (a, sHi a) ∈ G) (hp : pc + 3 = pc') (h : z_V E l (y, cc, nL, ret, hh) R mc ms Q k n G (z_up I a 1 x) sz pc' lv st) : z_V E l (y, cc, nL, ret, hh) R mc ms Q k n G I sz pc lv (.int x :: .ref a :: st) := v_put (ci := 0) (kf := 1) (I' := z_up I a 1 x) hd hx rfl rfl in_X0 tyX0 tyX0_ok nmX0 (by decide) (by rw [hy]; exact fl_X0_17) rfl (ty := .int) (by decide +kernel) rfl rfl (by simp) (fun q h => z_up_ne I a 1 x h) (by rw [z_up_at]; rfl) hp h
theorem fl_X0_21 : Cond.fieldLink RX0 21 (TX0 2).1 (TX0 2).2.1 (TX0 2).2.2.1 ∈ gw := gw_at 178 (by decide +kernel) rfl
/-- StripeTasks$History.size -/
theorem g_X0_21 (hy : y.cls = RX0) (hd : decode cc pc = .ok (.getfield 21, 3)) (hx : (a, sHi a) ∈ G) (hp : pc + 3 = pc') (h : z_V E l (y, cc, nL, ret, hh) R mc ms Q k n G I sz pc' lv (.int (I a 2) :: st)) : z_V E l (y, cc, nL, ret, hh) R mc ms Q k n G I sz pc lv (.ref a :: st) := v_get (ci := 0) (kf := 2) hd hx rfl rfl in_X0 (by decide) (by rw [hy]; exact fl_X0_21) rfl hp h
theorem p_X0_21 {x : Int32} (hy : y.cls = RX0) (hd : decode cc pc = .ok (.putfield 21, 3)) (hx : (a, sHi a) ∈ G) (hp : pc + 3 = pc') (h : z_V E l (y, cc, nL, ret, hh) R mc ms Q k n G (z_up I a 2 x) sz pc' lv st) : z_V E l (y, cc, nL, ret, hh) R mc ms Q k n G I sz pc lv (.int x :: .ref a :: st) := v_put (ci := 0) (kf := 2) (I' := z_up I a 2 x) hd hx rfl rfl in_X0 tyX0 tyX0_ok nmX0 (by decide) (by rw [hy]; exact fl_X0_21) rfl (ty := .int) (by decide +kernel) rfl rfl (by simp) (fun q h => z_up_ne I a 2 x h) (by rw [z_up_at]; rfl) hp h
theorem fl_X4_225 : Cond.fieldLink RX4 225 (TX0 2).1 (TX0 2).2.1 (TX0 2).2.2.1 ∈ gw := gw_at 179 (by decide +kernel) rfl
/-- StripeTasks$History.size -/
theorem g_X4_225 (hy : y.cls = RX4) (hd : decode cc pc = .ok (.getfield 225, 3)) (hx : (a, sHi a) ∈ G) (hp : pc + 3 = pc') (h : z_V E l (y, cc, nL, ret, hh) R mc ms Q k n G I sz pc' lv (.int (I a 2) :: st)) : z_V E l (y, cc, nL, ret, hh) R mc ms Q k n G I sz pc lv (.ref a :: st) := v_get (ci := 0) (kf := 2) hd hx rfl rfl in_X0 (by decide) (by rw [hy]; exact fl_X4_225) rfl hp h
theorem p_X4_225 {x : Int32} (hy : y.cls = RX4) (hd : decode cc pc = .ok (.putfield 225, 3)) (hx : (a, sHi a) ∈ G) (hp : pc + 3 = pc') (h : z_V E l (y, cc, nL, ret, hh) R mc ms Q k n G (z_up I a 2 x) sz pc' lv st) : z_V E l (y, cc, nL, ret, hh) R mc ms Q k n G I sz pc lv (.int x :: .ref a :: st) := v_put (ci := 0) (kf := 2) (I' := z_up I a 2 x) hd hx rfl rfl in_X0 tyX0 tyX0_ok nmX0 (by decide) (by rw [hy]; exact fl_X4_225) rfl (ty := .int) (by decide +kernel) rfl rfl (by simp) (fun q h => z_up_ne I a 2 x h) (by rw [z_up_at]; rfl) hp h
theorem fl_X4_10 : Cond.fieldLink RX4 10 (TX4 0).1 (TX4 0).2.1 (TX4 0).2.2.1 ∈ gw := gw_at 187 (by decide +kernel) rfl
/-- StripeTasks.text -/
theorem g_X4_10 (hy : y.cls = RX4) (hd : decode cc pc = .ok (.getfield 10, 3)) (hx : (a, sSk a) ∈ G) (hp : pc + 3 = pc') (h : z_V E l (y, cc, nL, ret, hh) R mc ms Q k n G I sz pc' lv (.ref (a + 1) :: st)) : z_V E l (y, cc, nL, ret, hh) R mc ms Q k n G I sz pc lv (.ref a :: st) := v_get (ci := 4) (kf := 0) hd hx rfl rfl in_X4 (by decide) (by rw [hy]; exact fl_X4_10) rfl hp h
theorem fl_X4_19 : Cond.fieldLink RX4 19 (TX4 1).1 (TX4 1).2.1 (TX4 1).2.2.1 ∈ gw := gw_at 188 (by decide +kernel) rfl
/-- StripeTasks.now -/
theorem g_X4_19 (hy : y.cls = RX4) (hd : decode cc pc = .ok (.getfield 19, 3)) (hx : (a, sSk a) ∈ G) (hp : pc + 3 = pc') (h : z_V E l (y, cc, nL, ret, hh) R mc ms Q k n G I sz pc' lv (.ref (a + 3) :: st)) : z_V E l (y, cc, nL, ret, hh) R mc ms Q k n G I sz pc lv (.ref a :: st) := v_get (ci := 4) (kf := 1) hd hx rfl rfl in_X4 (by decide) (by rw [hy]; exact fl_X4_19) rfl hp h
theorem fl_X4_23 : Cond.fieldLink RX4 23 (TX4 2).1 (TX4 2).2.1 (TX4 2).2.2.1 ∈ gw := gw_at 189 (by decide +kernel) rfl
/-- StripeTasks.trial -/
theorem g_X4_23 (hy : y.cls = RX4) (hd : decode cc pc = .ok (.getfield 23, 3)) (hx : (a, sSk a) ∈ G) (hp : pc + 3 = pc') (h : z_V E l (y, cc, nL, ret, hh) R mc ms Q k n G I sz pc' lv (.ref (a + 13) :: st)) : z_V E l (y, cc, nL, ret, hh) R mc ms Q k n G I sz pc lv (.ref a :: st) := v_get (ci := 4) (kf := 2) hd hx rfl rfl in_X4 (by decide) (by rw [hy]; exact fl_X4_23) rfl hp h
theorem fl_X4_29 : Cond.fieldLink RX4 29 (TX4 3).1 (TX4 3).2.1 (TX4 3).2.2.1 ∈ gw := gw_at 190 (by decide +kernel) rfl
/-- StripeTasks.history -/
theorem g_X4_29 (hy : y.cls = RX4) (hd : decode cc pc = .ok (.getfield 29, 3)) (hx : (a, sSk a) ∈ G) (hp : pc + 3 = pc') (h : z_V E l (y, cc, nL, ret, hh) R mc ms Q k n G I sz pc' lv (.ref (a + 23) :: st)) : z_V E l (y, cc, nL, ret, hh) R mc ms Q k n G I sz pc lv (.ref a :: st) := v_get (ci := 4) (kf := 3) hd hx rfl rfl in_X4 (by decide) (by rw [hy]; exact fl_X4_29) rfl hp h
theorem fl_X4_33 : Cond.fieldLink RX4 33 (TX4 4).1 (TX4 4).2.1 (TX4 4).2.2.1 ∈ gw := gw_at 191 (by decide +kernel) rfl
/-- StripeTasks.slots -/
theorem g_X4_33 (hy : y.cls = RX4) (hd : decode cc pc = .ok (.getfield 33, 3)) (hx : (a, sSk a) ∈ G) (hp : pc + 3 = pc') (h : z_V E l (y, cc, nL, ret, hh) R mc ms Q k n G I sz pc' lv (.ref (a + 165) :: st)) : z_V E l (y, cc, nL, ret, hh) R mc ms Q k n G I sz pc lv (.ref a :: st) := v_get (ci := 4) (kf := 4) hd hx rfl rfl in_X4 (by decide) (by rw [hy]; exact fl_X4_33) rfl hp h
theorem fl_X4_37 : Cond.fieldLink RX4 37 (TX4 5).1 (TX4 5).2.1 (TX4 5).2.2.1 ∈ gw := gw_at 192 (by decide +kernel) rfl
/-- StripeTasks.slotFilled -/
theorem g_X4_37 (hy : y.cls = RX4) (hd : decode cc pc = .ok (.getfield 37, 3)) (hx : (a, sSk a) ∈ G) (hp : pc + 3 = pc') (h : z_V E l (y, cc, nL, ret, hh) R mc ms Q k n G I sz pc' lv (.ref (a + 166) :: st)) : z_V E l (y, cc, nL, ret, hh) R mc ms Q k n G I sz pc lv (.ref a :: st) := v_get (ci := 4) (kf := 5) hd hx rfl rfl in_X4 (by decide) (by rw [hy]; exact fl_X4_37) rfl hp h
theorem fl_X4_219 : Cond.fieldLink RX4 219 RX4 "LEAST_SETTINGS" "[I" ∈ gw := gw_at 646 (by decide +kernel) rfl
theorem fl_X4_222 : Cond.fieldLink RX4 222 RX4 "MOST_SETTINGS" "[I" ∈ gw := gw_at 648 (by decide +kernel) rfl
theorem fl_X5_33 : Cond.fieldLink RX5 33 (TX5 0).1 (TX5 0).2.1 (TX5 0).2.2.1 ∈ gw := gw_at 766 (by decide +kernel) rfl
/-- StripeTasksModel.refusal -/
theorem g_X5_33 (hy : y.cls = RX5) (hd : decode cc pc = .ok (.getfield 33, 3)) (hx : (a, sMd a) ∈ G) (hp : pc + 3 = pc') (h : z_V E l (y, cc, nL, ret, hh) R mc ms Q k n G I sz pc' lv (.int (I a 0) :: st)) : z_V E l (y, cc, nL, ret, hh) R mc ms Q k n G I sz pc lv (.ref a :: st) := v_get (ci := 5) (kf := 0) hd hx rfl rfl in_X5 (by decide) (by rw [hy]; exact fl_X5_33) rfl hp h
theorem p_X5_33 {x : Int32} (hy : y.cls = RX5) (hd : decode cc pc = .ok (.putfield 33, 3)) (hx : (a, sMd a) ∈ G) (hp : pc + 3 = pc') (h : z_V E l (y, cc, nL, ret, hh) R mc ms Q k n G (z_up I a 0 x) sz pc' lv st) : z_V E l (y, cc, nL, ret, hh) R mc ms Q k n G I sz pc lv (.int x :: .ref a :: st) := v_put (ci := 5) (kf := 0) (I' := z_up I a 0 x) hd hx rfl rfl in_X5 tyX5 tyX5_ok nmX5 (by decide) (by rw [hy]; exact fl_X5_33) rfl (ty := .int) (by decide +kernel) rfl rfl (by simp) (fun q h => z_up_ne I a 0 x h) (by rw [z_up_at]; rfl) hp h
theorem fl_X5_7 : Cond.fieldLink RX5 7 (TX5 1).1 (TX5 1).2.1 (TX5 1).2.2.1 ∈ gw := gw_at 767 (by decide +kernel) rfl
/-- StripeTasksModel.text -/
theorem g_X5_7 (hy : y.cls = RX5) (hd : decode cc pc = .ok (.getfield 7, 3)) (hx : (a, sMd a) ∈ G) (hp : pc + 3 = pc') (h : z_V E l (y, cc, nL, ret, hh) R mc ms Q k n G I sz pc' lv (.ref (a + 1) :: st)) : z_V E l (y, cc, nL, ret, hh) R mc ms Q k n G I sz pc lv (.ref a :: st) := v_get (ci := 5) (kf := 1) hd hx rfl rfl in_X5 (by decide) (by rw [hy]; exact fl_X5_7) rfl hp h
theorem fl_X5_96 : Cond.fieldLink RX5 96 (TX5 2).1 (TX5 2).2.1 (TX5 2).2.2.1 ∈ gw := gw_at 768 (by decide +kernel) rfl
/-- StripeTasksModel.size -/
theorem g_X5_96 (hy : y.cls = RX5) (hd : decode cc pc = .ok (.getfield 96, 3)) (hx : (a, sMd a) ∈ G) (hp : pc + 3 = pc') (h : z_V E l (y, cc, nL, ret, hh) R mc ms Q k n G I sz pc' lv (.int (I a 2) :: st)) : z_V E l (y, cc, nL, ret, hh) R mc ms Q k n G I sz pc lv (.ref a :: st) := v_get (ci := 5) (kf := 2) hd hx rfl rfl in_X5 (by decide) (by rw [hy]; exact fl_X5_96) rfl hp h
theorem p_X5_96 {x : Int32} (hy : y.cls = RX5) (hd : decode cc pc = .ok (.putfield 96, 3)) (hx : (a, sMd a) ∈ G) (hp : pc + 3 = pc') (h : z_V E l (y, cc, nL, ret, hh) R mc ms Q k n G (z_up I a 2 x) sz pc' lv st) : z_V E l (y, cc, nL, ret, hh) R mc ms Q k n G I sz pc lv (.int x :: .ref a :: st) := v_put (ci := 5) (kf := 2) (I' := z_up I a 2 x) hd hx rfl rfl in_X5 tyX5 tyX5_ok nmX5 (by decide) (by rw [hy]; exact fl_X5_96) rfl (ty := .int) (by decide +kernel) rfl rfl (by simp) (fun q h => z_up_ne I a 2 x h) (by rw [z_up_at]; rfl) hp h
theorem fl_X5_13 : Cond.fieldLink RX5 13 (TX5 3).1 (TX5 3).2.1 (TX5 3).2.2.1 ∈ gw := gw_at 769 (by decide +kernel) rfl
/-- StripeTasksModel.now -/
theorem g_X5_13 (hy : y.cls = RX5) (hd : decode cc pc = .ok (.getfield 13, 3)) (hx : (a, sMd a) ∈ G) (hp : pc + 3 = pc') (h : z_V E l (y, cc, nL, ret, hh) R mc ms Q k n G I sz pc' lv (.ref (a + 2) :: st)) : z_V E l (y, cc, nL, ret, hh) R mc ms Q k n G I sz pc lv (.ref a :: st) := v_get (ci := 5) (kf := 3) hd hx rfl rfl in_X5 (by decide) (by rw [hy]; exact fl_X5_13) rfl hp h
theorem fl_X5_16 : Cond.fieldLink RX5 16 (TX5 4).1 (TX5 4).2.1 (TX5 4).2.2.1 ∈ gw := gw_at 770 (by decide +kernel) rfl
/-- StripeTasksModel.trial -/
theorem g_X5_16 (hy : y.cls = RX5) (hd : decode cc pc = .ok (.getfield 16, 3)) (hx : (a, sMd a) ∈ G) (hp : pc + 3 = pc') (h : z_V E l (y, cc, nL, ret, hh) R mc ms Q k n G I sz pc' lv (.ref (a + 3) :: st)) : z_V E l (y, cc, nL, ret, hh) R mc ms Q k n G I sz pc lv (.ref a :: st) := v_get (ci := 5) (kf := 4) hd hx rfl rfl in_X5 (by decide) (by rw [hy]; exact fl_X5_16) rfl hp h
theorem fl_X5_19 : Cond.fieldLink RX5 19 (TX5 5).1 (TX5 5).2.1 (TX5 5).2.2.1 ∈ gw := gw_at 771 (by decide +kernel) rfl
/-- StripeTasksModel.diary -/
theorem g_X5_19 (hy : y.cls = RX5) (hd : decode cc pc = .ok (.getfield 19, 3)) (hx : (a, sMd a) ∈ G) (hp : pc + 3 = pc') (h : z_V E l (y, cc, nL, ret, hh) R mc ms Q k n G I sz pc' lv (.ref (a + 4) :: st)) : z_V E l (y, cc, nL, ret, hh) R mc ms Q k n G I sz pc lv (.ref a :: st) := v_get (ci := 5) (kf := 5) hd hx rfl rfl in_X5 (by decide) (by rw [hy]; exact fl_X5_19) rfl hp h
theorem fl_X5_152 : Cond.fieldLink RX5 152 (TX5 6).1 (TX5 6).2.1 (TX5 6).2.2.1 ∈ gw := gw_at 772 (by decide +kernel) rfl
/-- StripeTasksModel.acts -/
theorem g_X5_152 (hy : y.cls = RX5) (hd : decode cc pc = .ok (.getfield 152, 3)) (hx : (a, sMd a) ∈ G) (hp : pc + 3 = pc') (h : z_V E l (y, cc, nL, ret, hh) R mc ms Q k n G I sz pc' lv (.int (I a 6) :: st)) : z_V E l (y, cc, nL, ret, hh) R mc ms Q k n G I sz pc lv (.ref a :: st) := v_get (ci := 5) (kf := 6) hd hx rfl rfl in_X5 (by decide) (by rw [hy]; exact fl_X5_152) rfl hp h
theorem p_X5_152 {x : Int32} (hy : y.cls = RX5) (hd : decode cc pc = .ok (.putfield 152, 3)) (hx : (a, sMd a) ∈ G) (hp : pc + 3 = pc') (h : z_V E l (y, cc, nL, ret, hh) R mc ms Q k n G (z_up I a 6 x) sz pc' lv st) : z_V E l (y, cc, nL, ret, hh) R mc ms Q k n G I sz pc lv (.int x :: .ref a :: st) := v_put (ci := 5) (kf := 6) (I' := z_up I a 6 x) hd hx rfl rfl in_X5 tyX5 tyX5_ok nmX5 (by decide) (by rw [hy]; exact fl_X5_152) rfl (ty := .int) (by decide +kernel) rfl rfl (by simp) (fun q h => z_up_ne I a 6 x h) (by rw [z_up_at]; rfl) hp h
theorem fl_X5_22 : Cond.fieldLink RX5 22 (TX5 7).1 (TX5 7).2.1 (TX5 7).2.2.1 ∈ gw := gw_at 773 (by decide +kernel) rfl
/-- StripeTasksModel.kept -/
theorem g_X5_22 (hy : y.cls = RX5) (hd : decode cc pc = .ok (.getfield 22, 3)) (hx : (a, sMd a) ∈ G) (hp : pc + 3 = pc') (h : z_V E l (y, cc, nL, ret, hh) R mc ms Q k n G I sz pc' lv (.ref (a + 5) :: st)) : z_V E l (y, cc, nL, ret, hh) R mc ms Q k n G I sz pc lv (.ref a :: st) := v_get (ci := 5) (kf := 7) hd hx rfl rfl in_X5 (by decide) (by rw [hy]; exact fl_X5_22) rfl hp h
theorem fl_X5_25 : Cond.fieldLink RX5 25 (TX5 8).1 (TX5 8).2.1 (TX5 8).2.2.1 ∈ gw := gw_at 774 (by decide +kernel) rfl
/-- StripeTasksModel.isKept -/
theorem g_X5_25 (hy : y.cls = RX5) (hd : decode cc pc = .ok (.getfield 25, 3)) (hx : (a, sMd a) ∈ G) (hp : pc + 3 = pc') (h : z_V E l (y, cc, nL, ret, hh) R mc ms Q k n G I sz pc' lv (.ref (a + 6) :: st)) : z_V E l (y, cc, nL, ret, hh) R mc ms Q k n G I sz pc lv (.ref a :: st) := v_get (ci := 5) (kf := 8) hd hx rfl rfl in_X5 (by decide) (by rw [hy]; exact fl_X5_25) rfl hp h
theorem fl_X5_102 : Cond.fieldLink RX5 102 (TX5 9).1 (TX5 9).2.1 (TX5 9).2.2.1 ∈ gw := gw_at 775 (by decide +kernel) rfl
/-- StripeTasksModel.spot -/
theorem g_X5_102 (hy : y.cls = RX5) (hd : decode cc pc = .ok (.getfield 102, 3)) (hx : (a, sMd a) ∈ G) (hp : pc + 3 = pc') (h : z_V E l (y, cc, nL, ret, hh) R mc ms Q k n G I sz pc' lv (.int (I a 9) :: st)) : z_V E l (y, cc, nL, ret, hh) R mc ms Q k n G I sz pc lv (.ref a :: st) := v_get (ci := 5) (kf := 9) hd hx rfl rfl in_X5 (by decide) (by rw [hy]; exact fl_X5_102) rfl hp h
theorem p_X5_102 {x : Int32} (hy : y.cls = RX5) (hd : decode cc pc = .ok (.putfield 102, 3)) (hx : (a, sMd a) ∈ G) (hp : pc + 3 = pc') (h : z_V E l (y, cc, nL, ret, hh) R mc ms Q k n G (z_up I a 9 x) sz pc' lv st) : z_V E l (y, cc, nL, ret, hh) R mc ms Q k n G I sz pc lv (.int x :: .ref a :: st) := v_put (ci := 5) (kf := 9) (I' := z_up I a 9 x) hd hx rfl rfl in_X5 tyX5 tyX5_ok nmX5 (by decide) (by rw [hy]; exact fl_X5_102) rfl (ty := .int) (by decide +kernel) rfl rfl (by simp) (fun q h => z_up_ne I a 9 x h) (by rw [z_up_at]; rfl) hp h
theorem fl_X5_105 : Cond.fieldLink RX5 105 (TX5 10).1 (TX5 10).2.1 (TX5 10).2.2.1 ∈ gw := gw_at 776 (by decide +kernel) rfl
/-- StripeTasksModel.out -/
theorem g_X5_105 (hy : y.cls = RX5) (hd : decode cc pc = .ok (.getfield 105, 3)) (hx : (a, sMd a) ∈ G) (hp : pc + 3 = pc') (h : z_V E l (y, cc, nL, ret, hh) R mc ms Q k n G I sz pc' lv (.int (I a 10) :: st)) : z_V E l (y, cc, nL, ret, hh) R mc ms Q k n G I sz pc lv (.ref a :: st) := v_get (ci := 5) (kf := 10) hd hx rfl rfl in_X5 (by decide) (by rw [hy]; exact fl_X5_105) rfl hp h
theorem p_X5_105 {x : Int32} (hy : y.cls = RX5) (hd : decode cc pc = .ok (.putfield 105, 3)) (hx : (a, sMd a) ∈ G) (hp : pc + 3 = pc') (h : z_V E l (y, cc, nL, ret, hh) R mc ms Q k n G (z_up I a 10 x) sz pc' lv st) : z_V E l (y, cc, nL, ret, hh) R mc ms Q k n G I sz pc lv (.int x :: .ref a :: st) := v_put (ci := 5) (kf := 10) (I' := z_up I a 10 x) hd hx rfl rfl in_X5 tyX5 tyX5_ok nmX5 (by decide) (by rw [hy]; exact fl_X5_105) rfl (ty := .int) (by decide +kernel) rfl rfl (by simp) (fun q h => z_up_ne I a 10 x h) (by rw [z_up_at]; rfl) hp h
end ZFIELDS
theorem fl_X1_29 : Cond.fieldLinkNest RX1 29 RX4 "FIRST_SETTINGS" "[I" RX4 ∈ z_nst := z_nst_at 118 (by decide +kernel) rfl
abbrev mX4_init : zM := (yX4_init, cX4_init, 2, (none), [])
theorem mwX4_init : z_mw yX4_init cX4_init 2 (none) 0 := ⟨gw_at 13 (by decide +kernel) rfl, gw_at 30 (by decide +kernel) rfl, (by decide +kernel), by decide⟩
theorem miX4_init : Cond.instanceMethod yX4_init ∈ gw := gw_at 29 (by decide +kernel) rfl
abbrev mX3_init : zM := (yX3_init, cX3_init, 1, (none), [])
theorem mwX3_init : z_mw yX3_init cX3_init 1 (none) 0 := ⟨gw_at 14 (by decide +kernel) rfl, gw_at 38 (by decide +kernel) rfl, (by decide +kernel), by decide⟩
theorem miX3_init : Cond.instanceMethod yX3_init ∈ gw := gw_at 37 (by decide +kernel) rfl
abbrev mX1_init : zM := (yX1_init, cX1_init, 2, (none), [])
theorem mwX1_init : z_mw yX1_init cX1_init 2 (none) 0 := ⟨gw_at 15 (by decide +kernel) rfl, gw_at 70 (by decide +kernel) rfl, (by decide +kernel), by decide⟩
theorem miX1_init : Cond.instanceMethod yX1_init ∈ gw := gw_at 69 (by decide +kernel) rfl
abbrev mX2_init : zM := (yX2_init, cX2_init, 1, (none), [])
theorem mwX2_init : z_mw yX2_init cX2_init 1 (none) 0 := ⟨gw_at 16 (by decide +kernel) rfl, gw_at 77 (by decide +kernel) rfl, (by decide +kernel), by decide⟩
theorem miX2_init : Cond.instanceMethod yX2_init ∈ gw := gw_at 76 (by decide +kernel) rfl
abbrev mX1_reset : zM := (yX1_reset, cX1_reset, 2, (none), [])
theorem mwX1_reset : z_mw yX1_reset cX1_reset 2 (none) 0 := ⟨gw_at 15 (by decide +kernel) rfl, gw_at 117 (by decide +kernel) rfl, (by decide +kernel), by decide⟩
theorem miX1_reset : z_mi yX1_reset := ⟨gw_at 115 (by decide +kernel) rfl, gw_at 116 (by decide +kernel) rfl⟩
abbrev mX1_endJob : zM := (yX1_endJob, cX1_endJob, 1, (none), [])
theorem mwX1_endJob : z_mw yX1_endJob cX1_endJob 1 (none) 0 := ⟨gw_at 15 (by decide +kernel) rfl, gw_at 123 (by decide +kernel) rfl, (by decide +kernel), by decide⟩
theorem miX1_endJob : z_mi yX1_endJob := ⟨gw_at 121 (by decide +kernel) rfl, gw_at 122 (by decide +kernel) rfl⟩
abbrev mX0_init : zM := (yX0_init, cX0_init, 2, (none), [])
theorem mwX0_init : z_mw yX0_init cX0_init 2 (none) 0 := ⟨gw_at 17 (by decide +kernel) rfl, gw_at 171 (by decide +kernel) rfl, (by decide +kernel), by decide⟩
theorem miX0_init : Cond.instanceMethod yX0_init ∈ gw := gw_at 170 (by decide +kernel) rfl
abbrev mX4_clearText : zM := (yX4_clearText, cX4_clearText, 1, (some FieldType.int), [])
theorem mwX4_clearText : z_mw yX4_clearText cX4_clearText 1 (some FieldType.int) 0 := ⟨gw_at 13 (by decide +kernel) rfl, gw_at 209 (by decide +kernel) rfl, (by decide +kernel), by decide⟩
theorem miX4_clearText : z_mi yX4_clearText := ⟨gw_at 207 (by decide +kernel) rfl, gw_at 208 (by decide +kernel) rfl⟩
abbrev mX3_makeEmpty : zM := (yX3_makeEmpty, cX3_makeEmpty, 2, (some FieldType.int), [])
theorem mwX3_makeEmpty : z_mw yX3_makeEmpty cX3_makeEmpty 2 (some FieldType.int) 0 := ⟨gw_at 14 (by decide +kernel) rfl, gw_at 213 (by decide +kernel) rfl, (by decide +kernel), by decide⟩
theorem miX3_makeEmpty : z_mi yX3_makeEmpty := ⟨gw_at 211 (by decide +kernel) rfl, gw_at 212 (by decide +kernel) rfl⟩
abbrev mX4_errorPosition : zM := (yX4_errorPosition, cX4_errorPosition, 1, (some FieldType.int), [])
theorem mwX4_errorPosition : z_mw yX4_errorPosition cX4_errorPosition 1 (some FieldType.int) 0 := ⟨gw_at 13 (by decide +kernel) rfl, gw_at 217 (by decide +kernel) rfl, (by decide +kernel), by decide⟩
theorem miX4_errorPosition : z_mi yX4_errorPosition := ⟨gw_at 215 (by decide +kernel) rfl, gw_at 216 (by decide +kernel) rfl⟩
abbrev mX3_firstError : zM := (yX3_firstError, cX3_firstError, 2, (some FieldType.int), [])
theorem mwX3_firstError : z_mw yX3_firstError cX3_firstError 2 (some FieldType.int) 0 := ⟨gw_at 14 (by decide +kernel) rfl, gw_at 221 (by decide +kernel) rfl, (by decide +kernel), by decide⟩
theorem miX3_firstError : z_mi yX3_firstError := ⟨gw_at 219 (by decide +kernel) rfl, gw_at 220 (by decide +kernel) rfl⟩
abbrev mX3_beginReading : zM := (yX3_beginReading, cX3_beginReading, 1, (none), [])
theorem mwX3_beginReading : z_mw yX3_beginReading cX3_beginReading 1 (none) 0 := ⟨gw_at 14 (by decide +kernel) rfl, gw_at 225 (by decide +kernel) rfl, (by decide +kernel), by decide⟩
theorem miX3_beginReading : z_mi yX3_beginReading := ⟨gw_at 223 (by decide +kernel) rfl, gw_at 224 (by decide +kernel) rfl⟩
abbrev mX3_readCommand : zM := (yX3_readCommand, cX3_readCommand, 1, (some FieldType.boolean), [])
theorem mwX3_readCommand : z_mw yX3_readCommand cX3_readCommand 1 (some FieldType.boolean) 0 := ⟨gw_at 14 (by decide +kernel) rfl, gw_at 229 (by decide +kernel) rfl, (by decide +kernel), by decide⟩
theorem miX3_readCommand : z_mi yX3_readCommand := ⟨gw_at 227 (by decide +kernel) rfl, gw_at 228 (by decide +kernel) rfl⟩
abbrev mX3_isInText : zM := (yX3_isInText, cX3_isInText, 2, (some FieldType.boolean), [])
theorem mwX3_isInText : z_mw yX3_isInText cX3_isInText 2 (some FieldType.boolean) 1 := ⟨gw_at 14 (by decide +kernel) rfl, gw_at 233 (by decide +kernel) rfl, (by decide +kernel), by decide⟩
theorem miX3_isInText : z_mi yX3_isInText := ⟨gw_at 232 (by decide +kernel) rfl, gw_at 0 (by decide +kernel) rfl⟩
abbrev mX4_isBetween : zM := (yX4_isBetween, cX4_isBetween, 3, (some FieldType.boolean), [])
theorem mwX4_isBetween : z_mw yX4_isBetween cX4_isBetween 3 (some FieldType.boolean) 3 := ⟨gw_at 13 (by decide +kernel) rfl, gw_at 236 (by decide +kernel) rfl, (by decide +kernel), by decide⟩
theorem msX4_isBetween : Cond.static yX4_isBetween ∈ gw := gw_at 235 (by decide +kernel) rfl
abbrev mX3_readNumber : zM := (yX3_readNumber, cX3_readNumber, 8, (some FieldType.int), [])
theorem mwX3_readNumber : z_mw yX3_readNumber cX3_readNumber 8 (some FieldType.int) 3 := ⟨gw_at 14 (by decide +kernel) rfl, gw_at 240 (by decide +kernel) rfl, (by decide +kernel), by decide⟩
theorem miX3_readNumber : z_mi yX3_readNumber := ⟨gw_at 239 (by decide +kernel) rfl, gw_at 1 (by decide +kernel) rfl⟩
abbrev mX3_digitAt : zM := (yX3_digitAt, cX3_digitAt, 2, (some FieldType.int), [])
theorem mwX3_digitAt : z_mw yX3_digitAt cX3_digitAt 2 (some FieldType.int) 1 := ⟨gw_at 14 (by decide +kernel) rfl, gw_at 244 (by decide +kernel) rfl, (by decide +kernel), by decide⟩
theorem miX3_digitAt : z_mi yX3_digitAt := ⟨gw_at 243 (by decide +kernel) rfl, gw_at 2 (by decide +kernel) rfl⟩
abbrev mX4_idleIn : zM := (yX4_idleIn, cX4_idleIn, 1, (some FieldType.int), [])
theorem mwX4_idleIn : z_mw yX4_idleIn cX4_idleIn 1 (some FieldType.int) 0 := ⟨gw_at 13 (by decide +kernel) rfl, gw_at 248 (by decide +kernel) rfl, (by decide +kernel), by decide⟩
theorem miX4_idleIn : z_mi yX4_idleIn := ⟨gw_at 246 (by decide +kernel) rfl, gw_at 247 (by decide +kernel) rfl⟩
abbrev mX1_ticksUntilIdle : zM := (yX1_ticksUntilIdle, cX1_ticksUntilIdle, 2, (some FieldType.int), [])
theorem mwX1_ticksUntilIdle : z_mw yX1_ticksUntilIdle cX1_ticksUntilIdle 2 (some FieldType.int) 0 := ⟨gw_at 15 (by decide +kernel) rfl, gw_at 252 (by decide +kernel) rfl, (by decide +kernel), by decide⟩
theorem miX1_ticksUntilIdle : z_mi yX1_ticksUntilIdle := ⟨gw_at 250 (by decide +kernel) rfl, gw_at 251 (by decide +kernel) rfl⟩
abbrev mX1_jobOwner : zM := (yX1_jobOwner, cX1_jobOwner, 1, (some (FieldType.object "StripeTasks$Task")), [])
theorem mwX1_jobOwner : z_mw yX1_jobOwner cX1_jobOwner 1 (some (FieldType.object "StripeTasks$Task")) 0 := ⟨gw_at 15 (by decide +kernel) rfl, gw_at 256 (by decide +kernel) rfl, (by decide +kernel), by decide⟩
theorem miX1_jobOwner : z_mi yX1_jobOwner := ⟨gw_at 254 (by decide +kernel) rfl, gw_at 255 (by decide +kernel) rfl⟩
abbrev mX1_taskNumbered : zM := (yX1_taskNumbered, cX1_taskNumbered, 2, (some (FieldType.object "StripeTasks$Task")), [])
theorem mwX1_taskNumbered : z_mw yX1_taskNumbered cX1_taskNumbered 2 (some (FieldType.object "StripeTasks$Task")) 1 := ⟨gw_at 15 (by decide +kernel) rfl, gw_at 260 (by decide +kernel) rfl, (by decide +kernel), by decide⟩
theorem miX1_taskNumbered : z_mi yX1_taskNumbered := ⟨gw_at 258 (by decide +kernel) rfl, gw_at 259 (by decide +kernel) rfl⟩
abbrev mL_append : zM := (yL_append, cL_append, 4, (some FieldType.int), [((0 : Nat), (9 : Nat), (12 : Nat), (13 : Nat)), ((0 : Nat), (9 : Nat), (15 : Nat), (15 : Nat))])
theorem mwwL_append : Cond.initialized yL_append.cls ∈ gw := gw_at 12 (by decide +kernel) rfl
theorem mwcL_append : Cond.codeWith yL_append cL_append 4 (some FieldType.int) [((0 : Nat), (9 : Nat), (12 : Nat), (13 : Nat)), ((0 : Nat), (9 : Nat), (15 : Nat), (15 : Nat))] ∈ gw := gw_at 263 (by decide +kernel) rfl
theorem msL_append : Cond.static yL_append ∈ gw := gw_at 262 (by decide +kernel) rfl
abbrev mX4_append : zM := (yX4_append, cX4_append, 2, (some FieldType.int), [])
theorem mwX4_append : z_mw yX4_append cX4_append 2 (some FieldType.int) 1 := ⟨gw_at 13 (by decide +kernel) rfl, gw_at 269 (by decide +kernel) rfl, (by decide +kernel), by decide⟩
theorem miX4_append : z_mi yX4_append := ⟨gw_at 267 (by decide +kernel) rfl, gw_at 268 (by decide +kernel) rfl⟩
abbrev mX3_isFull : zM := (yX3_isFull, cX3_isFull, 1, (some FieldType.boolean), [])
theorem mwX3_isFull : z_mw yX3_isFull cX3_isFull 1 (some FieldType.boolean) 0 := ⟨gw_at 14 (by decide +kernel) rfl, gw_at 337 (by decide +kernel) rfl, (by decide +kernel), by decide⟩
theorem miX3_isFull : z_mi yX3_isFull := ⟨gw_at 335 (by decide +kernel) rfl, gw_at 336 (by decide +kernel) rfl⟩
abbrev mX3_put : zM := (yX3_put, cX3_put, 2, (some FieldType.int), [])
theorem mwX3_put : z_mw yX3_put cX3_put 2 (some FieldType.int) 1 := ⟨gw_at 14 (by decide +kernel) rfl, gw_at 356 (by decide +kernel) rfl, (by decide +kernel), by decide⟩
theorem miX3_put : z_mi yX3_put := ⟨gw_at 354 (by decide +kernel) rfl, gw_at 355 (by decide +kernel) rfl⟩
abbrev mL_load : zM := (yL_load, cL_load, 3, (some FieldType.int), [((0 : Nat), (8 : Nat), (11 : Nat), (15 : Nat))])
theorem mwwL_load : Cond.initialized yL_load.cls ∈ gw := gw_at 12 (by decide +kernel) rfl
theorem mwcL_load : Cond.codeWith yL_load cL_load 3 (some FieldType.int) [((0 : Nat), (8 : Nat), (11 : Nat), (15 : Nat))] ∈ gw := gw_at 359 (by decide +kernel) rfl
theorem msL_load : Cond.static yL_load ∈ gw := gw_at 358 (by decide +kernel) rfl
abbrev mX4_load : zM := (yX4_load, cX4_load, 3, (some FieldType.int), [])
theorem mwX4_load : z_mw yX4_load cX4_load 3 (some FieldType.int) 0 := ⟨gw_at 13 (by decide +kernel) rfl, gw_at 363 (by decide +kernel) rfl, (by decide +kernel), by decide⟩
theorem miX4_load : z_mi yX4_load := ⟨gw_at 361 (by decide +kernel) rfl, gw_at 362 (by decide +kernel) rfl⟩
abbrev mX0_forgetAll : zM := (yX0_forgetAll, cX0_forgetAll, 1, (none), [])
theorem mwX0_forgetAll : z_mw yX0_forgetAll cX0_forgetAll 1 (none) 0 := ⟨gw_at 17 (by decide +kernel) rfl, gw_at 368 (by decide +kernel) rfl, (by decide +kernel), by decide⟩
theorem miX0_forgetAll : z_mi yX0_forgetAll := ⟨gw_at 366 (by decide +kernel) rfl, gw_at 367 (by decide +kernel) rfl⟩
abbrev mX4_obeyTextCommand : zM := (yX4_obeyTextCommand, cX4_obeyTextCommand, 4, (some FieldType.boolean), [])
theorem mwX4_obeyTextCommand : z_mw yX4_obeyTextCommand cX4_obeyTextCommand 4 (some FieldType.boolean) 4 := ⟨gw_at 13 (by decide +kernel) rfl, gw_at 373 (by decide +kernel) rfl, (by decide +kernel), by decide⟩
theorem msX4_obeyTextCommand : Cond.static yX4_obeyTextCommand ∈ gw := gw_at 372 (by decide +kernel) rfl
abbrev mX1_addTask : zM := (yX1_addTask, cX1_addTask, 3, (some FieldType.int), [])
theorem mwX1_addTask : z_mw yX1_addTask cX1_addTask 3 (some FieldType.int) 2 := ⟨gw_at 15 (by decide +kernel) rfl, gw_at 377 (by decide +kernel) rfl, (by decide +kernel), by decide⟩
theorem miX1_addTask : z_mi yX1_addTask := ⟨gw_at 375 (by decide +kernel) rfl, gw_at 376 (by decide +kernel) rfl⟩
abbrev mX1_hasRoomForTask : zM := (yX1_hasRoomForTask, cX1_hasRoomForTask, 1, (some FieldType.boolean), [])
theorem mwX1_hasRoomForTask : z_mw yX1_hasRoomForTask cX1_hasRoomForTask 1 (some FieldType.boolean) 0 := ⟨gw_at 15 (by decide +kernel) rfl, gw_at 381 (by decide +kernel) rfl, (by decide +kernel), by decide⟩
theorem miX1_hasRoomForTask : z_mi yX1_hasRoomForTask := ⟨gw_at 379 (by decide +kernel) rfl, gw_at 380 (by decide +kernel) rfl⟩
abbrev mX2_begin : zM := (yX2_begin, cX2_begin, 3, (none), [])
theorem mwX2_begin : z_mw yX2_begin cX2_begin 3 (none) 2 := ⟨gw_at 16 (by decide +kernel) rfl, gw_at 386 (by decide +kernel) rfl, (by decide +kernel), by decide⟩
theorem miX2_begin : z_mi yX2_begin := ⟨gw_at 384 (by decide +kernel) rfl, gw_at 385 (by decide +kernel) rfl⟩
abbrev mX2_switchOff : zM := (yX2_switchOff, cX2_switchOff, 1, (none), [])
theorem mwX2_switchOff : z_mw yX2_switchOff cX2_switchOff 1 (none) 0 := ⟨gw_at 16 (by decide +kernel) rfl, gw_at 390 (by decide +kernel) rfl, (by decide +kernel), by decide⟩
theorem miX2_switchOff : z_mi yX2_switchOff := ⟨gw_at 388 (by decide +kernel) rfl, gw_at 389 (by decide +kernel) rfl⟩
abbrev mX1_startJob : zM := (yX1_startJob, cX1_startJob, 6, (some FieldType.int), [])
theorem mwX1_startJob : z_mw yX1_startJob cX1_startJob 6 (some FieldType.int) 2 := ⟨gw_at 15 (by decide +kernel) rfl, gw_at 394 (by decide +kernel) rfl, (by decide +kernel), by decide⟩
theorem miX1_startJob : z_mi yX1_startJob := ⟨gw_at 392 (by decide +kernel) rfl, gw_at 393 (by decide +kernel) rfl⟩
abbrev mX1_canBring : zM := (yX1_canBring, cX1_canBring, 6, (some FieldType.boolean), [])
theorem mwX1_canBring : z_mw yX1_canBring cX1_canBring 6 (some FieldType.boolean) 2 := ⟨gw_at 15 (by decide +kernel) rfl, gw_at 398 (by decide +kernel) rfl, (by decide +kernel), by decide⟩
theorem miX1_canBring : z_mi yX1_canBring := ⟨gw_at 396 (by decide +kernel) rfl, gw_at 397 (by decide +kernel) rfl⟩
abbrev mX4_isStripe : zM := (yX4_isStripe, cX4_isStripe, 1, (some FieldType.boolean), [])
theorem mwX4_isStripe : z_mw yX4_isStripe cX4_isStripe 1 (some FieldType.boolean) 1 := ⟨gw_at 13 (by decide +kernel) rfl, gw_at 401 (by decide +kernel) rfl, (by decide +kernel), by decide⟩
theorem msX4_isStripe : Cond.static yX4_isStripe ∈ gw := gw_at 400 (by decide +kernel) rfl
abbrev mX1_isIdle : zM := (yX1_isIdle, cX1_isIdle, 1, (some FieldType.boolean), [])
theorem mwX1_isIdle : z_mw yX1_isIdle cX1_isIdle 1 (some FieldType.boolean) 0 := ⟨gw_at 15 (by decide +kernel) rfl, gw_at 405 (by decide +kernel) rfl, (by decide +kernel), by decide⟩
theorem miX1_isIdle : z_mi yX1_isIdle := ⟨gw_at 403 (by decide +kernel) rfl, gw_at 404 (by decide +kernel) rfl⟩
abbrev mX1_takerOf : zM := (yX1_takerOf, cX1_takerOf, 3, (some FieldType.int), [])
theorem mwX1_takerOf : z_mw yX1_takerOf cX1_takerOf 3 (some FieldType.int) 1 := ⟨gw_at 15 (by decide +kernel) rfl, gw_at 409 (by decide +kernel) rfl, (by decide +kernel), by decide⟩
theorem miX1_takerOf : z_mi yX1_takerOf := ⟨gw_at 407 (by decide +kernel) rfl, gw_at 408 (by decide +kernel) rfl⟩
abbrev mX2_takes : zM := (yX2_takes, cX2_takes, 2, (some FieldType.boolean), [])
theorem mwX2_takes : z_mw yX2_takes cX2_takes 2 (some FieldType.boolean) 1 := ⟨gw_at 16 (by decide +kernel) rfl, gw_at 413 (by decide +kernel) rfl, (by decide +kernel), by decide⟩
theorem miX2_takes : z_mi yX2_takes := ⟨gw_at 411 (by decide +kernel) rfl, gw_at 412 (by decide +kernel) rfl⟩
abbrev mX1_isGood : zM := (yX1_isGood, cX1_isGood, 2, (some FieldType.boolean), [])
theorem mwX1_isGood : z_mw yX1_isGood cX1_isGood 2 (some FieldType.boolean) 1 := ⟨gw_at 15 (by decide +kernel) rfl, gw_at 417 (by decide +kernel) rfl, (by decide +kernel), by decide⟩
theorem miX1_isGood : z_mi yX1_isGood := ⟨gw_at 415 (by decide +kernel) rfl, gw_at 416 (by decide +kernel) rfl⟩
abbrev mX2_takesOneOf : zM := (yX2_takesOneOf, cX2_takesOneOf, 3, (some FieldType.boolean), [])
theorem mwX2_takesOneOf : z_mw yX2_takesOneOf cX2_takesOneOf 3 (some FieldType.boolean) 2 := ⟨gw_at 16 (by decide +kernel) rfl, gw_at 421 (by decide +kernel) rfl, (by decide +kernel), by decide⟩
theorem miX2_takesOneOf : z_mi yX2_takesOneOf := ⟨gw_at 419 (by decide +kernel) rfl, gw_at 420 (by decide +kernel) rfl⟩
abbrev mX4_tryToMakeBad : zM := (yX4_tryToMakeBad, cX4_tryToMakeBad, 2, (some FieldType.boolean), [])
theorem mwX4_tryToMakeBad : z_mw yX4_tryToMakeBad cX4_tryToMakeBad 2 (some FieldType.boolean) 2 := ⟨gw_at 13 (by decide +kernel) rfl, gw_at 424 (by decide +kernel) rfl, (by decide +kernel), by decide⟩
theorem msX4_tryToMakeBad : Cond.static yX4_tryToMakeBad ∈ gw := gw_at 423 (by decide +kernel) rfl
abbrev mX1_makeBad : zM := (yX1_makeBad, cX1_makeBad, 4, (some FieldType.int), [])
theorem mwX1_makeBad : z_mw yX1_makeBad cX1_makeBad 4 (some FieldType.int) 1 := ⟨gw_at 15 (by decide +kernel) rfl, gw_at 429 (by decide +kernel) rfl, (by decide +kernel), by decide⟩
theorem miX1_makeBad : z_mi yX1_makeBad := ⟨gw_at 427 (by decide +kernel) rfl, gw_at 428 (by decide +kernel) rfl⟩
abbrev mX1_victimOf : zM := (yX1_victimOf, cX1_victimOf, 3, (some FieldType.int), [])
theorem mwX1_victimOf : z_mw yX1_victimOf cX1_victimOf 3 (some FieldType.int) 1 := ⟨gw_at 15 (by decide +kernel) rfl, gw_at 433 (by decide +kernel) rfl, (by decide +kernel), by decide⟩
theorem miX1_victimOf : z_mi yX1_victimOf := ⟨gw_at 431 (by decide +kernel) rfl, gw_at 432 (by decide +kernel) rfl⟩
abbrev mX1_moverTo : zM := (yX1_moverTo, cX1_moverTo, 3, (some FieldType.int), [])
theorem mwX1_moverTo : z_mw yX1_moverTo cX1_moverTo 3 (some FieldType.int) 1 := ⟨gw_at 15 (by decide +kernel) rfl, gw_at 437 (by decide +kernel) rfl, (by decide +kernel), by decide⟩
theorem miX1_moverTo : z_mi yX1_moverTo := ⟨gw_at 435 (by decide +kernel) rfl, gw_at 436 (by decide +kernel) rfl⟩
abbrev mX1_isTaskInStatus : zM := (yX1_isTaskInStatus, cX1_isTaskInStatus, 4, (some FieldType.boolean), [])
theorem mwX1_isTaskInStatus : z_mw yX1_isTaskInStatus cX1_isTaskInStatus 4 (some FieldType.boolean) 2 := ⟨gw_at 15 (by decide +kernel) rfl, gw_at 441 (by decide +kernel) rfl, (by decide +kernel), by decide⟩
theorem miX1_isTaskInStatus : z_mi yX1_isTaskInStatus := ⟨gw_at 439 (by decide +kernel) rfl, gw_at 440 (by decide +kernel) rfl⟩
abbrev mX2_fallBack : zM := (yX2_fallBack, cX2_fallBack, 1, (none), [])
theorem mwX2_fallBack : z_mw yX2_fallBack cX2_fallBack 1 (none) 0 := ⟨gw_at 16 (by decide +kernel) rfl, gw_at 445 (by decide +kernel) rfl, (by decide +kernel), by decide⟩
theorem miX2_fallBack : z_mi yX2_fallBack := ⟨gw_at 443 (by decide +kernel) rfl, gw_at 444 (by decide +kernel) rfl⟩
abbrev mX1_makeGood : zM := (yX1_makeGood, cX1_makeGood, 3, (some FieldType.int), [])
theorem mwX1_makeGood : z_mw yX1_makeGood cX1_makeGood 3 (some FieldType.int) 1 := ⟨gw_at 15 (by decide +kernel) rfl, gw_at 449 (by decide +kernel) rfl, (by decide +kernel), by decide⟩
theorem miX1_makeGood : z_mi yX1_makeGood := ⟨gw_at 447 (by decide +kernel) rfl, gw_at 448 (by decide +kernel) rfl⟩
abbrev mX1_stopTask : zM := (yX1_stopTask, cX1_stopTask, 3, (some FieldType.int), [])
theorem mwX1_stopTask : z_mw yX1_stopTask cX1_stopTask 3 (some FieldType.int) 1 := ⟨gw_at 15 (by decide +kernel) rfl, gw_at 453 (by decide +kernel) rfl, (by decide +kernel), by decide⟩
theorem miX1_stopTask : z_mi yX1_stopTask := ⟨gw_at 451 (by decide +kernel) rfl, gw_at 452 (by decide +kernel) rfl⟩
abbrev mX1_canStop : zM := (yX1_canStop, cX1_canStop, 3, (some FieldType.boolean), [])
theorem mwX1_canStop : z_mw yX1_canStop cX1_canStop 3 (some FieldType.boolean) 1 := ⟨gw_at 15 (by decide +kernel) rfl, gw_at 457 (by decide +kernel) rfl, (by decide +kernel), by decide⟩
theorem miX1_canStop : z_mi yX1_canStop := ⟨gw_at 455 (by decide +kernel) rfl, gw_at 456 (by decide +kernel) rfl⟩
abbrev mX2_saveValue : zM := (yX2_saveValue, cX2_saveValue, 1, (none), [])
theorem mwX2_saveValue : z_mw yX2_saveValue cX2_saveValue 1 (none) 0 := ⟨gw_at 16 (by decide +kernel) rfl, gw_at 461 (by decide +kernel) rfl, (by decide +kernel), by decide⟩
theorem miX2_saveValue : z_mi yX2_saveValue := ⟨gw_at 459 (by decide +kernel) rfl, gw_at 460 (by decide +kernel) rfl⟩
abbrev mX1_passTicks : zM := (yX1_passTicks, cX1_passTicks, 4, (some FieldType.int), [])
theorem mwX1_passTicks : z_mw yX1_passTicks cX1_passTicks 4 (some FieldType.int) 1 := ⟨gw_at 15 (by decide +kernel) rfl, gw_at 466 (by decide +kernel) rfl, (by decide +kernel), by decide⟩
theorem miX1_passTicks : z_mi yX1_passTicks := ⟨gw_at 464 (by decide +kernel) rfl, gw_at 465 (by decide +kernel) rfl⟩
abbrev mX1_passTick : zM := (yX1_passTick, cX1_passTick, 5, (none), [])
theorem mwX1_passTick : z_mw yX1_passTick cX1_passTick 5 (none) 0 := ⟨gw_at 15 (by decide +kernel) rfl, gw_at 470 (by decide +kernel) rfl, (by decide +kernel), by decide⟩
theorem miX1_passTick : z_mi yX1_passTick := ⟨gw_at 468 (by decide +kernel) rfl, gw_at 469 (by decide +kernel) rfl⟩
abbrev mX1_advanceJob : zM := (yX1_advanceJob, cX1_advanceJob, 2, (none), [])
theorem mwX1_advanceJob : z_mw yX1_advanceJob cX1_advanceJob 2 (none) 0 := ⟨gw_at 15 (by decide +kernel) rfl, gw_at 474 (by decide +kernel) rfl, (by decide +kernel), by decide⟩
theorem miX1_advanceJob : z_mi yX1_advanceJob := ⟨gw_at 472 (by decide +kernel) rfl, gw_at 473 (by decide +kernel) rfl⟩
abbrev mX2_work : zM := (yX2_work, cX2_work, 1, (none), [])
theorem mwX2_work : z_mw yX2_work cX2_work 1 (none) 0 := ⟨gw_at 16 (by decide +kernel) rfl, gw_at 478 (by decide +kernel) rfl, (by decide +kernel), by decide⟩
theorem miX2_work : z_mi yX2_work := ⟨gw_at 476 (by decide +kernel) rfl, gw_at 477 (by decide +kernel) rfl⟩
abbrev mL_about : zM := (yL_about, cL_about, 4, (some FieldType.int), [((0 : Nat), (9 : Nat), (12 : Nat), (13 : Nat))])
theorem mwwL_about : Cond.initialized yL_about.cls ∈ gw := gw_at 12 (by decide +kernel) rfl
theorem mwcL_about : Cond.codeWith yL_about cL_about 4 (some FieldType.int) [((0 : Nat), (9 : Nat), (12 : Nat), (13 : Nat))] ∈ gw := gw_at 481 (by decide +kernel) rfl
theorem msL_about : Cond.static yL_about ∈ gw := gw_at 480 (by decide +kernel) rfl
abbrev mX4_about : zM := (yX4_about, cX4_about, 2, (some FieldType.int), [])
theorem mwX4_about : z_mw yX4_about cX4_about 2 (some FieldType.int) 1 := ⟨gw_at 13 (by decide +kernel) rfl, gw_at 485 (by decide +kernel) rfl, (by decide +kernel), by decide⟩
theorem miX4_about : z_mi yX4_about := ⟨gw_at 483 (by decide +kernel) rfl, gw_at 484 (by decide +kernel) rfl⟩
abbrev mX1_countRunning : zM := (yX1_countRunning, cX1_countRunning, 3, (some FieldType.int), [])
theorem mwX1_countRunning : z_mw yX1_countRunning cX1_countRunning 3 (some FieldType.int) 0 := ⟨gw_at 15 (by decide +kernel) rfl, gw_at 489 (by decide +kernel) rfl, (by decide +kernel), by decide⟩
theorem miX1_countRunning : z_mi yX1_countRunning := ⟨gw_at 487 (by decide +kernel) rfl, gw_at 488 (by decide +kernel) rfl⟩
abbrev mX1_countFree : zM := (yX1_countFree, cX1_countFree, 3, (some FieldType.int), [])
theorem mwX1_countFree : z_mw yX1_countFree cX1_countFree 3 (some FieldType.int) 0 := ⟨gw_at 15 (by decide +kernel) rfl, gw_at 493 (by decide +kernel) rfl, (by decide +kernel), by decide⟩
theorem miX1_countFree : z_mi yX1_countFree := ⟨gw_at 491 (by decide +kernel) rfl, gw_at 492 (by decide +kernel) rfl⟩
abbrev mX1_isFree : zM := (yX1_isFree, cX1_isFree, 2, (some FieldType.boolean), [])
theorem mwX1_isFree : z_mw yX1_isFree cX1_isFree 2 (some FieldType.boolean) 1 := ⟨gw_at 15 (by decide +kernel) rfl, gw_at 497 (by decide +kernel) rfl, (by decide +kernel), by decide⟩
theorem miX1_isFree : z_mi yX1_isFree := ⟨gw_at 495 (by decide +kernel) rfl, gw_at 496 (by decide +kernel) rfl⟩
abbrev mX1_longestFreeRow : zM := (yX1_longestFreeRow, cX1_longestFreeRow, 3, (some FieldType.int), [])
theorem mwX1_longestFreeRow : z_mw yX1_longestFreeRow cX1_longestFreeRow 3 (some FieldType.int) 0 := ⟨gw_at 15 (by decide +kernel) rfl, gw_at 501 (by decide +kernel) rfl, (by decide +kernel), by decide⟩
theorem miX1_longestFreeRow : z_mi yX1_longestFreeRow := ⟨gw_at 499 (by decide +kernel) rfl, gw_at 500 (by decide +kernel) rfl⟩
abbrev mX1_freeRowFrom : zM := (yX1_freeRowFrom, cX1_freeRowFrom, 3, (some FieldType.int), [])
theorem mwX1_freeRowFrom : z_mw yX1_freeRowFrom cX1_freeRowFrom 3 (some FieldType.int) 1 := ⟨gw_at 15 (by decide +kernel) rfl, gw_at 505 (by decide +kernel) rfl, (by decide +kernel), by decide⟩
theorem miX1_freeRowFrom : z_mi yX1_freeRowFrom := ⟨gw_at 503 (by decide +kernel) rfl, gw_at 504 (by decide +kernel) rfl⟩
abbrev mX1_countBad : zM := (yX1_countBad, cX1_countBad, 3, (some FieldType.int), [])
theorem mwX1_countBad : z_mw yX1_countBad cX1_countBad 3 (some FieldType.int) 0 := ⟨gw_at 15 (by decide +kernel) rfl, gw_at 512 (by decide +kernel) rfl, (by decide +kernel), by decide⟩
theorem miX1_countBad : z_mi yX1_countBad := ⟨gw_at 510 (by decide +kernel) rfl, gw_at 511 (by decide +kernel) rfl⟩
abbrev mL_task : zM := (yL_task, cL_task, 5, (some FieldType.int), [((0 : Nat), (10 : Nat), (13 : Nat), (28 : Nat)), ((0 : Nat), (10 : Nat), (17 : Nat), (13 : Nat))])
theorem mwwL_task : Cond.initialized yL_task.cls ∈ gw := gw_at 12 (by decide +kernel) rfl
theorem mwcL_task : Cond.codeWith yL_task cL_task 5 (some FieldType.int) [((0 : Nat), (10 : Nat), (13 : Nat), (28 : Nat)), ((0 : Nat), (10 : Nat), (17 : Nat), (13 : Nat))] ∈ gw := gw_at 515 (by decide +kernel) rfl
theorem msL_task : Cond.static yL_task ∈ gw := gw_at 514 (by decide +kernel) rfl
abbrev mX4_task : zM := (yX4_task, cX4_task, 4, (some FieldType.int), [])
theorem mwX4_task : z_mw yX4_task cX4_task 4 (some FieldType.int) 2 := ⟨gw_at 13 (by decide +kernel) rfl, gw_at 520 (by decide +kernel) rfl, (by decide +kernel), by decide⟩
theorem miX4_task : z_mi yX4_task := ⟨gw_at 518 (by decide +kernel) rfl, gw_at 519 (by decide +kernel) rfl⟩
abbrev mL_stripe : zM := (yL_stripe, cL_stripe, 5, (some FieldType.int), [((0 : Nat), (10 : Nat), (13 : Nat), (28 : Nat)), ((0 : Nat), (10 : Nat), (17 : Nat), (13 : Nat))])
theorem mwwL_stripe : Cond.initialized yL_stripe.cls ∈ gw := gw_at 12 (by decide +kernel) rfl
theorem mwcL_stripe : Cond.codeWith yL_stripe cL_stripe 5 (some FieldType.int) [((0 : Nat), (10 : Nat), (13 : Nat), (28 : Nat)), ((0 : Nat), (10 : Nat), (17 : Nat), (13 : Nat))] ∈ gw := gw_at 539 (by decide +kernel) rfl
theorem msL_stripe : Cond.static yL_stripe ∈ gw := gw_at 538 (by decide +kernel) rfl
abbrev mX4_stripe : zM := (yX4_stripe, cX4_stripe, 3, (some FieldType.int), [])
theorem mwX4_stripe : z_mw yX4_stripe cX4_stripe 3 (some FieldType.int) 2 := ⟨gw_at 13 (by decide +kernel) rfl, gw_at 543 (by decide +kernel) rfl, (by decide +kernel), by decide⟩
theorem miX4_stripe : z_mi yX4_stripe := ⟨gw_at 541 (by decide +kernel) rfl, gw_at 542 (by decide +kernel) rfl⟩
abbrev mX1_isBad : zM := (yX1_isBad, cX1_isBad, 2, (some FieldType.boolean), [])
theorem mwX1_isBad : z_mw yX1_isBad cX1_isBad 2 (some FieldType.boolean) 1 := ⟨gw_at 15 (by decide +kernel) rfl, gw_at 549 (by decide +kernel) rfl, (by decide +kernel), by decide⟩
theorem miX1_isBad : z_mi yX1_isBad := ⟨gw_at 547 (by decide +kernel) rfl, gw_at 548 (by decide +kernel) rfl⟩
abbrev mL_job : zM := (yL_job, cL_job, 4, (some FieldType.int), [((0 : Nat), (9 : Nat), (12 : Nat), (13 : Nat))])
theorem mwwL_job : Cond.initialized yL_job.cls ∈ gw := gw_at 12 (by decide +kernel) rfl
theorem mwcL_job : Cond.codeWith yL_job cL_job 4 (some FieldType.int) [((0 : Nat), (9 : Nat), (12 : Nat), (13 : Nat))] ∈ gw := gw_at 552 (by decide +kernel) rfl
theorem msL_job : Cond.static yL_job ∈ gw := gw_at 551 (by decide +kernel) rfl
abbrev mX4_job : zM := (yX4_job, cX4_job, 2, (some FieldType.int), [])
theorem mwX4_job : z_mw yX4_job cX4_job 2 (some FieldType.int) 1 := ⟨gw_at 13 (by decide +kernel) rfl, gw_at 556 (by decide +kernel) rfl, (by decide +kernel), by decide⟩
theorem miX4_job : z_mi yX4_job := ⟨gw_at 554 (by decide +kernel) rfl, gw_at 555 (by decide +kernel) rfl⟩
abbrev mL_setting : zM := (yL_setting, cL_setting, 4, (some FieldType.int), [((0 : Nat), (9 : Nat), (12 : Nat), (13 : Nat))])
theorem mwwL_setting : Cond.initialized yL_setting.cls ∈ gw := gw_at 12 (by decide +kernel) rfl
theorem mwcL_setting : Cond.codeWith yL_setting cL_setting 4 (some FieldType.int) [((0 : Nat), (9 : Nat), (12 : Nat), (13 : Nat))] ∈ gw := gw_at 560 (by decide +kernel) rfl
theorem msL_setting : Cond.static yL_setting ∈ gw := gw_at 559 (by decide +kernel) rfl
abbrev mX4_setting : zM := (yX4_setting, cX4_setting, 2, (some FieldType.int), [])
theorem mwX4_setting : z_mw yX4_setting cX4_setting 2 (some FieldType.int) 1 := ⟨gw_at 13 (by decide +kernel) rfl, gw_at 564 (by decide +kernel) rfl, (by decide +kernel), by decide⟩
theorem miX4_setting : z_mi yX4_setting := ⟨gw_at 562 (by decide +kernel) rfl, gw_at 563 (by decide +kernel) rfl⟩
abbrev mX4_isSetting : zM := (yX4_isSetting, cX4_isSetting, 1, (some FieldType.boolean), [])
theorem mwX4_isSetting : z_mw yX4_isSetting cX4_isSetting 1 (some FieldType.boolean) 1 := ⟨gw_at 13 (by decide +kernel) rfl, gw_at 567 (by decide +kernel) rfl, (by decide +kernel), by decide⟩
theorem msX4_isSetting : Cond.static yX4_isSetting ∈ gw := gw_at 566 (by decide +kernel) rfl
abbrev mL_add : zM := (yL_add, cL_add, 5, (some FieldType.int), [((0 : Nat), (10 : Nat), (13 : Nat), (13 : Nat)), ((0 : Nat), (10 : Nat), (17 : Nat), (15 : Nat))])
theorem mwwL_add : Cond.initialized yL_add.cls ∈ gw := gw_at 12 (by decide +kernel) rfl
theorem mwcL_add : Cond.codeWith yL_add cL_add 5 (some FieldType.int) [((0 : Nat), (10 : Nat), (13 : Nat), (13 : Nat)), ((0 : Nat), (10 : Nat), (17 : Nat), (15 : Nat))] ∈ gw := gw_at 570 (by decide +kernel) rfl
theorem msL_add : Cond.static yL_add ∈ gw := gw_at 569 (by decide +kernel) rfl
abbrev mX4_add : zM := (yX4_add, cX4_add, 3, (some FieldType.int), [])
theorem mwX4_add : z_mw yX4_add cX4_add 3 (some FieldType.int) 2 := ⟨gw_at 13 (by decide +kernel) rfl, gw_at 574 (by decide +kernel) rfl, (by decide +kernel), by decide⟩
theorem miX4_add : z_mi yX4_add := ⟨gw_at 572 (by decide +kernel) rfl, gw_at 573 (by decide +kernel) rfl⟩
abbrev mX4_isWidth : zM := (yX4_isWidth, cX4_isWidth, 1, (some FieldType.boolean), [])
theorem mwX4_isWidth : z_mw yX4_isWidth cX4_isWidth 1 (some FieldType.boolean) 1 := ⟨gw_at 13 (by decide +kernel) rfl, gw_at 577 (by decide +kernel) rfl, (by decide +kernel), by decide⟩
theorem msX4_isWidth : Cond.static yX4_isWidth ∈ gw := gw_at 576 (by decide +kernel) rfl
abbrev mX4_isValue : zM := (yX4_isValue, cX4_isValue, 1, (some FieldType.boolean), [])
theorem mwX4_isValue : z_mw yX4_isValue cX4_isValue 1 (some FieldType.boolean) 1 := ⟨gw_at 13 (by decide +kernel) rfl, gw_at 580 (by decide +kernel) rfl, (by decide +kernel), by decide⟩
theorem msX4_isValue : Cond.static yX4_isValue ∈ gw := gw_at 579 (by decide +kernel) rfl
abbrev mX0_remember : zM := (yX0_remember, cX0_remember, 2, (none), [])
theorem mwX0_remember : z_mw yX0_remember cX0_remember 2 (none) 1 := ⟨gw_at 17 (by decide +kernel) rfl, gw_at 585 (by decide +kernel) rfl, (by decide +kernel), by decide⟩
theorem miX0_remember : z_mi yX0_remember := ⟨gw_at 583 (by decide +kernel) rfl, gw_at 584 (by decide +kernel) rfl⟩
abbrev mX0_placeOf : zM := (yX0_placeOf, cX0_placeOf, 2, (some FieldType.int), [])
theorem mwX0_placeOf : z_mw yX0_placeOf cX0_placeOf 2 (some FieldType.int) 1 := ⟨gw_at 17 (by decide +kernel) rfl, gw_at 589 (by decide +kernel) rfl, (by decide +kernel), by decide⟩
theorem miX0_placeOf : z_mi yX0_placeOf := ⟨gw_at 588 (by decide +kernel) rfl, gw_at 4 (by decide +kernel) rfl⟩
abbrev mX1_copyFrom : zM := (yX1_copyFrom, cX1_copyFrom, 3, (none), [])
theorem mwX1_copyFrom : z_mw yX1_copyFrom cX1_copyFrom 3 (none) 1 := ⟨gw_at 15 (by decide +kernel) rfl, gw_at 593 (by decide +kernel) rfl, (by decide +kernel), by decide⟩
theorem miX1_copyFrom : z_mi yX1_copyFrom := ⟨gw_at 591 (by decide +kernel) rfl, gw_at 592 (by decide +kernel) rfl⟩
abbrev mX2_copyFrom : zM := (yX2_copyFrom, cX2_copyFrom, 2, (none), [])
theorem mwX2_copyFrom : z_mw yX2_copyFrom cX2_copyFrom 2 (none) 1 := ⟨gw_at 16 (by decide +kernel) rfl, gw_at 597 (by decide +kernel) rfl, (by decide +kernel), by decide⟩
theorem miX2_copyFrom : z_mi yX2_copyFrom := ⟨gw_at 595 (by decide +kernel) rfl, gw_at 596 (by decide +kernel) rfl⟩
abbrev mL_bring : zM := (yL_bring, cL_bring, 5, (some FieldType.int), [((0 : Nat), (10 : Nat), (13 : Nat), (28 : Nat)), ((0 : Nat), (10 : Nat), (17 : Nat), (15 : Nat))])
theorem mwwL_bring : Cond.initialized yL_bring.cls ∈ gw := gw_at 12 (by decide +kernel) rfl
theorem mwcL_bring : Cond.codeWith yL_bring cL_bring 5 (some FieldType.int) [((0 : Nat), (10 : Nat), (13 : Nat), (28 : Nat)), ((0 : Nat), (10 : Nat), (17 : Nat), (15 : Nat))] ∈ gw := gw_at 600 (by decide +kernel) rfl
theorem msL_bring : Cond.static yL_bring ∈ gw := gw_at 599 (by decide +kernel) rfl
abbrev mX4_bring : zM := (yX4_bring, cX4_bring, 3, (some FieldType.int), [])
theorem mwX4_bring : z_mw yX4_bring cX4_bring 3 (some FieldType.int) 2 := ⟨gw_at 13 (by decide +kernel) rfl, gw_at 604 (by decide +kernel) rfl, (by decide +kernel), by decide⟩
theorem miX4_bring : z_mi yX4_bring := ⟨gw_at 602 (by decide +kernel) rfl, gw_at 603 (by decide +kernel) rfl⟩
abbrev mX1_hasTask : zM := (yX1_hasTask, cX1_hasTask, 2, (some FieldType.boolean), [])
theorem mwX1_hasTask : z_mw yX1_hasTask cX1_hasTask 2 (some FieldType.boolean) 1 := ⟨gw_at 15 (by decide +kernel) rfl, gw_at 608 (by decide +kernel) rfl, (by decide +kernel), by decide⟩
theorem miX1_hasTask : z_mi yX1_hasTask := ⟨gw_at 606 (by decide +kernel) rfl, gw_at 607 (by decide +kernel) rfl⟩
abbrev mL_stop : zM := (yL_stop, cL_stop, 4, (some FieldType.int), [((0 : Nat), (9 : Nat), (12 : Nat), (28 : Nat)), ((0 : Nat), (9 : Nat), (15 : Nat), (15 : Nat))])
theorem mwwL_stop : Cond.initialized yL_stop.cls ∈ gw := gw_at 12 (by decide +kernel) rfl
theorem mwcL_stop : Cond.codeWith yL_stop cL_stop 4 (some FieldType.int) [((0 : Nat), (9 : Nat), (12 : Nat), (28 : Nat)), ((0 : Nat), (9 : Nat), (15 : Nat), (15 : Nat))] ∈ gw := gw_at 612 (by decide +kernel) rfl
theorem msL_stop : Cond.static yL_stop ∈ gw := gw_at 611 (by decide +kernel) rfl
abbrev mX4_stop : zM := (yX4_stop, cX4_stop, 2, (some FieldType.int), [])
theorem mwX4_stop : z_mw yX4_stop cX4_stop 2 (some FieldType.int) 1 := ⟨gw_at 13 (by decide +kernel) rfl, gw_at 616 (by decide +kernel) rfl, (by decide +kernel), by decide⟩
theorem miX4_stop : z_mi yX4_stop := ⟨gw_at 614 (by decide +kernel) rfl, gw_at 615 (by decide +kernel) rfl⟩
abbrev mL_turnBad : zM := (yL_turnBad, cL_turnBad, 4, (some FieldType.int), [((0 : Nat), (9 : Nat), (12 : Nat), (28 : Nat))])
theorem mwwL_turnBad : Cond.initialized yL_turnBad.cls ∈ gw := gw_at 12 (by decide +kernel) rfl
theorem mwcL_turnBad : Cond.codeWith yL_turnBad cL_turnBad 4 (some FieldType.int) [((0 : Nat), (9 : Nat), (12 : Nat), (28 : Nat))] ∈ gw := gw_at 620 (by decide +kernel) rfl
theorem msL_turnBad : Cond.static yL_turnBad ∈ gw := gw_at 619 (by decide +kernel) rfl
abbrev mX4_turnBad : zM := (yX4_turnBad, cX4_turnBad, 2, (some FieldType.int), [])
theorem mwX4_turnBad : z_mw yX4_turnBad cX4_turnBad 2 (some FieldType.int) 1 := ⟨gw_at 13 (by decide +kernel) rfl, gw_at 624 (by decide +kernel) rfl, (by decide +kernel), by decide⟩
theorem miX4_turnBad : z_mi yX4_turnBad := ⟨gw_at 622 (by decide +kernel) rfl, gw_at 623 (by decide +kernel) rfl⟩
abbrev mL_mend : zM := (yL_mend, cL_mend, 4, (some FieldType.int), [((0 : Nat), (9 : Nat), (12 : Nat), (28 : Nat))])
theorem mwwL_mend : Cond.initialized yL_mend.cls ∈ gw := gw_at 12 (by decide +kernel) rfl
theorem mwcL_mend : Cond.codeWith yL_mend cL_mend 4 (some FieldType.int) [((0 : Nat), (9 : Nat), (12 : Nat), (28 : Nat))] ∈ gw := gw_at 627 (by decide +kernel) rfl
theorem msL_mend : Cond.static yL_mend ∈ gw := gw_at 626 (by decide +kernel) rfl
abbrev mX4_mend : zM := (yX4_mend, cX4_mend, 2, (some FieldType.int), [])
theorem mwX4_mend : z_mw yX4_mend cX4_mend 2 (some FieldType.int) 1 := ⟨gw_at 13 (by decide +kernel) rfl, gw_at 631 (by decide +kernel) rfl, (by decide +kernel), by decide⟩
theorem miX4_mend : z_mi yX4_mend := ⟨gw_at 629 (by decide +kernel) rfl, gw_at 630 (by decide +kernel) rfl⟩
abbrev mL_run : zM := (yL_run, cL_run, 4, (some FieldType.int), [((0 : Nat), (9 : Nat), (12 : Nat), (13 : Nat))])
theorem mwwL_run : Cond.initialized yL_run.cls ∈ gw := gw_at 12 (by decide +kernel) rfl
theorem mwcL_run : Cond.codeWith yL_run cL_run 4 (some FieldType.int) [((0 : Nat), (9 : Nat), (12 : Nat), (13 : Nat))] ∈ gw := gw_at 634 (by decide +kernel) rfl
theorem msL_run : Cond.static yL_run ∈ gw := gw_at 633 (by decide +kernel) rfl
abbrev mX4_run : zM := (yX4_run, cX4_run, 2, (some FieldType.int), [])
theorem mwX4_run : z_mw yX4_run cX4_run 2 (some FieldType.int) 1 := ⟨gw_at 13 (by decide +kernel) rfl, gw_at 638 (by decide +kernel) rfl, (by decide +kernel), by decide⟩
theorem miX4_run : z_mi yX4_run := ⟨gw_at 636 (by decide +kernel) rfl, gw_at 637 (by decide +kernel) rfl⟩
abbrev mL_set : zM := (yL_set, cL_set, 5, (some FieldType.int), [((0 : Nat), (10 : Nat), (13 : Nat), (13 : Nat))])
theorem mwwL_set : Cond.initialized yL_set.cls ∈ gw := gw_at 12 (by decide +kernel) rfl
theorem mwcL_set : Cond.codeWith yL_set cL_set 5 (some FieldType.int) [((0 : Nat), (10 : Nat), (13 : Nat), (13 : Nat))] ∈ gw := gw_at 641 (by decide +kernel) rfl
theorem msL_set : Cond.static yL_set ∈ gw := gw_at 640 (by decide +kernel) rfl
abbrev mX4_set : zM := (yX4_set, cX4_set, 4, (some FieldType.int), [])
theorem mwX4_set : z_mw yX4_set cX4_set 4 (some FieldType.int) 2 := ⟨gw_at 13 (by decide +kernel) rfl, gw_at 645 (by decide +kernel) rfl, (by decide +kernel), by decide⟩
theorem miX4_set : z_mi yX4_set := ⟨gw_at 643 (by decide +kernel) rfl, gw_at 644 (by decide +kernel) rfl⟩
abbrev mL_undo : zM := (yL_undo, cL_undo, 3, (some FieldType.int), [((0 : Nat), (8 : Nat), (11 : Nat), (15 : Nat))])
theorem mwwL_undo : Cond.initialized yL_undo.cls ∈ gw := gw_at 12 (by decide +kernel) rfl
theorem mwcL_undo : Cond.codeWith yL_undo cL_undo 3 (some FieldType.int) [((0 : Nat), (8 : Nat), (11 : Nat), (15 : Nat))] ∈ gw := gw_at 652 (by decide +kernel) rfl
theorem msL_undo : Cond.static yL_undo ∈ gw := gw_at 651 (by decide +kernel) rfl
abbrev mX4_undo : zM := (yX4_undo, cX4_undo, 1, (some FieldType.int), [])
theorem mwX4_undo : z_mw yX4_undo cX4_undo 1 (some FieldType.int) 0 := ⟨gw_at 13 (by decide +kernel) rfl, gw_at 656 (by decide +kernel) rfl, (by decide +kernel), by decide⟩
theorem miX4_undo : z_mi yX4_undo := ⟨gw_at 654 (by decide +kernel) rfl, gw_at 655 (by decide +kernel) rfl⟩
abbrev mX0_takeBack : zM := (yX0_takeBack, cX0_takeBack, 2, (some FieldType.int), [])
theorem mwX0_takeBack : z_mw yX0_takeBack cX0_takeBack 2 (some FieldType.int) 1 := ⟨gw_at 17 (by decide +kernel) rfl, gw_at 660 (by decide +kernel) rfl, (by decide +kernel), by decide⟩
theorem miX0_takeBack : z_mi yX0_takeBack := ⟨gw_at 658 (by decide +kernel) rfl, gw_at 659 (by decide +kernel) rfl⟩
abbrev mL_bestGap : zM := (yL_bestGap, cL_bestGap, 4, (some FieldType.int), [((0 : Nat), (9 : Nat), (12 : Nat), (13 : Nat))])
theorem mwwL_bestGap : Cond.initialized yL_bestGap.cls ∈ gw := gw_at 12 (by decide +kernel) rfl
theorem mwcL_bestGap : Cond.codeWith yL_bestGap cL_bestGap 4 (some FieldType.int) [((0 : Nat), (9 : Nat), (12 : Nat), (13 : Nat))] ∈ gw := gw_at 663 (by decide +kernel) rfl
theorem msL_bestGap : Cond.static yL_bestGap ∈ gw := gw_at 662 (by decide +kernel) rfl
abbrev mX4_bestGap : zM := (yX4_bestGap, cX4_bestGap, 2, (some FieldType.int), [])
theorem mwX4_bestGap : z_mw yX4_bestGap cX4_bestGap 2 (some FieldType.int) 1 := ⟨gw_at 13 (by decide +kernel) rfl, gw_at 667 (by decide +kernel) rfl, (by decide +kernel), by decide⟩
theorem miX4_bestGap : z_mi yX4_bestGap := ⟨gw_at 665 (by decide +kernel) rfl, gw_at 666 (by decide +kernel) rfl⟩
abbrev mX1_shortestGap : zM := (yX1_shortestGap, cX1_shortestGap, 6, (some FieldType.int), [])
theorem mwX1_shortestGap : z_mw yX1_shortestGap cX1_shortestGap 6 (some FieldType.int) 1 := ⟨gw_at 15 (by decide +kernel) rfl, gw_at 671 (by decide +kernel) rfl, (by decide +kernel), by decide⟩
theorem miX1_shortestGap : z_mi yX1_shortestGap := ⟨gw_at 669 (by decide +kernel) rfl, gw_at 670 (by decide +kernel) rfl⟩
abbrev mL_window : zM := (yL_window, cL_window, 5, (some FieldType.int), [((0 : Nat), (10 : Nat), (13 : Nat), (13 : Nat))])
theorem mwwL_window : Cond.initialized yL_window.cls ∈ gw := gw_at 12 (by decide +kernel) rfl
theorem mwcL_window : Cond.codeWith yL_window cL_window 5 (some FieldType.int) [((0 : Nat), (10 : Nat), (13 : Nat), (13 : Nat))] ∈ gw := gw_at 674 (by decide +kernel) rfl
theorem msL_window : Cond.static yL_window ∈ gw := gw_at 673 (by decide +kernel) rfl
abbrev mX4_window : zM := (yX4_window, cX4_window, 4, (some FieldType.int), [])
theorem mwX4_window : z_mw yX4_window cX4_window 4 (some FieldType.int) 2 := ⟨gw_at 13 (by decide +kernel) rfl, gw_at 678 (by decide +kernel) rfl, (by decide +kernel), by decide⟩
theorem miX4_window : z_mi yX4_window := ⟨gw_at 676 (by decide +kernel) rfl, gw_at 677 (by decide +kernel) rfl⟩
abbrev mX1_easiestWindow : zM := (yX1_easiestWindow, cX1_easiestWindow, 6, (some FieldType.int), [])
theorem mwX1_easiestWindow : z_mw yX1_easiestWindow cX1_easiestWindow 6 (some FieldType.int) 1 := ⟨gw_at 15 (by decide +kernel) rfl, gw_at 682 (by decide +kernel) rfl, (by decide +kernel), by decide⟩
theorem miX1_easiestWindow : z_mi yX1_easiestWindow := ⟨gw_at 680 (by decide +kernel) rfl, gw_at 681 (by decide +kernel) rfl⟩
abbrev mX1_canBeMadeFree : zM := (yX1_canBeMadeFree, cX1_canBeMadeFree, 4, (some FieldType.boolean), [])
theorem mwX1_canBeMadeFree : z_mw yX1_canBeMadeFree cX1_canBeMadeFree 4 (some FieldType.boolean) 2 := ⟨gw_at 15 (by decide +kernel) rfl, gw_at 686 (by decide +kernel) rfl, (by decide +kernel), by decide⟩
theorem miX1_canBeMadeFree : z_mi yX1_canBeMadeFree := ⟨gw_at 684 (by decide +kernel) rfl, gw_at 685 (by decide +kernel) rfl⟩
abbrev mX1_widthInTheWay : zM := (yX1_widthInTheWay, cX1_widthInTheWay, 5, (some FieldType.int), [])
theorem mwX1_widthInTheWay : z_mw yX1_widthInTheWay cX1_widthInTheWay 5 (some FieldType.int) 2 := ⟨gw_at 15 (by decide +kernel) rfl, gw_at 690 (by decide +kernel) rfl, (by decide +kernel), by decide⟩
theorem miX1_widthInTheWay : z_mi yX1_widthInTheWay := ⟨gw_at 688 (by decide +kernel) rfl, gw_at 689 (by decide +kernel) rfl⟩
abbrev mL_coming : zM := (yL_coming, cL_coming, 6, (some FieldType.int), [((0 : Nat), (12 : Nat), (15 : Nat), (28 : Nat)), ((0 : Nat), (12 : Nat), (19 : Nat), (13 : Nat))])
theorem mwwL_coming : Cond.initialized yL_coming.cls ∈ gw := gw_at 12 (by decide +kernel) rfl
theorem mwcL_coming : Cond.codeWith yL_coming cL_coming 6 (some FieldType.int) [((0 : Nat), (12 : Nat), (15 : Nat), (28 : Nat)), ((0 : Nat), (12 : Nat), (19 : Nat), (13 : Nat))] ∈ gw := gw_at 694 (by decide +kernel) rfl
theorem msL_coming : Cond.static yL_coming ∈ gw := gw_at 693 (by decide +kernel) rfl
abbrev mX4_coming : zM := (yX4_coming, cX4_coming, 6, (some FieldType.int), [])
theorem mwX4_coming : z_mw yX4_coming cX4_coming 6 (some FieldType.int) 3 := ⟨gw_at 13 (by decide +kernel) rfl, gw_at 698 (by decide +kernel) rfl, (by decide +kernel), by decide⟩
theorem miX4_coming : z_mi yX4_coming := ⟨gw_at 696 (by decide +kernel) rfl, gw_at 697 (by decide +kernel) rfl⟩
abbrev mL_lost : zM := (yL_lost, cL_lost, 4, (some FieldType.int), [((0 : Nat), (9 : Nat), (12 : Nat), (28 : Nat))])
theorem mwwL_lost : Cond.initialized yL_lost.cls ∈ gw := gw_at 12 (by decide +kernel) rfl
theorem mwcL_lost : Cond.codeWith yL_lost cL_lost 4 (some FieldType.int) [((0 : Nat), (9 : Nat), (12 : Nat), (28 : Nat))] ∈ gw := gw_at 703 (by decide +kernel) rfl
theorem msL_lost : Cond.static yL_lost ∈ gw := gw_at 702 (by decide +kernel) rfl
abbrev mX4_lost : zM := (yX4_lost, cX4_lost, 3, (some FieldType.int), [])
theorem mwX4_lost : z_mw yX4_lost cX4_lost 3 (some FieldType.int) 1 := ⟨gw_at 13 (by decide +kernel) rfl, gw_at 707 (by decide +kernel) rfl, (by decide +kernel), by decide⟩
theorem miX4_lost : z_mi yX4_lost := ⟨gw_at 705 (by decide +kernel) rfl, gw_at 706 (by decide +kernel) rfl⟩
abbrev mL_runScript : zM := (yL_runScript, cL_runScript, 6, (some FieldType.int), [((0 : Nat), (11 : Nat), (14 : Nat), (13 : Nat))])
theorem mwwL_runScript : Cond.initialized yL_runScript.cls ∈ gw := gw_at 12 (by decide +kernel) rfl
theorem mwcL_runScript : Cond.codeWith yL_runScript cL_runScript 6 (some FieldType.int) [((0 : Nat), (11 : Nat), (14 : Nat), (13 : Nat))] ∈ gw := gw_at 711 (by decide +kernel) rfl
theorem msL_runScript : Cond.static yL_runScript ∈ gw := gw_at 710 (by decide +kernel) rfl
abbrev mX4_runScript : zM := (yX4_runScript, cX4_runScript, 6, (some FieldType.int), [])
theorem mwX4_runScript : z_mw yX4_runScript cX4_runScript 6 (some FieldType.int) 2 := ⟨gw_at 13 (by decide +kernel) rfl, gw_at 715 (by decide +kernel) rfl, (by decide +kernel), by decide⟩
theorem miX4_runScript : z_mi yX4_runScript := ⟨gw_at 713 (by decide +kernel) rfl, gw_at 714 (by decide +kernel) rfl⟩
abbrev mX4_withoutLastGroups : zM := (yX4_withoutLastGroups, cX4_withoutLastGroups, 6, (some FieldType.long), [])
theorem mwX4_withoutLastGroups : z_mw yX4_withoutLastGroups cX4_withoutLastGroups 6 (some FieldType.long) 2 := ⟨gw_at 13 (by decide +kernel) rfl, gw_at 718 (by decide +kernel) rfl, (by decide +kernel), by decide⟩
theorem msX4_withoutLastGroups : Cond.static yX4_withoutLastGroups ∈ gw := gw_at 717 (by decide +kernel) rfl
abbrev mX4_obeyGroup : zM := (yX4_obeyGroup, cX4_obeyGroup, 9, (some FieldType.boolean), [])
theorem mwX4_obeyGroup : z_mw yX4_obeyGroup cX4_obeyGroup 9 (some FieldType.boolean) 2 := ⟨gw_at 13 (by decide +kernel) rfl, gw_at 722 (by decide +kernel) rfl, (by decide +kernel), by decide⟩
theorem msX4_obeyGroup : Cond.static yX4_obeyGroup ∈ gw := gw_at 721 (by decide +kernel) rfl
abbrev mX1_isTaskAtValue : zM := (yX1_isTaskAtValue, cX1_isTaskAtValue, 4, (some FieldType.boolean), [])
theorem mwX1_isTaskAtValue : z_mw yX1_isTaskAtValue cX1_isTaskAtValue 4 (some FieldType.boolean) 2 := ⟨gw_at 15 (by decide +kernel) rfl, gw_at 727 (by decide +kernel) rfl, (by decide +kernel), by decide⟩
theorem miX1_isTaskAtValue : z_mi yX1_isTaskAtValue := ⟨gw_at 725 (by decide +kernel) rfl, gw_at 726 (by decide +kernel) rfl⟩
abbrev mL_simulate : zM := (yL_simulate, cL_simulate, 6, (some FieldType.int), [((0 : Nat), (11 : Nat), (14 : Nat), (13 : Nat))])
theorem mwwL_simulate : Cond.initialized yL_simulate.cls ∈ gw := gw_at 12 (by decide +kernel) rfl
theorem mwcL_simulate : Cond.codeWith yL_simulate cL_simulate 6 (some FieldType.int) [((0 : Nat), (11 : Nat), (14 : Nat), (13 : Nat))] ∈ gw := gw_at 730 (by decide +kernel) rfl
theorem msL_simulate : Cond.static yL_simulate ∈ gw := gw_at 729 (by decide +kernel) rfl
abbrev mX4_simulate : zM := (yX4_simulate, cX4_simulate, 7, (some FieldType.int), [])
theorem mwX4_simulate : z_mw yX4_simulate cX4_simulate 7 (some FieldType.int) 2 := ⟨gw_at 13 (by decide +kernel) rfl, gw_at 734 (by decide +kernel) rfl, (by decide +kernel), by decide⟩
theorem miX4_simulate : z_mi yX4_simulate := ⟨gw_at 732 (by decide +kernel) rfl, gw_at 733 (by decide +kernel) rfl⟩
abbrev mX4_takeTurn : zM := (yX4_takeTurn, cX4_takeTurn, 3, (none), [])
theorem mwX4_takeTurn : z_mw yX4_takeTurn cX4_takeTurn 3 (none) 2 := ⟨gw_at 13 (by decide +kernel) rfl, gw_at 739 (by decide +kernel) rfl, (by decide +kernel), by decide⟩
theorem msX4_takeTurn : Cond.static yX4_takeTurn ∈ gw := gw_at 738 (by decide +kernel) rfl
abbrev mL_save : zM := (yL_save, cL_save, 4, (some FieldType.int), [((0 : Nat), (9 : Nat), (12 : Nat), (28 : Nat))])
theorem mwwL_save : Cond.initialized yL_save.cls ∈ gw := gw_at 12 (by decide +kernel) rfl
theorem mwcL_save : Cond.codeWith yL_save cL_save 4 (some FieldType.int) [((0 : Nat), (9 : Nat), (12 : Nat), (28 : Nat))] ∈ gw := gw_at 745 (by decide +kernel) rfl
theorem msL_save : Cond.static yL_save ∈ gw := gw_at 744 (by decide +kernel) rfl
abbrev mX4_save : zM := (yX4_save, cX4_save, 2, (some FieldType.int), [])
theorem mwX4_save : z_mw yX4_save cX4_save 2 (some FieldType.int) 1 := ⟨gw_at 13 (by decide +kernel) rfl, gw_at 749 (by decide +kernel) rfl, (by decide +kernel), by decide⟩
theorem miX4_save : z_mi yX4_save := ⟨gw_at 747 (by decide +kernel) rfl, gw_at 748 (by decide +kernel) rfl⟩
abbrev mL_restore : zM := (yL_restore, cL_restore, 4, (some FieldType.int), [((0 : Nat), (9 : Nat), (12 : Nat), (28 : Nat)), ((0 : Nat), (9 : Nat), (15 : Nat), (15 : Nat))])
theorem mwwL_restore : Cond.initialized yL_restore.cls ∈ gw := gw_at 12 (by decide +kernel) rfl
theorem mwcL_restore : Cond.codeWith yL_restore cL_restore 4 (some FieldType.int) [((0 : Nat), (9 : Nat), (12 : Nat), (28 : Nat)), ((0 : Nat), (9 : Nat), (15 : Nat), (15 : Nat))] ∈ gw := gw_at 752 (by decide +kernel) rfl
theorem msL_restore : Cond.static yL_restore ∈ gw := gw_at 751 (by decide +kernel) rfl
abbrev mX4_restore : zM := (yX4_restore, cX4_restore, 2, (some FieldType.int), [])
theorem mwX4_restore : z_mw yX4_restore cX4_restore 2 (some FieldType.int) 1 := ⟨gw_at 13 (by decide +kernel) rfl, gw_at 756 (by decide +kernel) rfl, (by decide +kernel), by decide⟩
theorem miX4_restore : z_mi yX4_restore := ⟨gw_at 754 (by decide +kernel) rfl, gw_at 755 (by decide +kernel) rfl⟩
abbrev mX5_init : zM := (yX5_init, cX5_init, 1, (none), [])
theorem mwX5_init : z_mw yX5_init cX5_init 1 (none) 0 := ⟨gw_at 18 (by decide +kernel) rfl, gw_at 761 (by decide +kernel) rfl, (by decide +kernel), by decide⟩
theorem miX5_init : Cond.instanceMethod yX5_init ∈ gw := gw_at 760 (by decide +kernel) rfl
abbrev mX5_clear : zM := (yX5_clear, cX5_clear, 2, (none), [])
theorem mwX5_clear : z_mw yX5_clear cX5_clear 2 (none) 1 := ⟨gw_at 18 (by decide +kernel) rfl, gw_at 765 (by decide +kernel) rfl, (by decide +kernel), by decide⟩
theorem msX5_clear : Cond.static yX5_clear ∈ gw := gw_at 764 (by decide +kernel) rfl
abbrev mX5_thrown : zM := (yX5_thrown, cX5_thrown, 1, (some FieldType.int), [])
theorem mwX5_thrown : z_mw yX5_thrown cX5_thrown 1 (some FieldType.int) 0 := ⟨gw_at 18 (by decide +kernel) rfl, gw_at 803 (by decide +kernel) rfl, (by decide +kernel), by decide⟩
theorem miX5_thrown : z_mi yX5_thrown := ⟨gw_at 801 (by decide +kernel) rfl, gw_at 802 (by decide +kernel) rfl⟩
abbrev mX5_append : zM := (yX5_append, cX5_append, 2, (some FieldType.int), [])
theorem mwX5_append : z_mw yX5_append cX5_append 2 (some FieldType.int) 1 := ⟨gw_at 18 (by decide +kernel) rfl, gw_at 807 (by decide +kernel) rfl, (by decide +kernel), by decide⟩
theorem miX5_append : z_mi yX5_append := ⟨gw_at 805 (by decide +kernel) rfl, gw_at 806 (by decide +kernel) rfl⟩
abbrev mX5_in : zM := (yX5_in, cX5_in, 6, (some FieldType.boolean), [])
theorem mwX5_in : z_mw yX5_in cX5_in 6 (some FieldType.boolean) 3 := ⟨gw_at 18 (by decide +kernel) rfl, gw_at 811 (by decide +kernel) rfl, (by decide +kernel), by decide⟩
theorem msX5_in : Cond.static yX5_in ∈ gw := gw_at 810 (by decide +kernel) rfl
abbrev mX5_refused : zM := (yX5_refused, cX5_refused, 2, (some FieldType.boolean), [])
theorem mwX5_refused : z_mw yX5_refused cX5_refused 2 (some FieldType.boolean) 1 := ⟨gw_at 18 (by decide +kernel) rfl, gw_at 815 (by decide +kernel) rfl, (by decide +kernel), by decide⟩
theorem miX5_refused : z_mi yX5_refused := ⟨gw_at 814 (by decide +kernel) rfl, gw_at 5 (by decide +kernel) rfl⟩
abbrev mX5_clearText : zM := (yX5_clearText, cX5_clearText, 2, (some FieldType.int), [])
theorem mwX5_clearText : z_mw yX5_clearText cX5_clearText 2 (some FieldType.int) 0 := ⟨gw_at 18 (by decide +kernel) rfl, gw_at 819 (by decide +kernel) rfl, (by decide +kernel), by decide⟩
theorem miX5_clearText : z_mi yX5_clearText := ⟨gw_at 817 (by decide +kernel) rfl, gw_at 818 (by decide +kernel) rfl⟩
abbrev mX5_errorPosition : zM := (yX5_errorPosition, cX5_errorPosition, 1, (some FieldType.int), [])
theorem mwX5_errorPosition : z_mw yX5_errorPosition cX5_errorPosition 1 (some FieldType.int) 0 := ⟨gw_at 18 (by decide +kernel) rfl, gw_at 823 (by decide +kernel) rfl, (by decide +kernel), by decide⟩
theorem miX5_errorPosition : z_mi yX5_errorPosition := ⟨gw_at 821 (by decide +kernel) rfl, gw_at 822 (by decide +kernel) rfl⟩
abbrev mX5_readText : zM := (yX5_readText, cX5_readText, 2, (some FieldType.int), [])
theorem mwX5_readText : z_mw yX5_readText cX5_readText 2 (some FieldType.int) 1 := ⟨gw_at 18 (by decide +kernel) rfl, gw_at 827 (by decide +kernel) rfl, (by decide +kernel), by decide⟩
theorem miX5_readText : z_mi yX5_readText := ⟨gw_at 826 (by decide +kernel) rfl, gw_at 6 (by decide +kernel) rfl⟩
abbrev mX5_readCommand : zM := (yX5_readCommand, cX5_readCommand, 5, (some FieldType.boolean), [])
theorem mwX5_readCommand : z_mw yX5_readCommand cX5_readCommand 5 (some FieldType.boolean) 1 := ⟨gw_at 18 (by decide +kernel) rfl, gw_at 831 (by decide +kernel) rfl, (by decide +kernel), by decide⟩
theorem miX5_readCommand : z_mi yX5_readCommand := ⟨gw_at 830 (by decide +kernel) rfl, gw_at 7 (by decide +kernel) rfl⟩
abbrev mX5_figures : zM := (yX5_figures, cX5_figures, 9, (some FieldType.int), [])
theorem mwX5_figures : z_mw yX5_figures cX5_figures 9 (some FieldType.int) 4 := ⟨gw_at 18 (by decide +kernel) rfl, gw_at 835 (by decide +kernel) rfl, (by decide +kernel), by decide⟩
theorem miX5_figures : z_mi yX5_figures := ⟨gw_at 834 (by decide +kernel) rfl, gw_at 8 (by decide +kernel) rfl⟩
abbrev mX5_addOn : zM := (yX5_addOn, cX5_addOn, 4, (some FieldType.int), [])
theorem mwX5_addOn : z_mw yX5_addOn cX5_addOn 4 (some FieldType.int) 3 := ⟨gw_at 18 (by decide +kernel) rfl, gw_at 839 (by decide +kernel) rfl, (by decide +kernel), by decide⟩
theorem msX5_addOn : Cond.static yX5_addOn ∈ gw := gw_at 838 (by decide +kernel) rfl
abbrev mX5_lay : zM := (yX5_lay, cX5_lay, 4, (none), [])
theorem mwX5_lay : z_mw yX5_lay cX5_lay 4 (none) 4 := ⟨gw_at 18 (by decide +kernel) rfl, gw_at 842 (by decide +kernel) rfl, (by decide +kernel), by decide⟩
theorem msX5_lay : Cond.static yX5_lay ∈ gw := gw_at 841 (by decide +kernel) rfl
abbrev mX5_done : zM := (yX5_done, cX5_done, 2, (some FieldType.boolean), [])
theorem mwX5_done : z_mw yX5_done cX5_done 2 (some FieldType.boolean) 1 := ⟨gw_at 18 (by decide +kernel) rfl, gw_at 846 (by decide +kernel) rfl, (by decide +kernel), by decide⟩
theorem miX5_done : z_mi yX5_done := ⟨gw_at 845 (by decide +kernel) rfl, gw_at 9 (by decide +kernel) rfl⟩
abbrev mX5_canBring : zM := (yX5_canBring, cX5_canBring, 5, (some FieldType.boolean), [])
theorem mwX5_canBring : z_mw yX5_canBring cX5_canBring 5 (some FieldType.boolean) 3 := ⟨gw_at 18 (by decide +kernel) rfl, gw_at 849 (by decide +kernel) rfl, (by decide +kernel), by decide⟩
theorem msX5_canBring : Cond.static yX5_canBring ∈ gw := gw_at 848 (by decide +kernel) rfl
abbrev mX5_isTask : zM := (yX5_isTask, cX5_isTask, 2, (some FieldType.boolean), [])
theorem mwX5_isTask : z_mw yX5_isTask cX5_isTask 2 (some FieldType.boolean) 2 := ⟨gw_at 18 (by decide +kernel) rfl, gw_at 852 (by decide +kernel) rfl, (by decide +kernel), by decide⟩
theorem msX5_isTask : Cond.static yX5_isTask ∈ gw := gw_at 851 (by decide +kernel) rfl
abbrev mX5_isStripe : zM := (yX5_isStripe, cX5_isStripe, 1, (some FieldType.boolean), [])
theorem mwX5_isStripe : z_mw yX5_isStripe cX5_isStripe 1 (some FieldType.boolean) 1 := ⟨gw_at 18 (by decide +kernel) rfl, gw_at 855 (by decide +kernel) rfl, (by decide +kernel), by decide⟩
theorem msX5_isStripe : Cond.static yX5_isStripe ∈ gw := gw_at 854 (by decide +kernel) rfl
abbrev mX5_of : zM := (yX5_of, cX5_of, 3, (some FieldType.int), [])
theorem mwX5_of : z_mw yX5_of cX5_of 3 (some FieldType.int) 3 := ⟨gw_at 18 (by decide +kernel) rfl, gw_at 859 (by decide +kernel) rfl, (by decide +kernel), by decide⟩
theorem msX5_of : Cond.static yX5_of ∈ gw := gw_at 858 (by decide +kernel) rfl
abbrev mX5_taker : zM := (yX5_taker, cX5_taker, 4, (some FieldType.int), [])
theorem mwX5_taker : z_mw yX5_taker cX5_taker 4 (some FieldType.int) 2 := ⟨gw_at 18 (by decide +kernel) rfl, gw_at 862 (by decide +kernel) rfl, (by decide +kernel), by decide⟩
theorem msX5_taker : Cond.static yX5_taker ∈ gw := gw_at 861 (by decide +kernel) rfl
abbrev mX5_bringOn : zM := (yX5_bringOn, cX5_bringOn, 7, (some FieldType.int), [])
theorem mwX5_bringOn : z_mw yX5_bringOn cX5_bringOn 7 (some FieldType.int) 3 := ⟨gw_at 18 (by decide +kernel) rfl, gw_at 865 (by decide +kernel) rfl, (by decide +kernel), by decide⟩
theorem msX5_bringOn : Cond.static yX5_bringOn ∈ gw := gw_at 864 (by decide +kernel) rfl
abbrev mX5_turnOn : zM := (yX5_turnOn, cX5_turnOn, 4, (some FieldType.int), [])
theorem mwX5_turnOn : z_mw yX5_turnOn cX5_turnOn 4 (some FieldType.int) 2 := ⟨gw_at 18 (by decide +kernel) rfl, gw_at 868 (by decide +kernel) rfl, (by decide +kernel), by decide⟩
theorem msX5_turnOn : Cond.static yX5_turnOn ∈ gw := gw_at 867 (by decide +kernel) rfl
abbrev mX5_hurt : zM := (yX5_hurt, cX5_hurt, 4, (some FieldType.int), [])
theorem mwX5_hurt : z_mw yX5_hurt cX5_hurt 4 (some FieldType.int) 2 := ⟨gw_at 18 (by decide +kernel) rfl, gw_at 871 (by decide +kernel) rfl, (by decide +kernel), by decide⟩
theorem msX5_hurt : Cond.static yX5_hurt ∈ gw := gw_at 870 (by decide +kernel) rfl
abbrev mX5_comer : zM := (yX5_comer, cX5_comer, 2, (some FieldType.int), [])
theorem mwX5_comer : z_mw yX5_comer cX5_comer 2 (some FieldType.int) 2 := ⟨gw_at 18 (by decide +kernel) rfl, gw_at 874 (by decide +kernel) rfl, (by decide +kernel), by decide⟩
theorem msX5_comer : Cond.static yX5_comer ∈ gw := gw_at 873 (by decide +kernel) rfl
abbrev mX5_isMove : zM := (yX5_isMove, cX5_isMove, 1, (some FieldType.boolean), [])
theorem mwX5_isMove : z_mw yX5_isMove cX5_isMove 1 (some FieldType.boolean) 1 := ⟨gw_at 18 (by decide +kernel) rfl, gw_at 877 (by decide +kernel) rfl, (by decide +kernel), by decide⟩
theorem msX5_isMove : Cond.static yX5_isMove ∈ gw := gw_at 876 (by decide +kernel) rfl
abbrev mX5_dropJob : zM := (yX5_dropJob, cX5_dropJob, 1, (none), [])
theorem mwX5_dropJob : z_mw yX5_dropJob cX5_dropJob 1 (none) 1 := ⟨gw_at 18 (by decide +kernel) rfl, gw_at 880 (by decide +kernel) rfl, (by decide +kernel), by decide⟩
theorem msX5_dropJob : Cond.static yX5_dropJob ∈ gw := gw_at 879 (by decide +kernel) rfl
abbrev mX5_mendOn : zM := (yX5_mendOn, cX5_mendOn, 3, (some FieldType.int), [])
theorem mwX5_mendOn : z_mw yX5_mendOn cX5_mendOn 3 (some FieldType.int) 2 := ⟨gw_at 18 (by decide +kernel) rfl, gw_at 883 (by decide +kernel) rfl, (by decide +kernel), by decide⟩
theorem msX5_mendOn : Cond.static yX5_mendOn ∈ gw := gw_at 882 (by decide +kernel) rfl
abbrev mX5_canStop : zM := (yX5_canStop, cX5_canStop, 2, (some FieldType.boolean), [])
theorem mwX5_canStop : z_mw yX5_canStop cX5_canStop 2 (some FieldType.boolean) 2 := ⟨gw_at 18 (by decide +kernel) rfl, gw_at 886 (by decide +kernel) rfl, (by decide +kernel), by decide⟩
theorem msX5_canStop : Cond.static yX5_canStop ∈ gw := gw_at 885 (by decide +kernel) rfl
abbrev mX5_stopOn : zM := (yX5_stopOn, cX5_stopOn, 2, (some FieldType.int), [])
theorem mwX5_stopOn : z_mw yX5_stopOn cX5_stopOn 2 (some FieldType.int) 2 := ⟨gw_at 18 (by decide +kernel) rfl, gw_at 889 (by decide +kernel) rfl, (by decide +kernel), by decide⟩
theorem msX5_stopOn : Cond.static yX5_stopOn ∈ gw := gw_at 888 (by decide +kernel) rfl
abbrev mX5_runOn : zM := (yX5_runOn, cX5_runOn, 4, (some FieldType.int), [])
theorem mwX5_runOn : z_mw yX5_runOn cX5_runOn 4 (some FieldType.int) 2 := ⟨gw_at 18 (by decide +kernel) rfl, gw_at 892 (by decide +kernel) rfl, (by decide +kernel), by decide⟩
theorem msX5_runOn : Cond.static yX5_runOn ∈ gw := gw_at 891 (by decide +kernel) rfl
abbrev mX5_tickOn : zM := (yX5_tickOn, cX5_tickOn, 4, (none), [])
theorem mwX5_tickOn : z_mw yX5_tickOn cX5_tickOn 4 (none) 1 := ⟨gw_at 18 (by decide +kernel) rfl, gw_at 895 (by decide +kernel) rfl, (by decide +kernel), by decide⟩
theorem msX5_tickOn : Cond.static yX5_tickOn ∈ gw := gw_at 894 (by decide +kernel) rfl
abbrev mX5_loadOn : zM := (yX5_loadOn, cX5_loadOn, 1, (none), [])
theorem mwX5_loadOn : z_mw yX5_loadOn cX5_loadOn 1 (none) 1 := ⟨gw_at 18 (by decide +kernel) rfl, gw_at 898 (by decide +kernel) rfl, (by decide +kernel), by decide⟩
theorem msX5_loadOn : Cond.static yX5_loadOn ∈ gw := gw_at 897 (by decide +kernel) rfl
abbrev mX5_finish : zM := (yX5_finish, cX5_finish, 2, (none), [])
theorem mwX5_finish : z_mw yX5_finish cX5_finish 2 (none) 1 := ⟨gw_at 18 (by decide +kernel) rfl, gw_at 901 (by decide +kernel) rfl, (by decide +kernel), by decide⟩
theorem msX5_finish : Cond.static yX5_finish ∈ gw := gw_at 900 (by decide +kernel) rfl
abbrev mX5_load : zM := (yX5_load, cX5_load, 1, (some FieldType.int), [])
theorem mwX5_load : z_mw yX5_load cX5_load 1 (some FieldType.int) 0 := ⟨gw_at 18 (by decide +kernel) rfl, gw_at 905 (by decide +kernel) rfl, (by decide +kernel), by decide⟩
theorem miX5_load : z_mi yX5_load := ⟨gw_at 903 (by decide +kernel) rfl, gw_at 904 (by decide +kernel) rfl⟩
abbrev mX5_copyState : zM := (yX5_copyState, cX5_copyState, 5, (none), [])
theorem mwX5_copyState : z_mw yX5_copyState cX5_copyState 5 (none) 4 := ⟨gw_at 18 (by decide +kernel) rfl, gw_at 908 (by decide +kernel) rfl, (by decide +kernel), by decide⟩
theorem msX5_copyState : Cond.static yX5_copyState ∈ gw := gw_at 907 (by decide +kernel) rfl
abbrev mX5_about : zM := (yX5_about, cX5_about, 7, (some FieldType.int), [])
theorem mwX5_about : z_mw yX5_about cX5_about 7 (some FieldType.int) 1 := ⟨gw_at 18 (by decide +kernel) rfl, gw_at 912 (by decide +kernel) rfl, (by decide +kernel), by decide⟩
theorem miX5_about : z_mi yX5_about := ⟨gw_at 910 (by decide +kernel) rfl, gw_at 911 (by decide +kernel) rfl⟩
abbrev mX5_freeFrom : zM := (yX5_freeFrom, cX5_freeFrom, 3, (some FieldType.int), [])
theorem mwX5_freeFrom : z_mw yX5_freeFrom cX5_freeFrom 3 (some FieldType.int) 2 := ⟨gw_at 18 (by decide +kernel) rfl, gw_at 916 (by decide +kernel) rfl, (by decide +kernel), by decide⟩
theorem msX5_freeFrom : Cond.static yX5_freeFrom ∈ gw := gw_at 915 (by decide +kernel) rfl
abbrev mX5_isFree : zM := (yX5_isFree, cX5_isFree, 2, (some FieldType.boolean), [])
theorem mwX5_isFree : z_mw yX5_isFree cX5_isFree 2 (some FieldType.boolean) 2 := ⟨gw_at 18 (by decide +kernel) rfl, gw_at 919 (by decide +kernel) rfl, (by decide +kernel), by decide⟩
theorem msX5_isFree : Cond.static yX5_isFree ∈ gw := gw_at 918 (by decide +kernel) rfl
abbrev mX5_running : zM := (yX5_running, cX5_running, 3, (some FieldType.int), [])
theorem mwX5_running : z_mw yX5_running cX5_running 3 (some FieldType.int) 1 := ⟨gw_at 18 (by decide +kernel) rfl, gw_at 922 (by decide +kernel) rfl, (by decide +kernel), by decide⟩
theorem msX5_running : Cond.static yX5_running ∈ gw := gw_at 921 (by decide +kernel) rfl
abbrev mX5_task : zM := (yX5_task, cX5_task, 3, (some FieldType.int), [])
theorem mwX5_task : z_mw yX5_task cX5_task 3 (some FieldType.int) 2 := ⟨gw_at 18 (by decide +kernel) rfl, gw_at 926 (by decide +kernel) rfl, (by decide +kernel), by decide⟩
theorem miX5_task : z_mi yX5_task := ⟨gw_at 924 (by decide +kernel) rfl, gw_at 925 (by decide +kernel) rfl⟩
abbrev mX5_stripe : zM := (yX5_stripe, cX5_stripe, 3, (some FieldType.int), [])
theorem mwX5_stripe : z_mw yX5_stripe cX5_stripe 3 (some FieldType.int) 2 := ⟨gw_at 18 (by decide +kernel) rfl, gw_at 931 (by decide +kernel) rfl, (by decide +kernel), by decide⟩
theorem miX5_stripe : z_mi yX5_stripe := ⟨gw_at 929 (by decide +kernel) rfl, gw_at 930 (by decide +kernel) rfl⟩
abbrev mX5_job : zM := (yX5_job, cX5_job, 2, (some FieldType.int), [])
theorem mwX5_job : z_mw yX5_job cX5_job 2 (some FieldType.int) 1 := ⟨gw_at 18 (by decide +kernel) rfl, gw_at 936 (by decide +kernel) rfl, (by decide +kernel), by decide⟩
theorem miX5_job : z_mi yX5_job := ⟨gw_at 934 (by decide +kernel) rfl, gw_at 935 (by decide +kernel) rfl⟩
abbrev mX5_setting : zM := (yX5_setting, cX5_setting, 2, (some FieldType.int), [])
theorem mwX5_setting : z_mw yX5_setting cX5_setting 2 (some FieldType.int) 1 := ⟨gw_at 18 (by decide +kernel) rfl, gw_at 940 (by decide +kernel) rfl, (by decide +kernel), by decide⟩
theorem miX5_setting : z_mi yX5_setting := ⟨gw_at 938 (by decide +kernel) rfl, gw_at 939 (by decide +kernel) rfl⟩
abbrev mX5_add : zM := (yX5_add, cX5_add, 3, (some FieldType.int), [])
theorem mwX5_add : z_mw yX5_add cX5_add 3 (some FieldType.int) 2 := ⟨gw_at 18 (by decide +kernel) rfl, gw_at 944 (by decide +kernel) rfl, (by decide +kernel), by decide⟩
theorem miX5_add : z_mi yX5_add := ⟨gw_at 942 (by decide +kernel) rfl, gw_at 943 (by decide +kernel) rfl⟩
abbrev mX5_remember : zM := (yX5_remember, cX5_remember, 2, (none), [])
theorem mwX5_remember : z_mw yX5_remember cX5_remember 2 (none) 0 := ⟨gw_at 18 (by decide +kernel) rfl, gw_at 950 (by decide +kernel) rfl, (by decide +kernel), by decide⟩
theorem miX5_remember : z_mi yX5_remember := ⟨gw_at 949 (by decide +kernel) rfl, gw_at 10 (by decide +kernel) rfl⟩
abbrev mX5_bring : zM := (yX5_bring, cX5_bring, 3, (some FieldType.int), [])
theorem mwX5_bring : z_mw yX5_bring cX5_bring 3 (some FieldType.int) 2 := ⟨gw_at 18 (by decide +kernel) rfl, gw_at 954 (by decide +kernel) rfl, (by decide +kernel), by decide⟩
theorem miX5_bring : z_mi yX5_bring := ⟨gw_at 952 (by decide +kernel) rfl, gw_at 953 (by decide +kernel) rfl⟩
abbrev mX5_stop : zM := (yX5_stop, cX5_stop, 2, (some FieldType.int), [])
theorem mwX5_stop : z_mw yX5_stop cX5_stop 2 (some FieldType.int) 1 := ⟨gw_at 18 (by decide +kernel) rfl, gw_at 958 (by decide +kernel) rfl, (by decide +kernel), by decide⟩
theorem miX5_stop : z_mi yX5_stop := ⟨gw_at 956 (by decide +kernel) rfl, gw_at 957 (by decide +kernel) rfl⟩
abbrev mX5_turnBad : zM := (yX5_turnBad, cX5_turnBad, 2, (some FieldType.int), [])
theorem mwX5_turnBad : z_mw yX5_turnBad cX5_turnBad 2 (some FieldType.int) 1 := ⟨gw_at 18 (by decide +kernel) rfl, gw_at 962 (by decide +kernel) rfl, (by decide +kernel), by decide⟩
theorem miX5_turnBad : z_mi yX5_turnBad := ⟨gw_at 960 (by decide +kernel) rfl, gw_at 961 (by decide +kernel) rfl⟩
abbrev mX5_mend : zM := (yX5_mend, cX5_mend, 2, (some FieldType.int), [])
theorem mwX5_mend : z_mw yX5_mend cX5_mend 2 (some FieldType.int) 1 := ⟨gw_at 18 (by decide +kernel) rfl, gw_at 966 (by decide +kernel) rfl, (by decide +kernel), by decide⟩
theorem miX5_mend : z_mi yX5_mend := ⟨gw_at 964 (by decide +kernel) rfl, gw_at 965 (by decide +kernel) rfl⟩
abbrev mX5_run : zM := (yX5_run, cX5_run, 2, (some FieldType.int), [])
theorem mwX5_run : z_mw yX5_run cX5_run 2 (some FieldType.int) 1 := ⟨gw_at 18 (by decide +kernel) rfl, gw_at 970 (by decide +kernel) rfl, (by decide +kernel), by decide⟩
theorem miX5_run : z_mi yX5_run := ⟨gw_at 968 (by decide +kernel) rfl, gw_at 969 (by decide +kernel) rfl⟩
abbrev mX5_set : zM := (yX5_set, cX5_set, 4, (some FieldType.int), [])
theorem mwX5_set : z_mw yX5_set cX5_set 4 (some FieldType.int) 2 := ⟨gw_at 18 (by decide +kernel) rfl, gw_at 975 (by decide +kernel) rfl, (by decide +kernel), by decide⟩
theorem miX5_set : z_mi yX5_set := ⟨gw_at 973 (by decide +kernel) rfl, gw_at 974 (by decide +kernel) rfl⟩
abbrev mX5_isSetting : zM := (yX5_isSetting, cX5_isSetting, 2, (some FieldType.boolean), [])
theorem mwX5_isSetting : z_mw yX5_isSetting cX5_isSetting 2 (some FieldType.boolean) 2 := ⟨gw_at 18 (by decide +kernel) rfl, gw_at 978 (by decide +kernel) rfl, (by decide +kernel), by decide⟩
theorem msX5_isSetting : Cond.static yX5_isSetting ∈ gw := gw_at 977 (by decide +kernel) rfl
abbrev mX5_undo : zM := (yX5_undo, cX5_undo, 1, (some FieldType.int), [])
theorem mwX5_undo : z_mw yX5_undo cX5_undo 1 (some FieldType.int) 0 := ⟨gw_at 18 (by decide +kernel) rfl, gw_at 984 (by decide +kernel) rfl, (by decide +kernel), by decide⟩
theorem miX5_undo : z_mi yX5_undo := ⟨gw_at 982 (by decide +kernel) rfl, gw_at 983 (by decide +kernel) rfl⟩
abbrev mX5_bestGap : zM := (yX5_bestGap, cX5_bestGap, 7, (some FieldType.int), [])
theorem mwX5_bestGap : z_mw yX5_bestGap cX5_bestGap 7 (some FieldType.int) 1 := ⟨gw_at 18 (by decide +kernel) rfl, gw_at 988 (by decide +kernel) rfl, (by decide +kernel), by decide⟩
theorem miX5_bestGap : z_mi yX5_bestGap := ⟨gw_at 986 (by decide +kernel) rfl, gw_at 987 (by decide +kernel) rfl⟩
abbrev mX5_window : zM := (yX5_window, cX5_window, 8, (some FieldType.int), [])
theorem mwX5_window : z_mw yX5_window cX5_window 8 (some FieldType.int) 2 := ⟨gw_at 18 (by decide +kernel) rfl, gw_at 992 (by decide +kernel) rfl, (by decide +kernel), by decide⟩
theorem miX5_window : z_mi yX5_window := ⟨gw_at 990 (by decide +kernel) rfl, gw_at 991 (by decide +kernel) rfl⟩
abbrev mX5_inWay : zM := (yX5_inWay, cX5_inWay, 7, (some FieldType.int), [])
theorem mwX5_inWay : z_mw yX5_inWay cX5_inWay 7 (some FieldType.int) 3 := ⟨gw_at 18 (by decide +kernel) rfl, gw_at 996 (by decide +kernel) rfl, (by decide +kernel), by decide⟩
theorem msX5_inWay : Cond.static yX5_inWay ∈ gw := gw_at 995 (by decide +kernel) rfl
abbrev mX5_idleIn : zM := (yX5_idleIn, cX5_idleIn, 1, (some FieldType.int), [])
theorem mwX5_idleIn : z_mw yX5_idleIn cX5_idleIn 1 (some FieldType.int) 0 := ⟨gw_at 18 (by decide +kernel) rfl, gw_at 1000 (by decide +kernel) rfl, (by decide +kernel), by decide⟩
theorem miX5_idleIn : z_mi yX5_idleIn := ⟨gw_at 998 (by decide +kernel) rfl, gw_at 999 (by decide +kernel) rfl⟩
abbrev mX5_idle : zM := (yX5_idle, cX5_idle, 1, (some FieldType.int), [])
theorem mwX5_idle : z_mw yX5_idle cX5_idle 1 (some FieldType.int) 1 := ⟨gw_at 18 (by decide +kernel) rfl, gw_at 1003 (by decide +kernel) rfl, (by decide +kernel), by decide⟩
theorem msX5_idle : Cond.static yX5_idle ∈ gw := gw_at 1002 (by decide +kernel) rfl
abbrev mX5_coming : zM := (yX5_coming, cX5_coming, 4, (some FieldType.int), [])
theorem mwX5_coming : z_mw yX5_coming cX5_coming 4 (some FieldType.int) 3 := ⟨gw_at 18 (by decide +kernel) rfl, gw_at 1007 (by decide +kernel) rfl, (by decide +kernel), by decide⟩
theorem miX5_coming : z_mi yX5_coming := ⟨gw_at 1005 (by decide +kernel) rfl, gw_at 1006 (by decide +kernel) rfl⟩
abbrev mX5_lost : zM := (yX5_lost, cX5_lost, 3, (some FieldType.int), [])
theorem mwX5_lost : z_mw yX5_lost cX5_lost 3 (some FieldType.int) 1 := ⟨gw_at 18 (by decide +kernel) rfl, gw_at 1012 (by decide +kernel) rfl, (by decide +kernel), by decide⟩
theorem miX5_lost : z_mi yX5_lost := ⟨gw_at 1010 (by decide +kernel) rfl, gw_at 1011 (by decide +kernel) rfl⟩
abbrev mX5_runScript : zM := (yX5_runScript, cX5_runScript, 8, (some FieldType.int), [])
theorem mwX5_runScript : z_mw yX5_runScript cX5_runScript 8 (some FieldType.int) 2 := ⟨gw_at 18 (by decide +kernel) rfl, gw_at 1016 (by decide +kernel) rfl, (by decide +kernel), by decide⟩
theorem miX5_runScript : z_mi yX5_runScript := ⟨gw_at 1014 (by decide +kernel) rfl, gw_at 1015 (by decide +kernel) rfl⟩
abbrev mX5_command : zM := (yX5_command, cX5_command, 10, (some FieldType.boolean), [])
theorem mwX5_command : z_mw yX5_command cX5_command 10 (some FieldType.boolean) 2 := ⟨gw_at 18 (by decide +kernel) rfl, gw_at 1022 (by decide +kernel) rfl, (by decide +kernel), by decide⟩
theorem miX5_command : z_mi yX5_command := ⟨gw_at 1021 (by decide +kernel) rfl, gw_at 11 (by decide +kernel) rfl⟩
abbrev mX5_simulate : zM := (yX5_simulate, cX5_simulate, 7, (some FieldType.int), [])
theorem mwX5_simulate : z_mw yX5_simulate cX5_simulate 7 (some FieldType.int) 2 := ⟨gw_at 18 (by decide +kernel) rfl, gw_at 1026 (by decide +kernel) rfl, (by decide +kernel), by decide⟩
theorem miX5_simulate : z_mi yX5_simulate := ⟨gw_at 1024 (by decide +kernel) rfl, gw_at 1025 (by decide +kernel) rfl⟩
abbrev mX5_turn : zM := (yX5_turn, cX5_turn, 3, (none), [])
theorem mwX5_turn : z_mw yX5_turn cX5_turn 3 (none) 2 := ⟨gw_at 18 (by decide +kernel) rfl, gw_at 1031 (by decide +kernel) rfl, (by decide +kernel), by decide⟩
theorem msX5_turn : Cond.static yX5_turn ∈ gw := gw_at 1030 (by decide +kernel) rfl
abbrev mX5_save : zM := (yX5_save, cX5_save, 2, (some FieldType.int), [])
theorem mwX5_save : z_mw yX5_save cX5_save 2 (some FieldType.int) 1 := ⟨gw_at 18 (by decide +kernel) rfl, gw_at 1035 (by decide +kernel) rfl, (by decide +kernel), by decide⟩
theorem miX5_save : z_mi yX5_save := ⟨gw_at 1033 (by decide +kernel) rfl, gw_at 1034 (by decide +kernel) rfl⟩
abbrev mX5_restore : zM := (yX5_restore, cX5_restore, 2, (some FieldType.int), [])
theorem mwX5_restore : z_mw yX5_restore cX5_restore 2 (some FieldType.int) 1 := ⟨gw_at 18 (by decide +kernel) rfl, gw_at 1039 (by decide +kernel) rfl, (by decide +kernel), by decide⟩
theorem miX5_restore : z_mi yX5_restore := ⟨gw_at 1037 (by decide +kernel) rfl, gw_at 1038 (by decide +kernel) rfl⟩
theorem lk_L_90 : Cond.methodLink RL 90 yX4_init ∈ gw := gw_at 28 (by decide +kernel) rfl
theorem lk_X4_1 : Cond.methodLink RX4 1 Lib.objectInit ∈ gw := gw_at 31 (by decide +kernel) rfl
theorem lk_X4_9 : Cond.methodLinkNest RX4 9 yX3_init RX4 ∈ z_nst := z_nst_at 36 (by decide +kernel) rfl
theorem lk_X3_3 : Cond.methodLink RX3 3 Lib.objectInit ∈ gw := gw_at 39 (by decide +kernel) rfl
theorem lk_X4_18 : Cond.methodLink RX4 18 yX1_init ∈ gw := gw_at 68 (by decide +kernel) rfl
theorem lk_X1_3 : Cond.methodLink RX1 3 Lib.objectInit ∈ gw := gw_at 71 (by decide +kernel) rfl
theorem lk_X1_25 : Cond.methodLinkNest RX1 25 yX2_init RX4 ∈ z_nst := z_nst_at 75 (by decide +kernel) rfl
theorem lk_X2_3 : Cond.methodLink RX2 3 Lib.objectInit ∈ gw := gw_at 78 (by decide +kernel) rfl
theorem lk_X1_26 : Cond.methodLink RX1 26 yX1_reset ∈ gw := gw_at 114 (by decide +kernel) rfl
theorem lk_X1_48 : Cond.methodLink RX1 48 yX1_endJob ∈ gw := gw_at 120 (by decide +kernel) rfl
theorem lk_X4_28 : Cond.methodLink RX4 28 yX0_init ∈ gw := gw_at 169 (by decide +kernel) rfl
theorem lk_X0_3 : Cond.methodLink RX0 3 Lib.objectInit ∈ gw := gw_at 172 (by decide +kernel) rfl
theorem lk_X0_24 : Cond.methodLink RX0 24 yX1_init ∈ gw := gw_at 175 (by decide +kernel) rfl
theorem lk_L_103 : Cond.methodLink RL 103 yX4_clearText ∈ gw := gw_at 206 (by decide +kernel) rfl
theorem lk_X4_59 : Cond.methodLink RX4 59 yX3_makeEmpty ∈ gw := gw_at 210 (by decide +kernel) rfl
theorem lk_L_107 : Cond.methodLink RL 107 yX4_errorPosition ∈ gw := gw_at 214 (by decide +kernel) rfl
theorem lk_X4_63 : Cond.methodLink RX4 63 yX3_firstError ∈ gw := gw_at 218 (by decide +kernel) rfl
theorem lk_X3_39 : Cond.methodLink RX3 39 yX3_beginReading ∈ gw := gw_at 222 (by decide +kernel) rfl
theorem lk_X3_42 : Cond.methodLink RX3 42 yX3_readCommand ∈ gw := gw_at 226 (by decide +kernel) rfl
theorem lk_X3_46 : Cond.methodLink RX3 46 yX3_isInText ∈ gw := gw_at 230 (by decide +kernel) rfl
theorem lk_X3_35 : Cond.methodLinkNest RX3 35 yX4_isBetween RX4 ∈ z_nst := z_nst_at 234 (by decide +kernel) rfl
theorem lk_X3_50 : Cond.methodLink RX3 50 yX3_readNumber ∈ gw := gw_at 237 (by decide +kernel) rfl
theorem lk_X3_54 : Cond.methodLink RX3 54 yX3_digitAt ∈ gw := gw_at 241 (by decide +kernel) rfl
theorem lk_L_161 : Cond.methodLink RL 161 yX4_idleIn ∈ gw := gw_at 245 (by decide +kernel) rfl
theorem lk_X4_241 : Cond.methodLink RX4 241 yX1_ticksUntilIdle ∈ gw := gw_at 249 (by decide +kernel) rfl
theorem lk_X1_106 : Cond.methodLink RX1 106 yX1_jobOwner ∈ gw := gw_at 253 (by decide +kernel) rfl
theorem lk_X1_64 : Cond.methodLink RX1 64 yX1_taskNumbered ∈ gw := gw_at 257 (by decide +kernel) rfl
theorem lk_L_94 : Cond.methodLink RL 94 yL_append ∈ gw := gw_at 261 (by decide +kernel) rfl
theorem lk_L_7 : Cond.methodLink RL 7 yX4_append ∈ gw := gw_at 266 (by decide +kernel) rfl
theorem lk_X4_41 : Cond.methodLink RX4 41 yX4_isBetween ∈ gw := gw_at 270 (by decide +kernel) rfl
theorem lk_X4_48 : Cond.methodLink RX4 48 yX3_isFull ∈ gw := gw_at 334 (by decide +kernel) rfl
theorem lk_X4_55 : Cond.methodLink RX4 55 yX3_put ∈ gw := gw_at 353 (by decide +kernel) rfl
theorem lk_L_111 : Cond.methodLink RL 111 yL_load ∈ gw := gw_at 357 (by decide +kernel) rfl
theorem lk_L_17 : Cond.methodLink RL 17 yX4_load ∈ gw := gw_at 360 (by decide +kernel) rfl
theorem lk_X4_66 : Cond.methodLink RX4 66 yX1_reset ∈ gw := gw_at 364 (by decide +kernel) rfl
theorem lk_X4_69 : Cond.methodLink RX4 69 yX0_forgetAll ∈ gw := gw_at 365 (by decide +kernel) rfl
theorem lk_X4_72 : Cond.methodLink RX4 72 yX3_beginReading ∈ gw := gw_at 369 (by decide +kernel) rfl
theorem lk_X4_75 : Cond.methodLink RX4 75 yX3_readCommand ∈ gw := gw_at 370 (by decide +kernel) rfl
theorem lk_X4_88 : Cond.methodLink RX4 88 yX4_obeyTextCommand ∈ gw := gw_at 371 (by decide +kernel) rfl
theorem lk_X4_190 : Cond.methodLink RX4 190 yX1_addTask ∈ gw := gw_at 374 (by decide +kernel) rfl
theorem lk_X1_72 : Cond.methodLink RX1 72 yX1_hasRoomForTask ∈ gw := gw_at 378 (by decide +kernel) rfl
theorem lk_X1_68 : Cond.methodLinkNest RX1 68 yX4_isBetween RX4 ∈ z_nst := z_nst_at 382 (by decide +kernel) rfl
theorem lk_X1_76 : Cond.methodLink RX1 76 yX2_begin ∈ gw := gw_at 383 (by decide +kernel) rfl
theorem lk_X2_27 : Cond.methodLink RX2 27 yX2_switchOff ∈ gw := gw_at 387 (by decide +kernel) rfl
theorem lk_X4_201 : Cond.methodLink RX4 201 yX1_startJob ∈ gw := gw_at 391 (by decide +kernel) rfl
theorem lk_X1_153 : Cond.methodLink RX1 153 yX1_canBring ∈ gw := gw_at 395 (by decide +kernel) rfl
theorem lk_X1_100 : Cond.methodLinkNest RX1 100 yX4_isStripe RX4 ∈ z_nst := z_nst_at 399 (by decide +kernel) rfl
theorem lk_X1_147 : Cond.methodLink RX1 147 yX1_isIdle ∈ gw := gw_at 402 (by decide +kernel) rfl
theorem lk_X1_116 : Cond.methodLink RX1 116 yX1_takerOf ∈ gw := gw_at 406 (by decide +kernel) rfl
theorem lk_X1_103 : Cond.methodLink RX1 103 yX2_takes ∈ gw := gw_at 410 (by decide +kernel) rfl
theorem lk_X1_113 : Cond.methodLink RX1 113 yX1_isGood ∈ gw := gw_at 414 (by decide +kernel) rfl
theorem lk_X1_141 : Cond.methodLink RX1 141 yX2_takesOneOf ∈ gw := gw_at 418 (by decide +kernel) rfl
theorem lk_X4_279 : Cond.methodLink RX4 279 yX4_tryToMakeBad ∈ gw := gw_at 422 (by decide +kernel) rfl
theorem lk_X4_144 : Cond.methodLink RX4 144 yX4_isStripe ∈ gw := gw_at 425 (by decide +kernel) rfl
theorem lk_X4_210 : Cond.methodLink RX4 210 yX1_makeBad ∈ gw := gw_at 426 (by decide +kernel) rfl
theorem lk_X1_144 : Cond.methodLink RX1 144 yX1_victimOf ∈ gw := gw_at 430 (by decide +kernel) rfl
theorem lk_X1_120 : Cond.methodLink RX1 120 yX1_moverTo ∈ gw := gw_at 434 (by decide +kernel) rfl
theorem lk_X1_96 : Cond.methodLink RX1 96 yX1_isTaskInStatus ∈ gw := gw_at 438 (by decide +kernel) rfl
theorem lk_X1_150 : Cond.methodLink RX1 150 yX2_fallBack ∈ gw := gw_at 442 (by decide +kernel) rfl
theorem lk_X4_213 : Cond.methodLink RX4 213 yX1_makeGood ∈ gw := gw_at 446 (by decide +kernel) rfl
theorem lk_X4_207 : Cond.methodLink RX4 207 yX1_stopTask ∈ gw := gw_at 450 (by decide +kernel) rfl
theorem lk_X1_83 : Cond.methodLink RX1 83 yX1_canStop ∈ gw := gw_at 454 (by decide +kernel) rfl
theorem lk_X1_87 : Cond.methodLink RX1 87 yX2_saveValue ∈ gw := gw_at 458 (by decide +kernel) rfl
theorem lk_X1_90 : Cond.methodLink RX1 90 yX2_switchOff ∈ gw := gw_at 462 (by decide +kernel) rfl
theorem lk_X4_216 : Cond.methodLink RX4 216 yX1_passTicks ∈ gw := gw_at 463 (by decide +kernel) rfl
theorem lk_X1_159 : Cond.methodLink RX1 159 yX1_passTick ∈ gw := gw_at 467 (by decide +kernel) rfl
theorem lk_X1_162 : Cond.methodLink RX1 162 yX1_advanceJob ∈ gw := gw_at 471 (by decide +kernel) rfl
theorem lk_X1_165 : Cond.methodLink RX1 165 yX2_work ∈ gw := gw_at 475 (by decide +kernel) rfl
theorem lk_L_115 : Cond.methodLink RL 115 yL_about ∈ gw := gw_at 479 (by decide +kernel) rfl
theorem lk_L_21 : Cond.methodLink RL 21 yX4_about ∈ gw := gw_at 482 (by decide +kernel) rfl
theorem lk_X4_98 : Cond.methodLink RX4 98 yX1_countRunning ∈ gw := gw_at 486 (by decide +kernel) rfl
theorem lk_X4_101 : Cond.methodLink RX4 101 yX1_countFree ∈ gw := gw_at 490 (by decide +kernel) rfl
theorem lk_X1_123 : Cond.methodLink RX1 123 yX1_isFree ∈ gw := gw_at 494 (by decide +kernel) rfl
theorem lk_X4_104 : Cond.methodLink RX4 104 yX1_longestFreeRow ∈ gw := gw_at 498 (by decide +kernel) rfl
theorem lk_X1_126 : Cond.methodLink RX1 126 yX1_freeRowFrom ∈ gw := gw_at 502 (by decide +kernel) rfl
theorem lk_X4_107 : Cond.methodLink RX4 107 yX1_countBad ∈ gw := gw_at 509 (by decide +kernel) rfl
theorem lk_L_118 : Cond.methodLink RL 118 yL_task ∈ gw := gw_at 513 (by decide +kernel) rfl
theorem lk_L_24 : Cond.methodLink RL 24 yX4_task ∈ gw := gw_at 517 (by decide +kernel) rfl
theorem lk_X4_119 : Cond.methodLink RX4 119 yX1_taskNumbered ∈ gw := gw_at 521 (by decide +kernel) rfl
theorem lk_L_122 : Cond.methodLink RL 122 yL_stripe ∈ gw := gw_at 537 (by decide +kernel) rfl
theorem lk_L_30 : Cond.methodLink RL 30 yX4_stripe ∈ gw := gw_at 540 (by decide +kernel) rfl
theorem lk_X4_148 : Cond.methodLink RX4 148 yX1_takerOf ∈ gw := gw_at 544 (by decide +kernel) rfl
theorem lk_X4_152 : Cond.methodLink RX4 152 yX1_moverTo ∈ gw := gw_at 545 (by decide +kernel) rfl
theorem lk_X4_155 : Cond.methodLink RX4 155 yX1_isBad ∈ gw := gw_at 546 (by decide +kernel) rfl
theorem lk_L_125 : Cond.methodLink RL 125 yL_job ∈ gw := gw_at 550 (by decide +kernel) rfl
theorem lk_L_33 : Cond.methodLink RL 33 yX4_job ∈ gw := gw_at 553 (by decide +kernel) rfl
theorem lk_X4_158 : Cond.methodLink RX4 158 yX1_isIdle ∈ gw := gw_at 557 (by decide +kernel) rfl
theorem lk_L_128 : Cond.methodLink RL 128 yL_setting ∈ gw := gw_at 558 (by decide +kernel) rfl
theorem lk_L_36 : Cond.methodLink RL 36 yX4_setting ∈ gw := gw_at 561 (by decide +kernel) rfl
theorem lk_X4_170 : Cond.methodLink RX4 170 yX4_isSetting ∈ gw := gw_at 565 (by decide +kernel) rfl
theorem lk_L_131 : Cond.methodLink RL 131 yL_add ∈ gw := gw_at 568 (by decide +kernel) rfl
theorem lk_L_39 : Cond.methodLink RL 39 yX4_add ∈ gw := gw_at 571 (by decide +kernel) rfl
theorem lk_X4_177 : Cond.methodLink RX4 177 yX4_isWidth ∈ gw := gw_at 575 (by decide +kernel) rfl
theorem lk_X4_180 : Cond.methodLink RX4 180 yX4_isValue ∈ gw := gw_at 578 (by decide +kernel) rfl
theorem lk_X4_183 : Cond.methodLink RX4 183 yX1_hasRoomForTask ∈ gw := gw_at 581 (by decide +kernel) rfl
theorem lk_X4_186 : Cond.methodLink RX4 186 yX0_remember ∈ gw := gw_at 582 (by decide +kernel) rfl
theorem lk_X0_25 : Cond.methodLink RX0 25 yX0_placeOf ∈ gw := gw_at 586 (by decide +kernel) rfl
theorem lk_X0_29 : Cond.methodLink RX0 29 yX1_copyFrom ∈ gw := gw_at 590 (by decide +kernel) rfl
theorem lk_X1_51 : Cond.methodLink RX1 51 yX2_copyFrom ∈ gw := gw_at 594 (by decide +kernel) rfl
theorem lk_L_134 : Cond.methodLink RL 134 yL_bring ∈ gw := gw_at 598 (by decide +kernel) rfl
theorem lk_L_42 : Cond.methodLink RL 42 yX4_bring ∈ gw := gw_at 601 (by decide +kernel) rfl
theorem lk_X4_194 : Cond.methodLink RX4 194 yX1_hasTask ∈ gw := gw_at 605 (by decide +kernel) rfl
theorem lk_X4_197 : Cond.methodLink RX4 197 yX1_canBring ∈ gw := gw_at 609 (by decide +kernel) rfl
theorem lk_L_137 : Cond.methodLink RL 137 yL_stop ∈ gw := gw_at 610 (by decide +kernel) rfl
theorem lk_L_45 : Cond.methodLink RL 45 yX4_stop ∈ gw := gw_at 613 (by decide +kernel) rfl
theorem lk_X4_204 : Cond.methodLink RX4 204 yX1_canStop ∈ gw := gw_at 617 (by decide +kernel) rfl
theorem lk_L_140 : Cond.methodLink RL 140 yL_turnBad ∈ gw := gw_at 618 (by decide +kernel) rfl
theorem lk_L_48 : Cond.methodLink RL 48 yX4_turnBad ∈ gw := gw_at 621 (by decide +kernel) rfl
theorem lk_L_143 : Cond.methodLink RL 143 yL_mend ∈ gw := gw_at 625 (by decide +kernel) rfl
theorem lk_L_51 : Cond.methodLink RL 51 yX4_mend ∈ gw := gw_at 628 (by decide +kernel) rfl
theorem lk_L_146 : Cond.methodLink RL 146 yL_run ∈ gw := gw_at 632 (by decide +kernel) rfl
theorem lk_L_54 : Cond.methodLink RL 54 yX4_run ∈ gw := gw_at 635 (by decide +kernel) rfl
theorem lk_L_149 : Cond.methodLink RL 149 yL_set ∈ gw := gw_at 639 (by decide +kernel) rfl
theorem lk_L_57 : Cond.methodLink RL 57 yX4_set ∈ gw := gw_at 642 (by decide +kernel) rfl
theorem lk_L_152 : Cond.methodLink RL 152 yL_undo ∈ gw := gw_at 650 (by decide +kernel) rfl
theorem lk_L_60 : Cond.methodLink RL 60 yX4_undo ∈ gw := gw_at 653 (by decide +kernel) rfl
theorem lk_X4_228 : Cond.methodLink RX4 228 yX0_takeBack ∈ gw := gw_at 657 (by decide +kernel) rfl
theorem lk_L_155 : Cond.methodLink RL 155 yL_bestGap ∈ gw := gw_at 661 (by decide +kernel) rfl
theorem lk_L_63 : Cond.methodLink RL 63 yX4_bestGap ∈ gw := gw_at 664 (by decide +kernel) rfl
theorem lk_X4_232 : Cond.methodLink RX4 232 yX1_shortestGap ∈ gw := gw_at 668 (by decide +kernel) rfl
theorem lk_L_158 : Cond.methodLink RL 158 yL_window ∈ gw := gw_at 672 (by decide +kernel) rfl
theorem lk_L_66 : Cond.methodLink RL 66 yX4_window ∈ gw := gw_at 675 (by decide +kernel) rfl
theorem lk_X4_235 : Cond.methodLink RX4 235 yX1_easiestWindow ∈ gw := gw_at 679 (by decide +kernel) rfl
theorem lk_X1_135 : Cond.methodLink RX1 135 yX1_canBeMadeFree ∈ gw := gw_at 683 (by decide +kernel) rfl
theorem lk_X1_138 : Cond.methodLink RX1 138 yX1_widthInTheWay ∈ gw := gw_at 687 (by decide +kernel) rfl
theorem lk_X4_238 : Cond.methodLink RX4 238 yX1_widthInTheWay ∈ gw := gw_at 691 (by decide +kernel) rfl
theorem lk_L_165 : Cond.methodLink RL 165 yL_coming ∈ gw := gw_at 692 (by decide +kernel) rfl
theorem lk_L_69 : Cond.methodLink RL 69 yX4_coming ∈ gw := gw_at 695 (by decide +kernel) rfl
theorem lk_X4_244 : Cond.methodLink RX4 244 yX1_copyFrom ∈ gw := gw_at 699 (by decide +kernel) rfl
theorem lk_X4_247 : Cond.methodLink RX4 247 yX1_passTick ∈ gw := gw_at 700 (by decide +kernel) rfl
theorem lk_L_169 : Cond.methodLink RL 169 yL_lost ∈ gw := gw_at 701 (by decide +kernel) rfl
theorem lk_L_73 : Cond.methodLink RL 73 yX4_lost ∈ gw := gw_at 704 (by decide +kernel) rfl
theorem lk_X4_250 : Cond.methodLink RX4 250 yX1_victimOf ∈ gw := gw_at 708 (by decide +kernel) rfl
theorem lk_L_174 : Cond.methodLink RL 174 yL_runScript ∈ gw := gw_at 709 (by decide +kernel) rfl
theorem lk_L_76 : Cond.methodLink RL 76 yX4_runScript ∈ gw := gw_at 712 (by decide +kernel) rfl
theorem lk_X4_256 : Cond.methodLink RX4 256 yX4_withoutLastGroups ∈ gw := gw_at 716 (by decide +kernel) rfl
theorem lk_X4_262 : Cond.methodLink RX4 262 yX4_obeyGroup ∈ gw := gw_at 720 (by decide +kernel) rfl
theorem lk_X4_282 : Cond.methodLink RX4 282 yX1_isTaskInStatus ∈ gw := gw_at 723 (by decide +kernel) rfl
theorem lk_X4_285 : Cond.methodLink RX4 285 yX1_isTaskAtValue ∈ gw := gw_at 724 (by decide +kernel) rfl
theorem lk_L_178 : Cond.methodLink RL 178 yL_simulate ∈ gw := gw_at 728 (by decide +kernel) rfl
theorem lk_L_80 : Cond.methodLink RL 80 yX4_simulate ∈ gw := gw_at 731 (by decide +kernel) rfl
theorem lk_X4_270 : Cond.methodLink RX4 270 yX4_takeTurn ∈ gw := gw_at 737 (by decide +kernel) rfl
theorem lk_L_182 : Cond.methodLink RL 182 yL_save ∈ gw := gw_at 743 (by decide +kernel) rfl
theorem lk_L_84 : Cond.methodLink RL 84 yX4_save ∈ gw := gw_at 746 (by decide +kernel) rfl
theorem lk_L_185 : Cond.methodLink RL 185 yL_restore ∈ gw := gw_at 750 (by decide +kernel) rfl
theorem lk_L_87 : Cond.methodLink RL 87 yX4_restore ∈ gw := gw_at 753 (by decide +kernel) rfl
theorem lk_L_93 : Cond.methodLink RL 93 yX5_init ∈ gw := gw_at 759 (by decide +kernel) rfl
theorem lk_X5_1 : Cond.methodLink RX5 1 Lib.objectInit ∈ gw := gw_at 762 (by decide +kernel) rfl
theorem lk_X5_29 : Cond.methodLink RX5 29 yX5_clear ∈ gw := gw_at 763 (by decide +kernel) rfl
theorem lk_L_100 : Cond.methodLink RL 100 yX5_thrown ∈ gw := gw_at 800 (by decide +kernel) rfl
theorem lk_L_99 : Cond.methodLink RL 99 yX5_append ∈ gw := gw_at 804 (by decide +kernel) rfl
theorem lk_X5_37 : Cond.methodLink RX5 37 yX5_in ∈ gw := gw_at 809 (by decide +kernel) rfl
theorem lk_X5_99 : Cond.methodLink RX5 99 yX5_refused ∈ gw := gw_at 812 (by decide +kernel) rfl
theorem lk_L_106 : Cond.methodLink RL 106 yX5_clearText ∈ gw := gw_at 816 (by decide +kernel) rfl
theorem lk_L_110 : Cond.methodLink RL 110 yX5_errorPosition ∈ gw := gw_at 820 (by decide +kernel) rfl
theorem lk_X5_144 : Cond.methodLink RX5 144 yX5_readText ∈ gw := gw_at 824 (by decide +kernel) rfl
theorem lk_X5_141 : Cond.methodLink RX5 141 yX5_readCommand ∈ gw := gw_at 828 (by decide +kernel) rfl
theorem lk_X5_108 : Cond.methodLink RX5 108 yX5_figures ∈ gw := gw_at 832 (by decide +kernel) rfl
theorem lk_X5_112 : Cond.methodLink RX5 112 yX5_addOn ∈ gw := gw_at 837 (by decide +kernel) rfl
theorem lk_X5_69 : Cond.methodLink RX5 69 yX5_lay ∈ gw := gw_at 840 (by decide +kernel) rfl
theorem lk_X5_115 : Cond.methodLink RX5 115 yX5_done ∈ gw := gw_at 843 (by decide +kernel) rfl
theorem lk_X5_119 : Cond.methodLink RX5 119 yX5_canBring ∈ gw := gw_at 847 (by decide +kernel) rfl
theorem lk_X5_62 : Cond.methodLink RX5 62 yX5_isTask ∈ gw := gw_at 850 (by decide +kernel) rfl
theorem lk_X5_65 : Cond.methodLink RX5 65 yX5_isStripe ∈ gw := gw_at 853 (by decide +kernel) rfl
theorem lk_X5_43 : Cond.methodLink RX5 43 yX5_of ∈ gw := gw_at 857 (by decide +kernel) rfl
theorem lk_X5_51 : Cond.methodLink RX5 51 yX5_taker ∈ gw := gw_at 860 (by decide +kernel) rfl
theorem lk_X5_123 : Cond.methodLink RX5 123 yX5_bringOn ∈ gw := gw_at 863 (by decide +kernel) rfl
theorem lk_X5_126 : Cond.methodLink RX5 126 yX5_turnOn ∈ gw := gw_at 866 (by decide +kernel) rfl
theorem lk_X5_82 : Cond.methodLink RX5 82 yX5_hurt ∈ gw := gw_at 869 (by decide +kernel) rfl
theorem lk_X5_55 : Cond.methodLink RX5 55 yX5_comer ∈ gw := gw_at 872 (by decide +kernel) rfl
theorem lk_X5_47 : Cond.methodLink RX5 47 yX5_isMove ∈ gw := gw_at 875 (by decide +kernel) rfl
theorem lk_X5_85 : Cond.methodLink RX5 85 yX5_dropJob ∈ gw := gw_at 878 (by decide +kernel) rfl
theorem lk_X5_129 : Cond.methodLink RX5 129 yX5_mendOn ∈ gw := gw_at 881 (by decide +kernel) rfl
theorem lk_X5_132 : Cond.methodLink RX5 132 yX5_canStop ∈ gw := gw_at 884 (by decide +kernel) rfl
theorem lk_X5_135 : Cond.methodLink RX5 135 yX5_stopOn ∈ gw := gw_at 887 (by decide +kernel) rfl
theorem lk_X5_138 : Cond.methodLink RX5 138 yX5_runOn ∈ gw := gw_at 890 (by decide +kernel) rfl
theorem lk_X5_79 : Cond.methodLink RX5 79 yX5_tickOn ∈ gw := gw_at 893 (by decide +kernel) rfl
theorem lk_X5_76 : Cond.methodLink RX5 76 yX5_loadOn ∈ gw := gw_at 896 (by decide +kernel) rfl
theorem lk_X5_73 : Cond.methodLink RX5 73 yX5_finish ∈ gw := gw_at 899 (by decide +kernel) rfl
theorem lk_L_114 : Cond.methodLink RL 114 yX5_load ∈ gw := gw_at 902 (by decide +kernel) rfl
theorem lk_X5_148 : Cond.methodLink RX5 148 yX5_copyState ∈ gw := gw_at 906 (by decide +kernel) rfl
theorem lk_L_117 : Cond.methodLink RL 117 yX5_about ∈ gw := gw_at 909 (by decide +kernel) rfl
theorem lk_X5_157 : Cond.methodLink RX5 157 yX5_freeFrom ∈ gw := gw_at 914 (by decide +kernel) rfl
theorem lk_X5_58 : Cond.methodLink RX5 58 yX5_isFree ∈ gw := gw_at 917 (by decide +kernel) rfl
theorem lk_X5_160 : Cond.methodLink RX5 160 yX5_running ∈ gw := gw_at 920 (by decide +kernel) rfl
theorem lk_L_121 : Cond.methodLink RL 121 yX5_task ∈ gw := gw_at 923 (by decide +kernel) rfl
theorem lk_L_124 : Cond.methodLink RL 124 yX5_stripe ∈ gw := gw_at 928 (by decide +kernel) rfl
theorem lk_L_127 : Cond.methodLink RL 127 yX5_job ∈ gw := gw_at 933 (by decide +kernel) rfl
theorem lk_L_130 : Cond.methodLink RL 130 yX5_setting ∈ gw := gw_at 937 (by decide +kernel) rfl
theorem lk_L_133 : Cond.methodLink RL 133 yX5_add ∈ gw := gw_at 941 (by decide +kernel) rfl
theorem lk_X5_171 : Cond.methodLink RX5 171 yX5_remember ∈ gw := gw_at 947 (by decide +kernel) rfl
theorem lk_L_136 : Cond.methodLink RL 136 yX5_bring ∈ gw := gw_at 951 (by decide +kernel) rfl
theorem lk_L_139 : Cond.methodLink RL 139 yX5_stop ∈ gw := gw_at 955 (by decide +kernel) rfl
theorem lk_L_142 : Cond.methodLink RL 142 yX5_turnBad ∈ gw := gw_at 959 (by decide +kernel) rfl
theorem lk_L_145 : Cond.methodLink RL 145 yX5_mend ∈ gw := gw_at 963 (by decide +kernel) rfl
theorem lk_L_148 : Cond.methodLink RL 148 yX5_run ∈ gw := gw_at 967 (by decide +kernel) rfl
theorem lk_L_151 : Cond.methodLink RL 151 yX5_set ∈ gw := gw_at 972 (by decide +kernel) rfl
theorem lk_X5_176 : Cond.methodLink RX5 176 yX5_isSetting ∈ gw := gw_at 976 (by decide +kernel) rfl
theorem lk_L_154 : Cond.methodLink RL 154 yX5_undo ∈ gw := gw_at 981 (by decide +kernel) rfl
theorem lk_L_157 : Cond.methodLink RL 157 yX5_bestGap ∈ gw := gw_at 985 (by decide +kernel) rfl
theorem lk_L_160 : Cond.methodLink RL 160 yX5_window ∈ gw := gw_at 989 (by decide +kernel) rfl
theorem lk_X5_182 : Cond.methodLink RX5 182 yX5_inWay ∈ gw := gw_at 994 (by decide +kernel) rfl
theorem lk_L_164 : Cond.methodLink RL 164 yX5_idleIn ∈ gw := gw_at 997 (by decide +kernel) rfl
theorem lk_X5_185 : Cond.methodLink RX5 185 yX5_idle ∈ gw := gw_at 1001 (by decide +kernel) rfl
theorem lk_L_168 : Cond.methodLink RL 168 yX5_coming ∈ gw := gw_at 1004 (by decide +kernel) rfl
theorem lk_L_171 : Cond.methodLink RL 171 yX5_lost ∈ gw := gw_at 1009 (by decide +kernel) rfl
theorem lk_L_177 : Cond.methodLink RL 177 yX5_runScript ∈ gw := gw_at 1013 (by decide +kernel) rfl
theorem lk_X5_194 : Cond.methodLink RX5 194 yX5_command ∈ gw := gw_at 1019 (by decide +kernel) rfl
theorem lk_L_181 : Cond.methodLink RL 181 yX5_simulate ∈ gw := gw_at 1023 (by decide +kernel) rfl
theorem lk_X5_201 : Cond.methodLink RX5 201 yX5_turn ∈ gw := gw_at 1029 (by decide +kernel) rfl
theorem lk_L_184 : Cond.methodLink RL 184 yX5_save ∈ gw := gw_at 1032 (by decide +kernel) rfl
theorem lk_L_187 : Cond.methodLink RL 187 yX5_restore ∈ gw := gw_at 1036 (by decide +kernel) rfl
