/-! CONSTRUCTORS: the reference (written by wip/whole/gen_init4.py) -/
def sMd1 (d : Nat) : (Nat → Int32) → va_E := fun i => .inr (5, [.int (i 0), .ref (d + 1), .int (i 2), .null, .null, .null, .int (i 6), .null, .null, .int (i 9), .int (i 10)])
def sMd2 (d : Nat) : (Nat → Int32) → va_E := fun i => .inr (5, [.int (i 0), .ref (d + 1), .int (i 2), .ref (d + 2), .null, .null, .int (i 6), .null, .null, .int (i 9), .int (i 10)])
def sMd3 (d : Nat) : (Nat → Int32) → va_E := fun i => .inr (5, [.int (i 0), .ref (d + 1), .int (i 2), .ref (d + 2), .ref (d + 3), .null, .int (i 6), .null, .null, .int (i 9), .int (i 10)])
def sMd4 (d : Nat) : (Nat → Int32) → va_E := fun i => .inr (5, [.int (i 0), .ref (d + 1), .int (i 2), .ref (d + 2), .ref (d + 3), .ref (d + 4), .int (i 6), .null, .null, .int (i 9), .int (i 10)])
def sMd5 (d : Nat) : (Nat → Int32) → va_E := fun i => .inr (5, [.int (i 0), .ref (d + 1), .int (i 2), .ref (d + 2), .ref (d + 3), .ref (d + 4), .int (i 6), .ref (d + 5), .null, .int (i 9), .int (i 10)])
section INIT4
variable {E : zE} {l : Launch} {G : zG} {I : zI} {sz d : Nat}
set_option maxRecDepth 20000 in
set_option maxHeartbeats 4000000 in
theorem c5_init (hl : l.stackTraces = false) (hx : (d, sMd0) ∈ G) (hI : I d = fun _ => 0) : z_Ct E l mX5_init 2 6 1292 [.ref d] G I (d + 1) (fun v' G' I' sz' => v' = none ∧ sz' = d + 7 ∧ ShM E G' d ∧ I' (d + 2) = p_new ∧ (I' d = fun _ => 0) ∧ (∀ j, I' (d + 6) j = 0) ∧ KeepG G G' d ∧ ∀ q, q < d → I' q = I q) := by
  refine z_Ct.of hl pn_X5 [some (.ref d)] rfl (Nat.le_of_ble_eq_true rfl) ?_
  refine v_aload_n (pc' := 1) dX5_init_0 rfl rfl ?_
  refine v_objInit (pc' := 4) dX5_init_1 lk_X5_1 oi_i oi_c (by decide) (Nat.le_of_ble_eq_true rfl) rfl ?_
  refine v_aload_n (pc' := 5) dX5_init_4 rfl rfl ?_
  refine v_bipush (pc' := 7) dX5_init_5 kb_120 rfl ?_
  refine v_newa (t := 0) (N1 := 120) (pc' := 9) dX5_init_7 (sI E 0 120) (120, .inl fun _ => 0) rfl rfl ac_int rfl (fun C h => by cases h) (fun cA => by rw [vp_cell_i]; rfl) (by decide) (by decide) (by decide) (by decide) rfl ?_
  refine v_putM (ci := 5) (kf := 1) (f := sMd0) (f' := sMd1 d) (pc' := 12) (List.mem_cons_of_mem _ hx) dX5_init_9 rfl rfl in_X5 tyX5 tyX5_ok nmX5 (by decide) fl_X5_7 rfl rfl rfl (tyX5_ok 1 (by decide)) rfl rfl (by simp) rfl rfl ?_
  intro H0 hH0
  have n0 : ∀ x ∈ G, x.1 ≠ d → x ∈ H0 := fun x hx hne => hH0.2 x (List.mem_cons_of_mem _ hx) hne
  have m0 : (d + 1, sI E 0 120) ∈ H0 := hH0.2 _ List.mem_cons_self (by show d + 1 ≠ d; omega)
  refine v_aload_n (pc' := 13) dX5_init_12 rfl rfl ?_
  refine v_bipush (pc' := 15) dX5_init_13 kb_65 rfl ?_
  refine v_newa (t := 0) (N1 := 65) (pc' := 17) dX5_init_15 (sI E 0 65) (65, .inl fun _ => 0) rfl rfl ac_int rfl (fun C h => by cases h) (fun cA => by rw [vp_cell_i]; rfl) (by decide) (by decide) (by decide) (by decide) rfl ?_
  refine v_putM (ci := 5) (kf := 3) (f := sMd1 d) (f' := sMd2 d) (pc' := 20) (List.mem_cons_of_mem _ hH0.1) dX5_init_17 rfl rfl in_X5 tyX5 tyX5_ok nmX5 (by decide) fl_X5_13 rfl rfl rfl (tyX5_ok 3 (by decide)) rfl rfl (by simp) rfl rfl ?_
  intro H1 hH1
  have n1 : ∀ x ∈ H0, x.1 ≠ d → x ∈ H1 := fun x hx hne => hH1.2 x (List.mem_cons_of_mem _ hx) hne
  have m1 : (d + 2, sI E 0 65) ∈ H1 := hH1.2 _ List.mem_cons_self (by show d + 2 ≠ d; omega)
  refine v_aload_n (pc' := 21) dX5_init_20 rfl rfl ?_
  refine v_bipush (pc' := 23) dX5_init_21 kb_65 rfl ?_
  refine v_newa (t := 0) (N1 := 65) (pc' := 25) dX5_init_23 (sI E 0 65) (65, .inl fun _ => 0) rfl rfl ac_int rfl (fun C h => by cases h) (fun cA => by rw [vp_cell_i]; rfl) (by decide) (by decide) (by decide) (by decide) rfl ?_
  refine v_putM (ci := 5) (kf := 4) (f := sMd2 d) (f' := sMd3 d) (pc' := 28) (List.mem_cons_of_mem _ hH1.1) dX5_init_25 rfl rfl in_X5 tyX5 tyX5_ok nmX5 (by decide) fl_X5_16 rfl rfl rfl (tyX5_ok 4 (by decide)) rfl rfl (by simp) rfl rfl ?_
  intro H2 hH2
  have n2 : ∀ x ∈ H1, x.1 ≠ d → x ∈ H2 := fun x hx hne => hH2.2 x (List.mem_cons_of_mem _ hx) hne
  have m2 : (d + 3, sI E 0 65) ∈ H2 := hH2.2 _ List.mem_cons_self (by show d + 3 ≠ d; omega)
  refine v_aload_n (pc' := 29) dX5_init_28 rfl rfl ?_
  refine v_sipush (pc' := 32) dX5_init_29 ks_910 rfl ?_
  refine v_newa (t := 0) (N1 := 910) (pc' := 34) dX5_init_32 (sI E 0 910) (910, .inl fun _ => 0) rfl rfl ac_int rfl (fun C h => by cases h) (fun cA => by rw [vp_cell_i]; rfl) (by decide) (by decide) (by decide) (by decide) rfl ?_
  refine v_putM (ci := 5) (kf := 5) (f := sMd3 d) (f' := sMd4 d) (pc' := 37) (List.mem_cons_of_mem _ hH2.1) dX5_init_34 rfl rfl in_X5 tyX5 tyX5_ok nmX5 (by decide) fl_X5_19 rfl rfl rfl (tyX5_ok 5 (by decide)) rfl rfl (by simp) rfl rfl ?_
  intro H3 hH3
  have n3 : ∀ x ∈ H2, x.1 ≠ d → x ∈ H3 := fun x hx hne => hH3.2 x (List.mem_cons_of_mem _ hx) hne
  have m3 : (d + 4, sI E 0 910) ∈ H3 := hH3.2 _ List.mem_cons_self (by show d + 4 ≠ d; omega)
  refine v_aload_n (pc' := 38) dX5_init_37 rfl rfl ?_
  refine v_sipush (pc' := 41) dX5_init_38 ks_130 rfl ?_
  refine v_newa (t := 0) (N1 := 130) (pc' := 43) dX5_init_41 (sI E 0 130) (130, .inl fun _ => 0) rfl rfl ac_int rfl (fun C h => by cases h) (fun cA => by rw [vp_cell_i]; rfl) (by decide) (by decide) (by decide) (by decide) rfl ?_
  refine v_putM (ci := 5) (kf := 7) (f := sMd4 d) (f' := sMd5 d) (pc' := 46) (List.mem_cons_of_mem _ hH3.1) dX5_init_43 rfl rfl in_X5 tyX5 tyX5_ok nmX5 (by decide) fl_X5_22 rfl rfl rfl (tyX5_ok 7 (by decide)) rfl rfl (by simp) rfl rfl ?_
  intro H4 hH4
  have n4 : ∀ x ∈ H3, x.1 ≠ d → x ∈ H4 := fun x hx hne => hH4.2 x (List.mem_cons_of_mem _ hx) hne
  have m4 : (d + 5, sI E 0 130) ∈ H4 := hH4.2 _ List.mem_cons_self (by show d + 5 ≠ d; omega)
  refine v_aload_n (pc' := 47) dX5_init_46 rfl rfl ?_
  refine v_iconst (pc' := 48) dX5_init_47 kc_2 rfl ?_
  refine v_newa (t := 1) (N1 := 2) (pc' := 50) dX5_init_48 (sI E 1 2) (2, .inl fun _ => 0) rfl rfl ac_boolean rfl (fun C h => by cases h) (fun cA => by rw [vp_cell_i]; rfl) (by decide) (by decide) (by decide) (by decide) rfl ?_
  refine v_putM (ci := 5) (kf := 8) (f := sMd5 d) (f' := sMd d) (pc' := 53) (List.mem_cons_of_mem _ hH4.1) dX5_init_50 rfl rfl in_X5 tyX5 tyX5_ok nmX5 (by decide) fl_X5_25 rfl rfl rfl (tyX5_ok 8 (by decide)) rfl rfl (by simp) rfl rfl ?_
  intro H5 hH5
  have n5 : ∀ x ∈ H4, x.1 ≠ d → x ∈ H5 := fun x hx hne => hH5.2 x (List.mem_cons_of_mem _ hx) hne
  have m5 : (d + 6, sI E 1 2) ∈ H5 := hH5.2 _ List.mem_cons_self (by show d + 6 ≠ d; omega)
  have z0 : (d + 1, sI E 0 120) ∈ H5 := n5 _ (n4 _ (n3 _ (n2 _ (n1 _ (m0) (by show d + 1 ≠ d; omega)) (by show d + 1 ≠ d; omega)) (by show d + 1 ≠ d; omega)) (by show d + 1 ≠ d; omega)) (by show d + 1 ≠ d; omega)
  have z1 : (d + 2, sI E 0 65) ∈ H5 := n5 _ (n4 _ (n3 _ (n2 _ (m1) (by show d + 2 ≠ d; omega)) (by show d + 2 ≠ d; omega)) (by show d + 2 ≠ d; omega)) (by show d + 2 ≠ d; omega)
  have z2 : (d + 3, sI E 0 65) ∈ H5 := n5 _ (n4 _ (n3 _ (m2) (by show d + 3 ≠ d; omega)) (by show d + 3 ≠ d; omega)) (by show d + 3 ≠ d; omega)
  have z3 : (d + 4, sI E 0 910) ∈ H5 := n5 _ (n4 _ (m3) (by show d + 4 ≠ d; omega)) (by show d + 4 ≠ d; omega)
  have z4 : (d + 5, sI E 0 130) ∈ H5 := n5 _ (m4) (by show d + 5 ≠ d; omega)
  have z5 : (d + 6, sI E 1 2) ∈ H5 := m5
  have ks : KeepG G H5 d := fun x hx hne => n5 x (n4 x (n3 x (n2 x (n1 x (n0 x hx hne) hne) hne) hne) hne) hne
  refine v_aload_n (pc' := 54) dX5_init_53 rfl rfl ?_
  refine g_X5_13 (pc' := 57) rfl dX5_init_54 hH5.1 rfl ?_
  refine v_cSV (pc' := 60) (c5_clear hl z1) dX5_init_57 lk_X5_29 mwX5_clear msX5_clear rfl rfl (by decide) (Nat.le_of_ble_eq_true rfl) rfl ?_
  rintro _ rfl
  exact v_vret dX5_init_60 rfl (by decide) (by decide) ⟨rfl, rfl, ⟨hH5.1, z0, z1, z2, z3, z4, z5⟩, z_row_at _ _ _, by simp (disch := omega) only [z_row_ne, z_ne_ne]; exact hI, fun j => by
    rw [z_row_ne _ _ _ (by omega), show d + 6 = d + 1 + 1 + 1 + 1 + 1 + 1 by omega, z_ne_at], ks, fun q hq => by simp (disch := omega) only [z_row_ne, z_ne_ne]⟩
end INIT4
