/-! CONSTRUCTORS: the text, the history (written by wip/whole/gen_init2.py) -/
theorem dfX1 : ∀ j, j < 11 → defaultValue (tyX1 j) = vp_V [.null, .null, .null, .int 0, .int 0, .int 0, .int 0, .int 0, .int 0, .int 0, .int 0] j := fun j hj => by
  rcases (by omega : j = 0 ∨ j = 1 ∨ j = 2 ∨ j = 3 ∨ j = 4 ∨ j = 5 ∨ j = 6 ∨ j = 7 ∨ j = 8 ∨ j = 9 ∨ j = 10) with rfl | rfl | rfl | rfl | rfl | rfl | rfl | rfl | rfl | rfl | rfl <;> rfl
theorem ShS.keep {E : zE} {G G' : zG} {a c : Nat} (h : ShS E G a) (hk : ∀ x ∈ G, x.1 ≠ c → x ∈ G') (hc : c < a ∨ a + 10 ≤ c) : ShS E G' a := by
  obtain ⟨h0, h1, h2, h3, h4⟩ := h
  exact ⟨hk _ h0 (by show a ≠ c; omega), hk _ h1 (by show a + 1 ≠ c; omega), hk _ h2 (by show a + 2 ≠ c; omega), hk _ h3 (by show a + 3 ≠ c; omega), fun t ht => hk _ (h4 t ht) (by show a + 4 + 1 * t ≠ c; omega)⟩
section INIT2
variable {E : zE} {l : Launch} {G : zG} {I : zI} {sz a b : Nat}
set_option maxRecDepth 20000 in
set_option maxHeartbeats 4000000 in
theorem c3_init (hl : l.stackTraces = false) (hx : (a, sTx0) ∈ G) : z_Ct E l mX3_init 1 1 120 [.ref a] G I (a + 1) (fun v' G' I' sz' => v' = none ∧ sz' = a + 2 ∧ ShT E G' a ∧ I' a 1 = 0 ∧ KeepG G G' a ∧ ∀ q, q < a → I' q = I q) := by
  refine z_Ct.of hl pn_X3 [some (.ref a)] rfl (Nat.le_of_ble_eq_true rfl) ?_
  refine v_aload_n (pc' := 1) dX3_init_0 rfl rfl ?_
  refine v_objInit (pc' := 4) dX3_init_1 lk_X3_3 oi_i oi_c (by decide) (Nat.le_of_ble_eq_true rfl) rfl ?_
  refine v_aload_n (pc' := 5) dX3_init_4 rfl rfl ?_
  refine v_bipush (pc' := 7) dX3_init_5 kb_120 rfl ?_
  refine v_newa (t := 2) (N1 := 120) (pc' := 9) dX3_init_7 (sI E 2 120) (120, .inl fun _ => 0) rfl rfl ac_char rfl (fun C h => by cases h) (fun cA => by rw [vp_cell_i]; rfl) (by decide) (by decide) (by decide) (by decide) rfl ?_
  refine v_putM (ci := 3) (kf := 0) (f := sTx0) (f' := sTx a) (pc' := 12) (List.mem_cons_of_mem _ hx) dX3_init_9 rfl rfl in_X3 tyX3 tyX3_ok nmX3 (by decide) fl_X3_9 rfl rfl rfl (tyX3_ok 0 (by decide)) rfl rfl (by simp) rfl rfl ?_
  intro G1 hG1
  have h0 := hG1.1
  refine v_aload_n (pc' := 13) dX3_init_12 rfl rfl ?_
  refine v_iconst (pc' := 14) dX3_init_13 kc_0 rfl ?_
  refine p_X3_15 (pc' := 17) rfl dX3_init_14 h0 rfl ?_
  refine v_aload_n (pc' := 18) dX3_init_17 rfl rfl ?_
  refine v_iconst (pc' := 19) dX3_init_18 kc_0 rfl ?_
  refine p_X3_19 (pc' := 22) rfl dX3_init_19 h0 rfl ?_
  refine v_aload_n (pc' := 23) dX3_init_22 rfl rfl ?_
  refine v_iconst (pc' := 24) dX3_init_23 kc_0 rfl ?_
  refine p_X3_22 (pc' := 27) rfl rfl rfl dX3_init_24 h0 rfl ?_
  refine v_aload_n (pc' := 28) dX3_init_27 rfl rfl ?_
  refine v_iconst (pc' := 29) dX3_init_28 kc_m1 rfl ?_
  refine p_X3_26 (pc' := 32) rfl dX3_init_29 h0 rfl ?_
  refine v_aload_n (pc' := 33) dX3_init_32 rfl rfl ?_
  refine v_iconst (pc' := 34) dX3_init_33 kc_m1 rfl ?_
  refine p_X3_29 (pc' := 37) rfl dX3_init_34 h0 rfl ?_
  refine v_aload_n (pc' := 38) dX3_init_37 rfl rfl ?_
  refine v_iconst (pc' := 39) dX3_init_38 kc_m1 rfl ?_
  refine p_X3_32 (pc' := 42) rfl dX3_init_39 h0 rfl ?_
  exact v_vret dX3_init_42 rfl (by decide) (by decide) ⟨rfl, rfl, ⟨h0, hG1.2 _ List.mem_cons_self (by show a + 1 ≠ a; omega)⟩, by simp (disch := omega) only [z_up_row, z_row_row, z_row_at, pk_us, pk_un], fun x hx hne => hG1.2 x (List.mem_cons_of_mem _ hx) hne, fun q hq => by simp (disch := omega) only [z_up_row, z_row_row, z_row_at, z_row_ne]; exact z_ne_ne _ _ (by omega)⟩
set_option maxRecDepth 20000 in
set_option maxHeartbeats 4000000 in
theorem c0_init (hl : l.stackTraces = false) (hx : (a, sHi0) ∈ G) : z_Ct E l mX0_init 3 141 1050 [.ref a] G I (a + 1) (fun v' G' I' sz' => v' = none ∧ sz' = a + 142 ∧ ShH E G' a ∧ (I' a 1 = 0 ∧ I' a 2 = 0) ∧ KeepG G G' a ∧ ∀ q, q < a → I' q = I q) := by
  refine z_Ct.of hl pn_X0 [some (.ref a), none] rfl (Nat.le_of_ble_eq_true rfl) ?_
  refine v_lt ?_
  intro hlt
  have loop : ∀ (f t : Nat) (G1 : zG) (I1 : zI) (g : Nat → Option Nat), 14 = t + f → (a, sHi a) ∈ G1 → (a + 1, sN E 5 14 g) ∈ G1 → (∀ j, j < t → ShS E G1 (a + 2 + 10 * j)) → (∀ j, j < t → g j = some (a + 2 + 10 * j)) → KeepG G G1 a → I1 a 1 = 0 → I1 a 2 = 0 → (∀ q, q < a → I1 q = I q) → z_V E l mX0_init (z_rm 3 141 1050) 141 1050 (z_q (fun v' G' I' sz' => v' = none ∧ sz' = a + 142 ∧ ShH E G' a ∧ (I' a 1 = 0 ∧ I' a 2 = 0) ∧ KeepG G G' a ∧ ∀ q, q < a → I' q = I q)) (1 + 10 * t) (14 + 74 * t) G1 I1 (a + 2 + 10 * t) 25 [some (.ref a), some (.int (nI t))] [] := by
    intro f
    induction f with
    | zero =>
      intro t G1 I1 g ht h0 h1 hT hg hK hi1 hi2 hFr
      refine v_iload_n (pc' := 26) dX0_init_25 rfl rfl ?_
      refine v_bipush (pc' := 28) dX0_init_26 kb_14 rfl ?_
      refine v_icmp_ge (tgt := 50) (pc' := 31) dX0_init_28 (by decide) rfl (fun c_28 => ?_) (fun c_28 => ?_)
      · have ht6 : t = 14 := by omega
        subst ht6
        refine v_sNR (a := a + 1) (t := 5) (N1 := 14) (b := a + 2) (w := 10) h1 (fun j hj => hg j hj) ?_
        intro G2 hG2
        exact v_vret dX0_init_50 rfl (by decide) (by decide) ⟨rfl, rfl, ⟨hG2.2 _ h0 (by show a ≠ a + 1; omega), hG2.1, fun j hj => (hT j hj).keep hG2.2 (by omega)⟩, ⟨hi1, hi2⟩, fun x hx hne => hG2.2 x (hK x hx hne) (by have := hlt x hx; omega), hFr⟩
      · exact absurd (nI_le (a := 14) (by omega) (by omega)) c_28
    | succ f ih =>
      intro t G1 I1 g ht h0 h1 hT hg hK hi1 hi2 hFr
      refine v_iload_n (pc' := 26) dX0_init_25 rfl rfl ?_
      refine v_bipush (pc' := 28) dX0_init_26 kb_14 rfl ?_
      refine v_icmp_ge (tgt := 50) (pc' := 31) dX0_init_28 (by decide) rfl (fun c_28 => ?_) (fun c_28 => ?_)
      · exact absurd c_28 (nI_ge (b := 14) (by omega) (by omega))
      · refine v_aload_n (pc' := 32) dX0_init_31 rfl rfl ?_
        refine g_X0_11 (pc' := 35) rfl dX0_init_32 h0 rfl ?_
        refine v_iload_n (pc' := 36) dX0_init_35 rfl rfl ?_
        refine v_lt ?_
        intro hlt1
        refine v_new (ci := 1) (N := 11) (pc' := 39) dX0_init_36 sSt0 cl_X0_9 ins_X1 ini_X1 in_X1 tyX1 tyX1_ok rfl rfl dfX1 (by omega) rfl ?_
        refine v_dup (pc' := 40) dX0_init_39 rfl rfl ?_
        refine v_callI (pc' := 43) (c1_init hl List.mem_cons_self) dX0_init_40 lk_X0_24 mwX1_init miX1_init rfl rfl rfl (by decide) (by omega) (Nat.le_of_ble_eq_true rfl) rfl ?_
        rintro _ G2 I2 _ ⟨rfl, rfl, hS2, -, hK2, hF2⟩
        have hm2 : ∀ x ∈ G1, x ∈ G2 := fun x hx => hK2 x (List.mem_cons_of_mem _ hx) (by have := hlt1 x hx; omega)
        refine v_aasM (a := a + 1) (t := 5) (j := t) (N1 := 14) (ci := 1) (fv := sSt (a + 2 + 10 * t)) (pc' := 44) (hm2 _ h1) dX0_init_43 rfl rfl (by omega) (by decide) hS2.1 rfl rfl rfl ?_
        intro G3 hG3
        have hm : ∀ x ∈ G1, x.1 ≠ a + 1 → x ∈ G3 := fun x hx hne => hG3.2 x (hm2 x hx) hne
        refine v_iinc1 (pc' := 47) dX0_init_44 (by decide) rfl kc_1 (nI_1 t) rfl ?_
        refine v_goto (tgt := 25) dX0_init_47 (by decide) ?_
        refine v_widen (k1 := 1 + 10 * (t + 1)) (n1 := 14 + 74 * (t + 1)) (by omega) (by omega) ?_
        rw [show a + 2 + 10 * t + 10 = a + 2 + 10 * (t + 1) by omega]
        refine ih (t + 1) G3 I2 (va_up g t (some (a + 2 + 10 * t))) (by omega) (hm _ h0 (by show a ≠ a + 1; omega)) hG3.1 (fun j hj => ?_) (fun j hj => ?_) (fun x hx hne => hm x (hK x hx hne) (by have := hlt x hx; omega)) (by rw [hF2 a (by omega), z_ne_ne _ _ (by omega)]; exact hi1) (by rw [hF2 a (by omega), z_ne_ne _ _ (by omega)]; exact hi2) (fun q hq => ?_)
        · by_cases e : j = t
          · subst e; exact hS2.keep hG3.2 (by omega)
          · exact (hT j (by omega)).keep hm (by omega)
        · by_cases e : j = t
          · subst e; simp [va_up]
          · simp only [va_up, e, if_false]; exact hg j (by omega)
        · rw [hF2 q (by omega), z_ne_ne _ _ (by omega)]; exact hFr q hq
  refine v_aload_n (pc' := 1) dX0_init_0 rfl rfl ?_
  refine v_objInit (pc' := 4) dX0_init_1 lk_X0_3 oi_i oi_c (by decide) (Nat.le_of_ble_eq_true rfl) rfl ?_
  refine v_aload_n (pc' := 5) dX0_init_4 rfl rfl ?_
  refine v_bipush (pc' := 7) dX0_init_5 kb_14 rfl ?_
  refine v_newq (t := 5) (N1 := 14) (pc' := 10) dX0_init_7 cl_X0_9 (Or.inr rfl) rfl (by decide) (by decide) (by decide) (by decide) rfl ?_
  refine v_putM (ci := 0) (kf := 0) (f := sHi0) (f' := sHi a) (pc' := 13) (List.mem_cons_of_mem _ hx) dX0_init_10 rfl rfl in_X0 tyX0 tyX0_ok nmX0 (by decide) fl_X0_11 rfl rfl rfl (tyX0_ok 0 (by decide)) rfl rfl (by simp) rfl rfl ?_
  intro G1 hG1
  refine v_aload_n (pc' := 14) dX0_init_13 rfl rfl ?_
  refine v_iconst (pc' := 15) dX0_init_14 kc_0 rfl ?_
  refine p_X0_17 (pc' := 18) rfl dX0_init_15 hG1.1 rfl ?_
  refine v_aload_n (pc' := 19) dX0_init_18 rfl rfl ?_
  refine v_iconst (pc' := 20) dX0_init_19 kc_0 rfl ?_
  refine p_X0_21 (pc' := 23) rfl dX0_init_20 hG1.1 rfl ?_
  refine v_iconst (pc' := 24) dX0_init_23 kc_0 rfl ?_
  refine v_istore_n1 (pc' := 25) dX0_init_24 (by decide) rfl rfl ?_
  exact loop 14 0 G1 _ (fun _ => none) (by omega) hG1.1 (hG1.2 _ List.mem_cons_self (by show a + 1 ≠ a; omega)) (fun j hj => absurd hj (by omega)) (fun j hj => absurd hj (by omega)) (fun x hx hne => hG1.2 x (List.mem_cons_of_mem _ hx) hne) (by simp (disch := omega) only [z_up_row, z_row_row, z_row_at, pk_us, pk_un]) (by simp (disch := omega) only [z_up_row, z_row_row, z_row_at, pk_us, pk_un]) (fun q hq => by simp (disch := omega) only [z_up_row, z_row_row, z_row_at, z_row_ne]; exact z_ne_ne _ _ (by omega))
end INIT2
