/-! CONSTRUCTORS: a task, a state (written by wip/whole/gen_init.py) -/
def KeepG (G G' : zG) (a : Nat) : Prop := ∀ x ∈ G, x.1 ≠ a → x ∈ G'
def sSt1 (a : Nat) : (Nat → Int32) → va_E := fun i => .inr (1, [.ref (a + 1), .null, .null, .int (i 3), .int (i 4), .int (i 5), .int (i 6), .int (i 7), .int (i 8), .int (i 9), .int (i 10)])
def sSt2 (a : Nat) : (Nat → Int32) → va_E := fun i => .inr (1, [.ref (a + 1), .ref (a + 2), .null, .int (i 3), .int (i 4), .int (i 5), .int (i 6), .int (i 7), .int (i 8), .int (i 9), .int (i 10)])
theorem dfX2 : ∀ j, j < 7 → defaultValue (tyX2 j) = vp_V [.int 0, .int 0, .int 0, .int 0, .int 0, .int 0, .int 0] j := fun j hj => by
  rcases (by omega : j = 0 ∨ j = 1 ∨ j = 2 ∨ j = 3 ∨ j = 4 ∨ j = 5 ∨ j = 6) with rfl | rfl | rfl | rfl | rfl | rfl | rfl <;> rfl
section INIT
variable {E : zE} {l : Launch} {G : zG} {I : zI} {sz a b : Nat}
set_option maxRecDepth 20000 in
set_option maxHeartbeats 4000000 in
theorem c2_init (hl : l.stackTraces = false) : z_CV E l mX2_init 1 [.ref b] G I sz (fun I' => I' = I) := by
  refine z_Ct.of hl pn_X2 [some (.ref b)] rfl (Nat.le_of_ble_eq_true rfl) ?_
  refine v_aload_n (pc' := 1) dX2_init_0 rfl rfl ?_
  refine v_objInit (pc' := 4) dX2_init_1 lk_X2_3 oi_i oi_c (by decide) (Nat.le_of_ble_eq_true rfl) rfl ?_
  exact v_vret dX2_init_4 rfl (Nat.le_refl _) (Nat.le_refl _) ⟨rfl, rfl, rfl, rfl⟩
set_option maxRecDepth 20000 in
set_option maxHeartbeats 4000000 in
theorem c1_init (hl : l.stackTraces = false) (hx : (a, sSt0) ∈ G) : z_Ct E l mX1_init 2 9 63 [.ref a] G I (a + 1) (fun v' G' I' sz' => v' = none ∧ sz' = a + 10 ∧ ShS E G' a ∧ Abs I' a p_new ∧ KeepG G G' a ∧ ∀ q, q < a → I' q = I q) := by
  refine z_Ct.of hl pn_X1 [some (.ref a), none] rfl (Nat.le_of_ble_eq_true rfl) ?_
  refine v_lt ?_
  intro hlt
  have loop : ∀ (f t : Nat) (G1 : zG) (I1 : zI) (g : Nat → Option Nat), 6 = t + f → (a, sSt a) ∈ G1 → (a + 1, sN E 4 6 g) ∈ G1 → (a + 2, sI E 1 12) ∈ G1 → (a + 3, sI E 0 3) ∈ G1 → (∀ j, j < t → (a + 4 + 1 * j, sTk) ∈ G1) → (∀ j, j < t → g j = some (a + 4 + j)) → KeepG G G1 a → (∀ q, q < a → I1 q = I q) → z_V E l mX1_init (z_rm 2 9 63) 9 63 (z_q (fun v' G' I' sz' => v' = none ∧ sz' = a + 10 ∧ ShS E G' a ∧ Abs I' a p_new ∧ KeepG G G' a ∧ ∀ q, q < a → I' q = I q)) (3 + t) (21 + 7 * t) G1 I1 (a + 4 + t) 30 [some (.ref a), some (.int (nI t))] [] := by
    intro f
    induction f with
    | zero =>
      intro t G1 I1 g ht h0 h1 h2 h3 hT hg hK hFr
      refine v_iload_n (pc' := 31) dX1_init_30 rfl rfl ?_
      refine v_bipush (pc' := 33) dX1_init_31 kb_6 rfl ?_
      refine v_icmp_ge (tgt := 55) (pc' := 36) dX1_init_33 (by decide) rfl (fun c_33 => ?_) (fun c_33 => ?_)
      · have ht6 : t = 6 := by omega
        subst ht6
        refine v_sNR (a := a + 1) (t := 4) (N1 := 6) (b := a + 4) (w := 1) h1 (fun j hj => by rw [hg j hj, Nat.one_mul]) ?_
        intro G2 hG2
        have hS2 : ShS E G2 a := ⟨hG2.2 _ h0 (by show a ≠ a + 1; omega), hG2.1, hG2.2 _ h2 (by show a + 2 ≠ a + 1; omega), hG2.2 _ h3 (by show a + 3 ≠ a + 1; omega), fun t ht => hG2.2 _ (hT t ht) (by show a + 4 + 1 * t ≠ a + 1; omega)⟩
        refine v_aload_n (pc' := 56) dX1_init_55 rfl rfl ?_
        refine v_cVV (pc' := 59) (c1_reset hl hS2) dX1_init_56 lk_X1_26 mwX1_reset miX1_reset hS2.1 rfl rfl rfl rfl (by decide) (Nat.le_of_ble_eq_true rfl) rfl ?_
        rintro I2 ⟨hA2, hF2⟩
        exact v_vret dX1_init_59 rfl (by decide) (by decide) ⟨rfl, rfl, hS2, hA2, fun x hx hne => hG2.2 x (hK x hx hne) (by have := hlt x hx; omega), fun q hq => by rw [hF2 q (by omega)]; exact hFr q hq⟩
      · exact absurd (nI_le (a := 6) (by omega) (by omega)) c_33
    | succ f ih =>
      intro t G1 I1 g ht h0 h1 h2 h3 hT hg hK hFr
      refine v_iload_n (pc' := 31) dX1_init_30 rfl rfl ?_
      refine v_bipush (pc' := 33) dX1_init_31 kb_6 rfl ?_
      refine v_icmp_ge (tgt := 55) (pc' := 36) dX1_init_33 (by decide) rfl (fun c_33 => ?_) (fun c_33 => ?_)
      · exact absurd c_33 (nI_ge (b := 6) (by omega) (by omega))
      · refine v_aload_n (pc' := 37) dX1_init_36 rfl rfl ?_
        refine g_X1_11 (pc' := 40) rfl dX1_init_37 h0 rfl ?_
        refine v_iload_n (pc' := 41) dX1_init_40 rfl rfl ?_
        refine v_new (ci := 2) (N := 7) (pc' := 44) dX1_init_41 sTk cl_X1_9 ins_X2 ini_X2 in_X2 tyX2 tyX2_ok rfl rfl dfX2 (by omega) rfl ?_
        refine v_dup (pc' := 45) dX1_init_44 rfl rfl ?_
        refine v_callIN (pc' := 48) (c2_init hl) dX1_init_45 lk_X1_25 mwX2_init miX2_init rfl rfl rfl (by decide) (by omega) (Nat.le_of_ble_eq_true rfl) rfl ?_
        rintro _ _ _ _ ⟨rfl, rfl, rfl, rfl⟩
        refine v_aasM (a := a + 1) (t := 4) (j := t) (N1 := 6) (ci := 2) (fv := sTk) (pc' := 49) (List.mem_cons_of_mem _ h1) dX1_init_48 rfl rfl (by omega) (by decide) List.mem_cons_self rfl rfl rfl ?_
        intro G2 hG2
        have hm : ∀ x ∈ G1, x.1 ≠ a + 1 → x ∈ G2 := fun x hx hne => hG2.2 x (List.mem_cons_of_mem _ hx) hne
        refine v_iinc1 (pc' := 52) dX1_init_49 (by decide) rfl kc_1 (nI_1 t) rfl ?_
        refine v_goto (tgt := 30) dX1_init_52 (by decide) ?_
        refine v_widen (k1 := 3 + (t + 1)) (n1 := 21 + 7 * (t + 1)) (by omega) (by omega) ?_
        rw [show a + 4 + t + 1 = a + 4 + (t + 1) by omega]
        refine ih (t + 1) G2 _ (va_up g t (some (a + 4 + t))) (by omega) (hm _ h0 (by show a ≠ a + 1; omega)) hG2.1 (hm _ h2 (by show a + 2 ≠ a + 1; omega)) (hm _ h3 (by show a + 3 ≠ a + 1; omega)) (fun j hj => ?_) (fun j hj => ?_) (fun x hx hne => hm x (hK x hx hne) (by have := hlt x hx; omega)) (fun q hq => ?_)
        · by_cases e : j = t
          · subst e; exact hG2.2 _ (by rw [show a + 4 + 1 * j = a + 4 + j by omega]; exact List.mem_cons_self) (by show a + 4 + 1 * j ≠ a + 1; omega)
          · exact hm _ (hT j (by omega)) (by show a + 4 + 1 * j ≠ a + 1; omega)
        · by_cases e : j = t
          · subst e; simp [va_up]
          · simp only [va_up, e, if_false]; exact hg j (by omega)
        · rw [z_ne_ne _ _ (by omega)]; exact hFr q hq
  refine v_aload_n (pc' := 1) dX1_init_0 rfl rfl ?_
  refine v_objInit (pc' := 4) dX1_init_1 lk_X1_3 oi_i oi_c (by decide) (Nat.le_of_ble_eq_true rfl) rfl ?_
  refine v_aload_n (pc' := 5) dX1_init_4 rfl rfl ?_
  refine v_bipush (pc' := 7) dX1_init_5 kb_6 rfl ?_
  refine v_newq (t := 4) (N1 := 6) (pc' := 10) dX1_init_7 cl_X1_9 (Or.inl rfl) rfl (by decide) (by decide) (by decide) (by decide) rfl ?_
  refine v_putM (ci := 1) (kf := 0) (f := sSt0) (f' := sSt1 a) (pc' := 13) (List.mem_cons_of_mem _ hx) dX1_init_10 rfl rfl in_X1 tyX1 tyX1_ok nmX1 (by decide) fl_X1_11 rfl rfl rfl (tyX1_ok 0 (by decide)) rfl rfl (by simp) rfl rfl ?_
  intro G1 hG1
  refine v_aload_n (pc' := 14) dX1_init_13 rfl rfl ?_
  refine v_bipush (pc' := 16) dX1_init_14 kb_12 rfl ?_
  refine v_newa (t := 1) (N1 := 12) (pc' := 18) dX1_init_16 (sI E 1 12) (12, .inl fun _ => 0) rfl rfl ac_boolean rfl (fun C h => by cases h) (fun cA => by rw [vp_cell_i]; rfl) (by decide) (by decide) (by decide) (by decide) rfl ?_
  refine v_putM (ci := 1) (kf := 1) (f := sSt1 a) (f' := sSt2 a) (pc' := 21) (List.mem_cons_of_mem _ hG1.1) dX1_init_18 rfl rfl in_X1 tyX1 tyX1_ok nmX1 (by decide) fl_X1_17 rfl rfl rfl (tyX1_ok 1 (by decide)) rfl rfl (by simp) rfl rfl ?_
  intro G2 hG2
  refine v_aload_n (pc' := 22) dX1_init_21 rfl rfl ?_
  refine v_iconst (pc' := 23) dX1_init_22 kc_3 rfl ?_
  refine v_newa (t := 0) (N1 := 3) (pc' := 25) dX1_init_23 (sI E 0 3) (3, .inl fun _ => 0) rfl rfl ac_int rfl (fun C h => by cases h) (fun cA => by rw [vp_cell_i]; rfl) (by decide) (by decide) (by decide) (by decide) rfl ?_
  refine v_putM (ci := 1) (kf := 2) (f := sSt2 a) (f' := sSt a) (pc' := 28) (List.mem_cons_of_mem _ hG2.1) dX1_init_25 rfl rfl in_X1 tyX1 tyX1_ok nmX1 (by decide) fl_X1_21 rfl rfl rfl (tyX1_ok 2 (by decide)) rfl rfl (by simp) rfl rfl ?_
  intro G3 hG3
  have q1 : (a + 1, sN E 4 6 (fun _ => none)) ∈ G3 := hG3.2 _ (List.mem_cons_of_mem _ (hG2.2 _ (List.mem_cons_of_mem _ (hG1.2 _ List.mem_cons_self (by show a + 1 ≠ a; omega))) (by show a + 1 ≠ a; omega))) (by show a + 1 ≠ a; omega)
  have q2 : (a + 2, sI E 1 12) ∈ G3 := hG3.2 _ (List.mem_cons_of_mem _ (hG2.2 _ List.mem_cons_self (by show a + 2 ≠ a; omega))) (by show a + 2 ≠ a; omega)
  have q3 : (a + 3, sI E 0 3) ∈ G3 := hG3.2 _ List.mem_cons_self (by show a + 3 ≠ a; omega)
  refine v_iconst (pc' := 29) dX1_init_28 kc_0 rfl ?_
  refine v_istore_n1 (pc' := 30) dX1_init_29 (by decide) rfl rfl ?_
  exact loop 6 0 G3 _ (fun _ => none) (by omega) hG3.1 q1 q2 q3 (fun j hj => absurd hj (by omega)) (fun j hj => absurd hj (by omega)) (fun x hx hne => hG3.2 x (List.mem_cons_of_mem _ (hG2.2 x (List.mem_cons_of_mem _ (hG1.2 x (List.mem_cons_of_mem _ hx) hne)) hne)) hne) (fun q hq => by rw [z_ne_ne _ _ (by omega), z_ne_ne _ _ (by omega), z_ne_ne _ _ (by omega)])
end INIT
