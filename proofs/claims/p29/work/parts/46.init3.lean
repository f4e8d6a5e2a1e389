/-! CONSTRUCTORS: the class itself (written by wip/whole/gen_init3.py) -/
def sSk1 (c : Nat) : (Nat → Int32) → va_E := fun _ => .inr (4, [.ref (c + 1), .null, .null, .null, .null, .null])
def sSk2 (c : Nat) : (Nat → Int32) → va_E := fun _ => .inr (4, [.ref (c + 1), .ref (c + 3), .null, .null, .null, .null])
def sSk3 (c : Nat) : (Nat → Int32) → va_E := fun _ => .inr (4, [.ref (c + 1), .ref (c + 3), .ref (c + 13), .null, .null, .null])
def sSk4 (c : Nat) : (Nat → Int32) → va_E := fun _ => .inr (4, [.ref (c + 1), .ref (c + 3), .ref (c + 13), .ref (c + 23), .null, .null])
def sSk5 (c : Nat) : (Nat → Int32) → va_E := fun _ => .inr (4, [.ref (c + 1), .ref (c + 3), .ref (c + 13), .ref (c + 23), .ref (c + 165), .null])
theorem dfX3 : ∀ j, j < 7 → defaultValue (tyX3 j) = vp_V [.null, .int 0, .int 0, .int 0, .int 0, .int 0, .int 0] j := fun j hj => by
  rcases (by omega : j = 0 ∨ j = 1 ∨ j = 2 ∨ j = 3 ∨ j = 4 ∨ j = 5 ∨ j = 6) with rfl | rfl | rfl | rfl | rfl | rfl | rfl <;> rfl
theorem dfX0 : ∀ j, j < 3 → defaultValue (tyX0 j) = vp_V [.null, .int 0, .int 0] j := fun j hj => by
  rcases (by omega : j = 0 ∨ j = 1 ∨ j = 2) with rfl | rfl | rfl <;> rfl
theorem ShT.keep {E : zE} {G G' : zG} {a c : Nat} (h : ShT E G a) (hk : ∀ x ∈ G, x.1 ≠ c → x ∈ G') (hc : c < a ∨ a + 2 ≤ c) : ShT E G' a := ⟨hk _ h.1 (by show a ≠ c; omega), hk _ h.2 (by show a + 1 ≠ c; omega)⟩
theorem ShH.keep {E : zE} {G G' : zG} {a c : Nat} (h : ShH E G a) (hk : ∀ x ∈ G, x.1 ≠ c → x ∈ G') (hc : c < a ∨ a + 142 ≤ c) : ShH E G' a := ⟨hk _ h.1 (by show a ≠ c; omega), hk _ h.2.1 (by show a + 1 ≠ c; omega), fun j hj => (h.2.2 j hj).keep hk (by omega)⟩
/-- what is built so far stays, when the cell c alone is told anew, or nothing is -/
theorem keep_all {G G' : zG} {b : Nat} {f : (Nat → Int32) → va_E} (h : KeepG ((b, f) :: G) G' b) (hlt : ∀ x ∈ G, x.1 < b) : ∀ x ∈ G, x ∈ G' := fun x hx => h x (List.mem_cons_of_mem _ hx) (by have := hlt x hx; omega)
section INIT3
variable {E : zE} {l : Launch} {G : zG} {I : zI} {sz a b c : Nat}
set_option maxRecDepth 20000 in
set_option maxHeartbeats 4000000 in
theorem c4_init (hl : l.stackTraces = false) (hx : (c, sSk0) ∈ G) : z_Ct E l mX4_init 4 186 1480 [.ref c] G I (c + 1) (fun v' G' I' sz' => v' = none ∧ sz' = c + 187 ∧ ShK E G' c ∧ I' (c + 1) 1 = 0 ∧ Abs I' (c + 3) p_new ∧ (I' (c + 23) 1 = 0 ∧ I' (c + 23) 2 = 0) ∧ (∀ j, I' (c + 166) j = 0) ∧ KeepG G G' c ∧ ∀ q, q < c → I' q = I q) := by
  refine z_Ct.of hl pn_X4 [some (.ref c), none] rfl (Nat.le_of_ble_eq_true rfl) ?_
  refine v_lt ?_
  intro hlt
  have loop : ∀ (f t : Nat) (G1 : zG) (I1 : zI) (g : Nat → Option Nat) (s1 : Nat), 2 = t + f → s1 = c + 167 + 10 * t → (c, sSk c) ∈ G1 → (c + 165, sN E 5 2 g) ∈ G1 → (∀ j, j < t → ShS E G1 (c + 167 + 10 * j)) → (∀ j, j < t → g j = some (c + 167 + 10 * j)) → ShT E G1 (c + 1) → ShS E G1 (c + 3) → ShS E G1 (c + 13) → ShH E G1 (c + 23) → (c + 166, sI E 1 2) ∈ G1 → KeepG G G1 c → I1 (c + 1) 1 = 0 → Abs I1 (c + 3) p_new → I1 (c + 23) 1 = 0 → I1 (c + 23) 2 = 0 → (∀ j, I1 (c + 166) j = 0) → (∀ q, q < c → I1 q = I q) → z_V E l mX4_init (z_rm 4 186 1480) 186 1480 (z_q (fun v' G' I' sz' => v' = none ∧ sz' = c + 187 ∧ ShK E G' c ∧ I' (c + 1) 1 = 0 ∧ Abs I' (c + 3) p_new ∧ (I' (c + 23) 1 = 0 ∧ I' (c + 23) 2 = 0) ∧ (∀ j, I' (c + 166) j = 0) ∧ KeepG G G' c ∧ ∀ q, q < c → I' q = I q)) (166 + 10 * t) (1332 + 74 * t) G1 I1 (s1) 65 [some (.ref c), some (.int (nI t))] [] := by
    intro f
    induction f with
    | zero =>
      intro t G1 I1 g s1 ht hs1 h0 h1 hT hg p0 p1 p2 p3 p5 hK i0 i1 i2 i3 i4 hFr
      subst hs1
      refine v_iload_n (pc' := 66) dX4_init_65 rfl rfl ?_
      refine v_iconst (pc' := 67) dX4_init_66 kc_2 rfl ?_
      refine v_icmp_ge (tgt := 89) (pc' := 70) dX4_init_67 (by decide) rfl (fun c_67 => ?_) (fun c_67 => ?_)
      · have ht6 : t = 2 := by omega
        subst ht6
        refine v_sNR (a := c + 165) (t := 5) (N1 := 2) (b := c + 167) (w := 10) h1 (fun j hj => hg j hj) ?_
        intro G2 hG2
        exact v_vret dX4_init_89 rfl (by decide) (by decide) ⟨rfl, rfl, ⟨hG2.2 _ h0 (by show c ≠ c + 165; omega), p0.keep hG2.2 (by omega), p1.keep hG2.2 (by omega), p2.keep hG2.2 (by omega), p3.keep hG2.2 (by omega), hG2.1, hG2.2 _ p5 (by show c + 166 ≠ c + 165; omega), fun j hj => (hT j hj).keep hG2.2 (by omega)⟩, i0, i1, ⟨i2, i3⟩, i4, fun x hx hne => hG2.2 x (hK x hx hne) (by have := hlt x hx; omega), hFr⟩
      · exact absurd (nI_le (a := 2) (by omega) (by omega)) c_67
    | succ f ih =>
      intro t G1 I1 g s1 ht hs1 h0 h1 hT hg p0 p1 p2 p3 p5 hK i0 i1 i2 i3 i4 hFr
      subst hs1
      refine v_iload_n (pc' := 66) dX4_init_65 rfl rfl ?_
      refine v_iconst (pc' := 67) dX4_init_66 kc_2 rfl ?_
      refine v_icmp_ge (tgt := 89) (pc' := 70) dX4_init_67 (by decide) rfl (fun c_67 => ?_) (fun c_67 => ?_)
      · exact absurd c_67 (nI_ge (b := 2) (by omega) (by omega))
      · refine v_aload_n (pc' := 71) dX4_init_70 rfl rfl ?_
        refine g_X4_33 (pc' := 74) rfl dX4_init_71 h0 rfl ?_
        refine v_iload_n (pc' := 75) dX4_init_74 rfl rfl ?_
        refine v_lt ?_
        intro hlt1
        refine v_new (ci := 1) (N := 11) (pc' := 78) dX4_init_75 sSt0 cl_X4_16 ins_X1 ini_X1 in_X1 tyX1 tyX1_ok rfl rfl dfX1 (by omega) rfl ?_
        refine v_dup (pc' := 79) dX4_init_78 rfl rfl ?_
        refine v_callI (pc' := 82) (c1_init hl List.mem_cons_self) dX4_init_79 lk_X4_18 mwX1_init miX1_init rfl rfl rfl (by decide) (by omega) (Nat.le_of_ble_eq_true rfl) rfl ?_
        rintro _ G2 I2 _ ⟨rfl, rfl, hS2, -, hK2, hF2⟩
        have hm2 := keep_all hK2 hlt1
        refine v_aasM (a := c + 165) (t := 5) (j := t) (N1 := 2) (ci := 1) (fv := sSt (c + 167 + 10 * t)) (pc' := 83) (hm2 _ h1) dX4_init_82 rfl rfl (by omega) (by decide) hS2.1 rfl rfl rfl ?_
        intro G3 hG3
        have hm : ∀ x ∈ G1, x.1 ≠ c + 165 → x ∈ G3 := fun x hx hne => hG3.2 x (hm2 x hx) hne
        have hI : ∀ q, q < c + 167 + 10 * t → I2 q = I1 q := fun q hq => by rw [hF2 q hq, z_ne_ne _ _ (by omega)]
        refine v_iinc1 (pc' := 86) dX4_init_83 (by decide) rfl kc_1 (nI_1 t) rfl ?_
        refine v_goto (tgt := 65) dX4_init_86 (by decide) ?_
        refine v_widen (k1 := 166 + 10 * (t + 1)) (n1 := 1332 + 74 * (t + 1)) (by omega) (by omega) ?_
        refine ih (t + 1) G3 I2 (va_up g t (some (c + 167 + 10 * t))) _ (by omega) (by omega) (hm _ h0 (by show c ≠ c + 165; omega)) hG3.1 (fun j hj => ?_) (fun j hj => ?_) (p0.keep hm (by omega)) (p1.keep hm (by omega)) (p2.keep hm (by omega)) (p3.keep hm (by omega)) (hm _ p5 (by show c + 166 ≠ c + 165; omega)) (fun x hx hne => hm x (hK x hx hne) (by have := hlt x hx; omega)) (by rw [hI _ (by omega)]; exact i0) (i1.agree (by decide) (fun q q1 q2 => hI q (by omega))) (by rw [hI _ (by omega)]; exact i2) (by rw [hI _ (by omega)]; exact i3) (fun j => by rw [hI _ (by omega)]; exact i4 j) (fun q hq => by rw [hI _ (by omega)]; exact hFr q hq)
        · by_cases e : j = t
          · subst e; exact hS2.keep hG3.2 (by omega)
          · exact (hT j (by omega)).keep hm (by omega)
        · by_cases e : j = t
          · subst e; simp [va_up]
          · simp only [va_up, e, if_false]; exact hg j (by omega)
  refine v_aload_n (pc' := 1) dX4_init_0 rfl rfl ?_
  refine v_objInit (pc' := 4) dX4_init_1 lk_X4_1 oi_i oi_c (by decide) (Nat.le_of_ble_eq_true rfl) rfl ?_
  refine v_aload_n (pc' := 5) dX4_init_4 rfl rfl ?_
  refine v_lt ?_
  intro lt0
  refine v_new (ci := 3) (N := 7) (pc' := 8) dX4_init_5 sTx0 cl_X4_7 ins_X3 ini_X3 in_X3 tyX3 tyX3_ok rfl rfl dfX3 (by decide) rfl ?_
  refine v_dup (pc' := 9) dX4_init_8 rfl rfl ?_
  refine v_callIN (pc' := 12) (c3_init hl List.mem_cons_self) dX4_init_9 lk_X4_9 mwX3_init miX3_init rfl rfl rfl (by decide) (by decide) (Nat.le_of_ble_eq_true rfl) rfl ?_
  rintro _ G0 I0 _ ⟨rfl, rfl, hT0, hz0, hK0, hF0⟩
  have a0 := keep_all hK0 lt0
  refine v_putM (ci := 4) (kf := 0) (f := sSk0) (f' := sSk1 c) (pc' := 15) (a0 _ hx) dX4_init_12 rfl rfl in_X4 tyX4 tyX4_ok nmX4 (by decide) fl_X4_10 rfl rfl rfl (tyX4_ok 0 (by decide)) rfl rfl (by simp) rfl rfl ?_
  intro H0 hH0
  refine v_aload_n (pc' := 16) dX4_init_15 rfl rfl ?_
  refine v_lt ?_
  intro lt1
  refine v_new (ci := 1) (N := 11) (pc' := 19) dX4_init_16 sSt0 cl_X4_16 ins_X1 ini_X1 in_X1 tyX1 tyX1_ok rfl rfl dfX1 (by decide) rfl ?_
  refine v_dup (pc' := 20) dX4_init_19 rfl rfl ?_
  refine v_callI (pc' := 23) (c1_init hl List.mem_cons_self) dX4_init_20 lk_X4_18 mwX1_init miX1_init rfl rfl rfl (by decide) (by decide) (Nat.le_of_ble_eq_true rfl) rfl ?_
  rintro _ G1 I1 _ ⟨rfl, rfl, hT1, hz1, hK1, hF1⟩
  have a1 := keep_all hK1 lt1
  refine v_putM (ci := 4) (kf := 1) (f := sSk1 c) (f' := sSk2 c) (pc' := 26) (a1 _ hH0.1) dX4_init_23 rfl rfl in_X4 tyX4 tyX4_ok nmX4 (by decide) fl_X4_19 rfl rfl rfl (tyX4_ok 1 (by decide)) rfl rfl (by simp) rfl rfl ?_
  intro H1 hH1
  refine v_aload_n (pc' := 27) dX4_init_26 rfl rfl ?_
  refine v_lt ?_
  intro lt2
  refine v_new (ci := 1) (N := 11) (pc' := 30) dX4_init_27 sSt0 cl_X4_16 ins_X1 ini_X1 in_X1 tyX1 tyX1_ok rfl rfl dfX1 (by decide) rfl ?_
  refine v_dup (pc' := 31) dX4_init_30 rfl rfl ?_
  refine v_callI (pc' := 34) (c1_init hl List.mem_cons_self) dX4_init_31 lk_X4_18 mwX1_init miX1_init rfl rfl rfl (by decide) (by decide) (Nat.le_of_ble_eq_true rfl) rfl ?_
  rintro _ G2 I2 _ ⟨rfl, rfl, hT2, hz2, hK2, hF2⟩
  have a2 := keep_all hK2 lt2
  refine v_putM (ci := 4) (kf := 2) (f := sSk2 c) (f' := sSk3 c) (pc' := 37) (a2 _ hH1.1) dX4_init_34 rfl rfl in_X4 tyX4 tyX4_ok nmX4 (by decide) fl_X4_23 rfl rfl rfl (tyX4_ok 2 (by decide)) rfl rfl (by simp) rfl rfl ?_
  intro H2 hH2
  refine v_aload_n (pc' := 38) dX4_init_37 rfl rfl ?_
  refine v_lt ?_
  intro lt3
  refine v_new (ci := 0) (N := 3) (pc' := 41) dX4_init_38 sHi0 cl_X4_26 ins_X0 ini_X0 in_X0 tyX0 tyX0_ok rfl rfl dfX0 (by decide) rfl ?_
  refine v_dup (pc' := 42) dX4_init_41 rfl rfl ?_
  refine v_callI (pc' := 45) (c0_init hl List.mem_cons_self) dX4_init_42 lk_X4_28 mwX0_init miX0_init rfl rfl rfl (by decide) (by decide) (Nat.le_of_ble_eq_true rfl) rfl ?_
  rintro _ G3 I3 _ ⟨rfl, rfl, hT3, hz3, hK3, hF3⟩
  have a3 := keep_all hK3 lt3
  refine v_putM (ci := 4) (kf := 3) (f := sSk3 c) (f' := sSk4 c) (pc' := 48) (a3 _ hH2.1) dX4_init_45 rfl rfl in_X4 tyX4 tyX4_ok nmX4 (by decide) fl_X4_29 rfl rfl rfl (tyX4_ok 3 (by decide)) rfl rfl (by simp) rfl rfl ?_
  intro H3 hH3
  refine v_aload_n (pc' := 49) dX4_init_48 rfl rfl ?_
  refine v_iconst (pc' := 50) dX4_init_49 kc_2 rfl ?_
  refine v_lt ?_
  intro lt4
  refine v_newq (t := 5) (N1 := 2) (pc' := 53) dX4_init_50 cl_X4_16 (Or.inr rfl) rfl (by decide) (by decide) (by decide) (by decide) rfl ?_
  refine v_putM (ci := 4) (kf := 4) (f := sSk4 c) (f' := sSk5 c) (pc' := 56) (List.mem_cons_of_mem _ hH3.1) dX4_init_53 rfl rfl in_X4 tyX4 tyX4_ok nmX4 (by decide) fl_X4_33 rfl rfl rfl (tyX4_ok 4 (by decide)) rfl rfl (by simp) rfl rfl ?_
  intro H4 hH4
  refine v_aload_n (pc' := 57) dX4_init_56 rfl rfl ?_
  refine v_iconst (pc' := 58) dX4_init_57 kc_2 rfl ?_
  refine v_lt ?_
  intro lt5
  refine v_newa (t := 1) (N1 := 2) (pc' := 60) dX4_init_58 (sI E 1 2) (2, .inl fun _ => 0) rfl rfl ac_boolean rfl (fun C h => by cases h) (fun cA => by rw [vp_cell_i]; rfl) (by decide) (by decide) (by decide) (by decide) rfl ?_
  refine v_putM (ci := 4) (kf := 5) (f := sSk5 c) (f' := sSk c) (pc' := 63) (List.mem_cons_of_mem _ hH4.1) dX4_init_60 rfl rfl in_X4 tyX4 tyX4_ok nmX4 (by decide) fl_X4_37 rfl rfl rfl (tyX4_ok 5 (by decide)) rfl rfl (by simp) rfl rfl ?_
  intro H5 hH5
  refine v_iconst (pc' := 64) dX4_init_63 kc_0 rfl ?_
  refine v_istore_n1 (pc' := 65) dX4_init_64 (by decide) rfl rfl ?_
  have n0 : ∀ x ∈ G0, x.1 ≠ c → x ∈ H0 := hH0.2
  have n1 : ∀ x ∈ H0, x.1 ≠ c → x ∈ H1 := fun x hx hne => hH1.2 x (a1 x hx) hne
  have n2 : ∀ x ∈ H1, x.1 ≠ c → x ∈ H2 := fun x hx hne => hH2.2 x (a2 x hx) hne
  have n3 : ∀ x ∈ H2, x.1 ≠ c → x ∈ H3 := fun x hx hne => hH3.2 x (a3 x hx) hne
  have n4 : ∀ x ∈ H3, x.1 ≠ c → x ∈ H4 := fun x hx hne => hH4.2 x (List.mem_cons_of_mem _ hx) hne
  have n5 : ∀ x ∈ H4, x.1 ≠ c → x ∈ H5 := fun x hx hne => hH5.2 x (List.mem_cons_of_mem _ hx) hne
  have s0 : ShT E H5 (c + 1) := (((((hT0.keep n0 (by omega)).keep n1 (by omega)).keep n2 (by omega)).keep n3 (by omega)).keep n4 (by omega)).keep n5 (by omega)
  have s1 : ShS E H5 (c + 3) := ((((ShS.keep hT1 hH1.2 (by omega)).keep n2 (by omega)).keep n3 (by omega)).keep n4 (by omega)).keep n5 (by omega)
  have s2 : ShS E H5 (c + 13) := (((ShS.keep hT2 hH2.2 (by omega)).keep n3 (by omega)).keep n4 (by omega)).keep n5 (by omega)
  have s3 : ShH E H5 (c + 23) := ((ShH.keep hT3 hH3.2 (by omega)).keep n4 (by omega)).keep n5 (by omega)
  have s4 : (c + 165, sN E 5 2 (fun _ => none)) ∈ H5 := n5 _ (hH4.2 _ List.mem_cons_self (by show c + 165 ≠ c; omega)) (by show c + 165 ≠ c; omega)
  have s5 : (c + 166, sI E 1 2) ∈ H5 := hH5.2 _ List.mem_cons_self (by show c + 166 ≠ c; omega)
  have ks : KeepG G H5 c := fun x hx hne => n5 x (n4 x (n3 x (n2 x (n1 x (n0 x (a0 x hx) hne) hne) hne) hne) hne) hne
  refine loop 2 0 H5 _ (fun _ => none) _ rfl rfl hH5.1 s4 (fun j hj => absurd hj (by omega)) (fun j hj => absurd hj (by omega)) s0 s1 s2 s3 s5 ks ?_ ?_ ?_ ?_ ?_ ?_
  · simp (disch := omega) only [z_ne_ne, hF1, hF2, hF3]; exact hz0
  · refine hz1.agree (by decide) (fun q q1 q2 => ?_)
    simp (disch := omega) only [z_ne_ne, hF2, hF3]
  · simp (disch := omega) only [z_ne_ne]; exact hz3.1
  · simp (disch := omega) only [z_ne_ne]; exact hz3.2
  · intro j; rw [show c + 166 = c + 1 + 2 + 10 + 10 + 142 + 1 by omega, z_ne_at]
  · intro q hq; simp (disch := omega) only [z_ne_ne, hF0, hF1, hF2, hF3]
end INIT3
