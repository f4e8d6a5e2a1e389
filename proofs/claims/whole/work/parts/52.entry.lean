/-! THE LAW's entry (written by wip/whole/gen_entry.py) -/
theorem dfX4 : ∀ j, j < 6 → defaultValue (tyX4 j) = vp_V [.null, .null, .null, .null, .null, .null] j := fun j hj => by
  rcases (by omega : j = 0 ∨ j = 1 ∨ j = 2 ∨ j = 3 ∨ j = 4 ∨ j = 5) with rfl | rfl | rfl | rfl | rfl | rfl <;> rfl
theorem dfX5 : ∀ j, j < 11 → defaultValue (tyX5 j) = vp_V [.int 0, .null, .int 0, .null, .null, .null, .int 0, .null, .null, .int 0, .int 0] j := fun j hj => by
  rcases (by omega : j = 0 ∨ j = 1 ∨ j = 2 ∨ j = 3 ∨ j = 4 ∨ j = 5 ∨ j = 6 ∨ j = 7 ∨ j = 8 ∨ j = 9 ∨ j = 10) with rfl | rfl | rfl | rfl | rfl | rfl | rfl | rfl | rfl | rfl | rfl <;> rfl
theorem law_entry {nm : String} {hh : List (Nat × Nat × Nat × Nat)} {E : zE} {l : Launch} {I : zI} {c : Nat} (hl : l.stackTraces = false) (hN : E.2.2.2.2.2.1 ≤ 2048) : z_V E l (mL_law nm hh) (z_rm 10 20000 200000) 20000 200000 Q_law 0 0 [] I c 0 [some (.ref E.2.2.2.2.1), none, none, none, none, none, none] [] := by
  refine v_new (ci := 4) (N := 6) (pc' := 3) dL_law_0 sSk0 cl_L_8 ins_X4 ini_X4 in_X4 tyX4 tyX4_ok rfl rfl dfX4 (by decide) rfl ?_
  refine v_dup (pc' := 4) dL_law_3 rfl rfl ?_
  refine v_callI (pc' := 7) (c4_init hl List.mem_cons_self) dL_law_4 lk_L_90 mwX4_init miX4_init rfl rfl rfl (by decide) (by decide) (Nat.le_of_ble_eq_true rfl) rfl ?_
  rintro _ G1 I1 _ ⟨rfl, rfl, hK1, k1, k2, ⟨k3, k4⟩, k5, -, -⟩
  refine v_astore_n1 (pc' := 8) dL_law_7 (by decide) rfl rfl ?_
  refine v_lt ?_
  intro lt1
  refine v_new (ci := 5) (N := 11) (pc' := 11) dL_law_8 sMd0 cl_L_91 ins_X5 ini_X5 in_X5 tyX5 tyX5_ok rfl rfl dfX5 (by decide) rfl ?_
  refine v_dup (pc' := 12) dL_law_11 rfl rfl ?_
  refine v_callI (pc' := 15) (c5_init hl List.mem_cons_self (z_ne_at _ _)) dL_law_12 lk_L_93 mwX5_init miX5_init rfl rfl rfl (by decide) (by decide) (Nat.le_of_ble_eq_true rfl) rfl ?_
  rintro _ G2 I2 _ ⟨rfl, rfl, hD2, d1, d2, d3, hk2, hF2⟩
  have a2 := keep_all hk2 lt1
  refine v_astore_n2 (pc' := 16) dL_law_15 (by decide) rfl rfl ?_
  refine v_iconst (pc' := 17) dL_law_16 kc_1 rfl ?_
  refine v_newa (t := 3) (N1 := 1) (pc' := 19) dL_law_17 (sJ E 1) (1, .inr (.inl fun _ => 0)) rfl rfl ac_long rfl (fun C h => by cases h) (fun cA => rfl) (by decide) (by decide) (by decide) (by decide) rfl ?_
  refine v_astore_n3 (pc' := 20) dL_law_19 (by decide) rfl rfl ?_
  refine v_iconst (pc' := 21) dL_law_20 kc_0 rfl ?_
  refine v_istore4 (pc' := 23) dL_law_21 (by decide) rfl rfl ?_
  have hK : ShK E ((c + 187 + 7, sJ E 1) :: G2) c := by
    obtain ⟨q0, ⟨q1, q2⟩, q3, q4, q5, q6, q7, q8⟩ := hK1
    have b2 : ∀ x ∈ G1, x ∈ ((c + 187 + 7, sJ E 1) :: G2) := fun x hx => List.mem_cons_of_mem _ (a2 x hx)
    have b3 : ∀ x ∈ G1, x.1 ≠ c + 187 + 100 → x ∈ ((c + 187 + 7, sJ E 1) :: G2) := fun x hx _ => b2 x hx
    exact ⟨b2 _ q0, ⟨b2 _ q1, b2 _ q2⟩, q3.keep b3 (by omega), q4.keep b3 (by omega), q5.keep b3 (by omega), b2 _ q6, b2 _ q7, fun j hj => (q8 j hj).keep b3 (by omega)⟩
  have hD : ShM E ((c + 187 + 7, sJ E 1) :: G2) (c + 187) := by
    obtain ⟨q0, q1, q2, q3, q4, q5, q6⟩ := hD2
    exact ⟨List.mem_cons_of_mem _ q0, List.mem_cons_of_mem _ q1, List.mem_cons_of_mem _ q2, List.mem_cons_of_mem _ q3, List.mem_cons_of_mem _ q4, List.mem_cons_of_mem _ q5, List.mem_cons_of_mem _ q6⟩
  have hA1 : AbsK I1 c S_new := AbsK.start k1 k2 k3 k4 k5
  have hA2 : AbsK (z_ne I2 (c + 187 + 7)) c S_new := hA1.out (fun q q1 q2 => by rw [z_ne_ne _ _ (by omega), hF2 q (by omega), z_ne_ne _ _ (by omega)])
  have hM2 : AbsM (z_ne I2 (c + 187 + 7)) (c + 187) S_new := AbsM.start (by rw [z_ne_ne _ _ (by omega)]; exact d2) (by rw [z_ne_ne _ _ (by omega)]; exact d1) (fun j => by rw [z_ne_ne _ _ (by omega)]; exact d3 j)
  exact law_loop (o := c + 187 + 7) hl hK hD rfl (by omega) List.mem_cons_self (by omega) (E.2.2.2.2.2.1 / 4 + 1) 0 _ _ S_new _ _ none none rfl rfl hA2 hM2 (by omega) (by omega) (by omega) (by omega)
