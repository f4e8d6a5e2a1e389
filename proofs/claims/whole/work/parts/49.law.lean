/-! THE LAW's wrappers -/
def FrW (I I' : zI) (c o : Nat) : Prop := ∀ q, (q < c ∨ c + 187 ≤ q) → q ≠ o → I' q = I q
def z_wP (c o k : Nat) (v : Int32) (S S' : zS) (G : zG) (I : zI) (sz : Nat) (v' : Option Value) (G' : zG) (I' : zI) (sz' : Nat) : Prop := v' = some (.int (nI k)) ∧ G' = G ∧ sz ≤ sz' ∧ (k = 0 → I' o 0 = v) ∧ AbsK I' c (if k = 0 then S' else S) ∧ FrW I I' c o
theorem ex1 {a X : String} {k : Nat} (h : ex [a] k = some X) : k = 1 ∧ X = a := by
  match k, h with
  | 1, h => exact ⟨rfl, (Option.some.inj h).symm⟩
theorem ex2 {a b X : String} {k : Nat} (h : ex [a, b] k = some X) : (k = 1 ∧ X = a) ∨ (k = 2 ∧ X = b) := by
  match k, h with
  | 1, h => exact Or.inl ⟨rfl, (Option.some.inj h).symm⟩
  | 2, h => exact Or.inr ⟨rfl, (Option.some.inj h).symm⟩
theorem ex0_1 {a : String} {k : Nat} (h : ex [a] k = none) (hk : k ≤ 1) : k = 0 := by
  match k, h, hk with
  | 0, _, _ => rfl
  | 1, h, _ => cases h
theorem ex0_2 {a b : String} {k : Nat} (h : ex [a, b] k = none) (hk : k ≤ 2) : k = 0 := by
  match k, h, hk with
  | 0, _, _ => rfl
  | 1, h, _ => cases h
  | 2, h, _ => cases h
theorem AbsK.out {I I' : zI} {c : Nat} {S : zS} (h : AbsK I c S) (e : ∀ q, c ≤ q → q < c + 187 → I' q = I q) : AbsK I' c S := by
  obtain ⟨h1, h2, h3, h4, h5, h6⟩ := h
  exact ⟨h1.agree (fun q a b => e q (by omega) (by omega)), h2.agree h3.1.1 (fun q a b => e q (by omega) (by omega)), h3, h4.agree (fun q a b => e q (by omega) (by omega)), fun j hj => by rw [e _ (by omega) (by omega)]; exact h5 j hj, fun j hj hf => ⟨(h6 j hj hf).1.agree (h6 j hj hf).2.1.1 (fun q a b => e q (by omega) (by omega)), (h6 j hj hf).2⟩⟩

section LAW
variable {E : zE} {l : Launch} {G : zG} {I : zI} {sz c o : Nat} {S : zS}
set_option maxRecDepth 20000 in
set_option maxHeartbeats 4000000 in
theorem w_append (hl : l.stackTraces = false) (hK : ShK E G c) (hA : AbsK I c S) (ho : (o, sJ E 1) ∈ G) (hco : c + 187 ≤ o) (x : Int32) : z_Cw E l mL_append 9 1 6 [.ref c, .int x, .ref o] G I sz (z_wP c o (e_append S x) (nI (S.2.2.1.2 + 1)) S (s_append S x) G I sz) := by
  refine z_Cw.of hl pn_L [some (.ref c), some (.int x), some (.ref o), none] rfl (Nat.le_of_ble_eq_true rfl) ?_
  refine v_aload_n (pc' := 1) dL_append_0 rfl rfl ?_
  refine v_iconst (pc' := 2) dL_append_1 kc_0 rfl ?_
  refine v_aload_n (pc' := 3) dL_append_2 rfl rfl ?_
  refine v_iload_n (pc' := 4) dL_append_3 rfl rfl ?_
  refine v_callVX (pc' := 7) (k_append hl hK hA x) dL_append_4 lk_L_7 mwX4_append miX4_append hK.1 rfl rfl rfl rfl (by decide) (by decide) (Nat.le_of_ble_eq_true rfl) rfl ?_ ?_
  · rintro v' G' I' sz' ⟨rfl, hs, he, y, rfl, rfl, hA', hF'⟩
    have hk : e_append S x = 0 := ex0_2 he (by unfold e_append; split <;> (try split) <;> omega)
    refine v_i2l (pc' := 8) dL_append_7 rfl ?_
    refine v_last (pc' := 9) dL_append_8 0 rfl ho (by decide) (by decide) rfl ?_
    refine v_goto (tgt := 18) dL_append_9 (by decide) ?_
    refine v_iconst (pc' := 19) dL_append_18 kc_0 rfl ?_
    exact v_iret dL_append_19 rfl (by decide) (by decide) ⟨by rw [hk]; rfl, rfl, hs, fun _ => by rw [z_up_row, z_row_at, pk_us], by rw [hk, if_pos rfl]; exact hA'.out (fun q a b => z_up_ne _ _ _ _ (by omega)), fun q hq hne => by rw [z_up_ne _ _ _ _ hne]; exact hF' q hq⟩
  · rintro X G' I' sz' ⟨rfl, hs, he, hA', hF'⟩
    rcases ex2 he with ⟨hk, rfl⟩ | ⟨hk, rfl⟩
    · refine v_catch [] ⟨0, 9, 12, 13⟩ [⟨0, 9, 15, 15⟩] rfl (fun z hz => by cases hz) rfl (by decide) cl_L_13 cst_IAE (fun q => ?_)
      refine v_astore_n3 (pc' := 13) dL_append_12 (by decide) rfl rfl ?_
      refine v_iconst (pc' := 14) dL_append_13 kc_1 rfl ?_
      exact v_iret dL_append_14 rfl (by decide) (by decide) ⟨by rw [hk]; rfl, rfl, hs, fun h => (by rw [hk] at h; cases h), by rw [hk, if_neg (by decide)]; exact hA', fun q hq _ => hF' q hq⟩
    · refine v_catch [⟨0, 9, 12, 13⟩] ⟨0, 9, 15, 15⟩ [] rfl (fun z hz => by
        rcases List.mem_singleton.mp hz with rfl
        exact Or.inr ⟨by decide, nIAE, cl_L_13, by decide⟩) rfl (by decide) cl_L_15 cst_ISE (fun q => ?_)
      refine v_astore_n3 (pc' := 16) dL_append_15 (by decide) rfl rfl ?_
      refine v_iconst (pc' := 17) dL_append_16 kc_2 rfl ?_
      exact v_iret dL_append_17 rfl (by decide) (by decide) ⟨by rw [hk]; rfl, rfl, hs, fun h => (by rw [hk] at h; cases h), by rw [hk, if_neg (by decide)]; exact hA', fun q hq _ => hF' q hq⟩
set_option maxRecDepth 20000 in
set_option maxHeartbeats 4000000 in
theorem w_load (hl : l.stackTraces = false) (hK : ShK E G c) (hA : AbsK I c S) (ho : (o, sJ E 1) ∈ G) (hco : c + 187 ≤ o) : z_Cw E l mL_load 9 1 6 [.ref c, .ref o] G I sz (z_wP c o (e_load S) (v_load S) S (s_load S) G I sz) := by
  refine z_Cw.of hl pn_L [some (.ref c), some (.ref o), none] rfl (Nat.le_of_ble_eq_true rfl) ?_
  refine v_aload_n (pc' := 1) dL_load_0 rfl rfl ?_
  refine v_iconst (pc' := 2) dL_load_1 kc_0 rfl ?_
  refine v_aload_n (pc' := 3) dL_load_2 rfl rfl ?_
  refine v_callVX (pc' := 6) (k_load hl hK hA) dL_load_3 lk_L_17 mwX4_load miX4_load hK.1 rfl rfl rfl rfl (by decide) (by decide) (Nat.le_of_ble_eq_true rfl) rfl ?_ ?_
  · rintro v' G' I' sz' ⟨rfl, hs, he, y, rfl, rfl, hA', hF'⟩
    have hk : e_load S = 0 := ex0_1 he (by unfold e_load; split <;> (try split) <;> omega)
    refine v_i2l (pc' := 7) dL_load_6 rfl ?_
    refine v_last (pc' := 8) dL_load_7 0 rfl ho (by decide) (by decide) rfl ?_
    refine v_goto (tgt := 14) dL_load_8 (by decide) ?_
    refine v_iconst (pc' := 15) dL_load_14 kc_0 rfl ?_
    exact v_iret dL_load_15 rfl (by decide) (by decide) ⟨by rw [hk]; rfl, rfl, hs, fun _ => by rw [z_up_row, z_row_at, pk_us], by rw [hk, if_pos rfl]; exact hA'.out (fun q a b => z_up_ne _ _ _ _ (by omega)), fun q hq hne => by rw [z_up_ne _ _ _ _ hne]; exact hF' q hq⟩
  · rintro X G' I' sz' ⟨rfl, hs, he, hA', hF'⟩
    obtain ⟨hk, rfl⟩ := ex1 he
    · refine v_catch [] ⟨0, 8, 11, 15⟩ [] rfl (fun z hz => by cases hz) rfl (by decide) cl_L_15 cst_ISE (fun q => ?_)
      refine v_astore_n2 (pc' := 12) dL_load_11 (by decide) rfl rfl ?_
      refine v_iconst (pc' := 13) dL_load_12 kc_1 rfl ?_
      exact v_iret dL_load_13 rfl (by decide) (by decide) ⟨by rw [hk]; rfl, rfl, hs, fun h => (by rw [hk] at h; cases h), by rw [hk, if_neg (by decide)]; exact hA', fun q hq _ => hF' q hq⟩
set_option maxRecDepth 20000 in
set_option maxHeartbeats 4000000 in
theorem w_about (hl : l.stackTraces = false) (hK : ShK E G c) (hA : AbsK I c S) (ho : (o, sJ E 1) ∈ G) (hco : c + 187 ≤ o) (x : Int32) : z_Cw E l mL_about 9 1 6 [.ref c, .int x, .ref o] G I sz (z_wP c o (e_about x) (v_about S.1 x.toNatClampNeg) S (S) G I sz) := by
  refine z_Cw.of hl pn_L [some (.ref c), some (.int x), some (.ref o), none] rfl (Nat.le_of_ble_eq_true rfl) ?_
  refine v_aload_n (pc' := 1) dL_about_0 rfl rfl ?_
  refine v_iconst (pc' := 2) dL_about_1 kc_0 rfl ?_
  refine v_aload_n (pc' := 3) dL_about_2 rfl rfl ?_
  refine v_iload_n (pc' := 4) dL_about_3 rfl rfl ?_
  refine v_callVX (pc' := 7) (k_about hl hK hA x) dL_about_4 lk_L_21 mwX4_about miX4_about hK.1 rfl rfl rfl rfl (by decide) (by decide) (Nat.le_of_ble_eq_true rfl) rfl ?_ ?_
  · rintro v' G' I' sz' ⟨rfl, hs, he, y, rfl, rfl, hA', hF'⟩
    have hk : e_about x = 0 := ex0_1 he (by unfold e_about; split <;> (try split) <;> omega)
    refine v_i2l (pc' := 8) dL_about_7 rfl ?_
    refine v_last (pc' := 9) dL_about_8 0 rfl ho (by decide) (by decide) rfl ?_
    refine v_goto (tgt := 15) dL_about_9 (by decide) ?_
    refine v_iconst (pc' := 16) dL_about_15 kc_0 rfl ?_
    exact v_iret dL_about_16 rfl (by decide) (by decide) ⟨by rw [hk]; rfl, rfl, hs, fun _ => by rw [z_up_row, z_row_at, pk_us], by rw [hk, if_pos rfl]; exact hA'.out (fun q a b => z_up_ne _ _ _ _ (by omega)), fun q hq hne => by rw [z_up_ne _ _ _ _ hne]; exact hF' q hq⟩
  · rintro X G' I' sz' ⟨rfl, hs, he, hA', hF'⟩
    obtain ⟨hk, rfl⟩ := ex1 he
    · refine v_catch [] ⟨0, 9, 12, 13⟩ [] rfl (fun z hz => by cases hz) rfl (by decide) cl_L_13 cst_IAE (fun q => ?_)
      refine v_astore_n3 (pc' := 13) dL_about_12 (by decide) rfl rfl ?_
      refine v_iconst (pc' := 14) dL_about_13 kc_1 rfl ?_
      exact v_iret dL_about_14 rfl (by decide) (by decide) ⟨by rw [hk]; rfl, rfl, hs, fun h => (by rw [hk] at h; cases h), by rw [hk, if_neg (by decide)]; exact hA', fun q hq _ => hF' q hq⟩
set_option maxRecDepth 20000 in
set_option maxHeartbeats 4000000 in
theorem w_task (hl : l.stackTraces = false) (hK : ShK E G c) (hA : AbsK I c S) (ho : (o, sJ E 1) ∈ G) (hco : c + 187 ≤ o) (t : Int32) (x : Int32) : z_Cw E l mL_task 9 1 6 [.ref c, .int t, .int x, .ref o] G I sz (z_wP c o (e_task S.1 t x) (v_task S.1 t x) S (S) G I sz) := by
  refine z_Cw.of hl pn_L [some (.ref c), some (.int t), some (.int x), some (.ref o), none] rfl (Nat.le_of_ble_eq_true rfl) ?_
  refine v_aload_n (pc' := 1) dL_task_0 rfl rfl ?_
  refine v_iconst (pc' := 2) dL_task_1 kc_0 rfl ?_
  refine v_aload_n (pc' := 3) dL_task_2 rfl rfl ?_
  refine v_iload_n (pc' := 4) dL_task_3 rfl rfl ?_
  refine v_iload_n (pc' := 5) dL_task_4 rfl rfl ?_
  refine v_callVX (pc' := 8) (k_task hl hK hA t x) dL_task_5 lk_L_24 mwX4_task miX4_task hK.1 rfl rfl rfl rfl (by decide) (by decide) (Nat.le_of_ble_eq_true rfl) rfl ?_ ?_
  · rintro v' G' I' sz' ⟨rfl, hs, he, y, rfl, rfl, hA', hF'⟩
    have hk : e_task S.1 t x = 0 := ex0_2 he (by unfold e_task; split <;> (try split) <;> omega)
    refine v_i2l (pc' := 9) dL_task_8 rfl ?_
    refine v_last (pc' := 10) dL_task_9 0 rfl ho (by decide) (by decide) rfl ?_
    refine v_goto (tgt := 21) dL_task_10 (by decide) ?_
    refine v_iconst (pc' := 22) dL_task_21 kc_0 rfl ?_
    exact v_iret dL_task_22 rfl (by decide) (by decide) ⟨by rw [hk]; rfl, rfl, hs, fun _ => by rw [z_up_row, z_row_at, pk_us], by rw [hk, if_pos rfl]; exact hA'.out (fun q a b => z_up_ne _ _ _ _ (by omega)), fun q hq hne => by rw [z_up_ne _ _ _ _ hne]; exact hF' q hq⟩
  · rintro X G' I' sz' ⟨rfl, hs, he, hA', hF'⟩
    rcases ex2 he with ⟨hk, rfl⟩ | ⟨hk, rfl⟩
    · refine v_catch [] ⟨0, 10, 13, 28⟩ [⟨0, 10, 17, 13⟩] rfl (fun z hz => by cases hz) rfl (by decide) cl_L_28 cst_IOOBE (fun q => ?_)
      refine v_astore4 (pc' := 15) dL_task_13 (by decide) rfl rfl ?_
      refine v_iconst (pc' := 16) dL_task_15 kc_1 rfl ?_
      exact v_iret dL_task_16 rfl (by decide) (by decide) ⟨by rw [hk]; rfl, rfl, hs, fun h => (by rw [hk] at h; cases h), by rw [hk, if_neg (by decide)]; exact hA', fun q hq _ => hF' q hq⟩
    · refine v_catch [⟨0, 10, 13, 28⟩] ⟨0, 10, 17, 13⟩ [] rfl (fun z hz => by
        rcases List.mem_singleton.mp hz with rfl
        exact Or.inr ⟨by decide, nIOO, cl_L_28, by decide⟩) rfl (by decide) cl_L_13 cst_IAE (fun q => ?_)
      refine v_astore4 (pc' := 19) dL_task_17 (by decide) rfl rfl ?_
      refine v_iconst (pc' := 20) dL_task_19 kc_2 rfl ?_
      exact v_iret dL_task_20 rfl (by decide) (by decide) ⟨by rw [hk]; rfl, rfl, hs, fun h => (by rw [hk] at h; cases h), by rw [hk, if_neg (by decide)]; exact hA', fun q hq _ => hF' q hq⟩
set_option maxRecDepth 20000 in
set_option maxHeartbeats 4000000 in
theorem w_stripe (hl : l.stackTraces = false) (hK : ShK E G c) (hA : AbsK I c S) (ho : (o, sJ E 1) ∈ G) (hco : c + 187 ≤ o) (s : Int32) (x : Int32) : z_Cw E l mL_stripe 9 1 6 [.ref c, .int s, .int x, .ref o] G I sz (z_wP c o (e_stripe s x) (v_stripe S.1 s x) S (S) G I sz) := by
  refine z_Cw.of hl pn_L [some (.ref c), some (.int s), some (.int x), some (.ref o), none] rfl (Nat.le_of_ble_eq_true rfl) ?_
  refine v_aload_n (pc' := 1) dL_stripe_0 rfl rfl ?_
  refine v_iconst (pc' := 2) dL_stripe_1 kc_0 rfl ?_
  refine v_aload_n (pc' := 3) dL_stripe_2 rfl rfl ?_
  refine v_iload_n (pc' := 4) dL_stripe_3 rfl rfl ?_
  refine v_iload_n (pc' := 5) dL_stripe_4 rfl rfl ?_
  refine v_callVX (pc' := 8) (k_stripe hl hK hA s x) dL_stripe_5 lk_L_30 mwX4_stripe miX4_stripe hK.1 rfl rfl rfl rfl (by decide) (by decide) (Nat.le_of_ble_eq_true rfl) rfl ?_ ?_
  · rintro v' G' I' sz' ⟨rfl, hs, he, y, rfl, rfl, hA', hF'⟩
    have hk : e_stripe s x = 0 := ex0_2 he (by unfold e_stripe; split <;> (try split) <;> omega)
    refine v_i2l (pc' := 9) dL_stripe_8 rfl ?_
    refine v_last (pc' := 10) dL_stripe_9 0 rfl ho (by decide) (by decide) rfl ?_
    refine v_goto (tgt := 21) dL_stripe_10 (by decide) ?_
    refine v_iconst (pc' := 22) dL_stripe_21 kc_0 rfl ?_
    exact v_iret dL_stripe_22 rfl (by decide) (by decide) ⟨by rw [hk]; rfl, rfl, hs, fun _ => by rw [z_up_row, z_row_at, pk_us], by rw [hk, if_pos rfl]; exact hA'.out (fun q a b => z_up_ne _ _ _ _ (by omega)), fun q hq hne => by rw [z_up_ne _ _ _ _ hne]; exact hF' q hq⟩
  · rintro X G' I' sz' ⟨rfl, hs, he, hA', hF'⟩
    rcases ex2 he with ⟨hk, rfl⟩ | ⟨hk, rfl⟩
    · refine v_catch [] ⟨0, 10, 13, 28⟩ [⟨0, 10, 17, 13⟩] rfl (fun z hz => by cases hz) rfl (by decide) cl_L_28 cst_IOOBE (fun q => ?_)
      refine v_astore4 (pc' := 15) dL_stripe_13 (by decide) rfl rfl ?_
      refine v_iconst (pc' := 16) dL_stripe_15 kc_1 rfl ?_
      exact v_iret dL_stripe_16 rfl (by decide) (by decide) ⟨by rw [hk]; rfl, rfl, hs, fun h => (by rw [hk] at h; cases h), by rw [hk, if_neg (by decide)]; exact hA', fun q hq _ => hF' q hq⟩
    · refine v_catch [⟨0, 10, 13, 28⟩] ⟨0, 10, 17, 13⟩ [] rfl (fun z hz => by
        rcases List.mem_singleton.mp hz with rfl
        exact Or.inr ⟨by decide, nIOO, cl_L_28, by decide⟩) rfl (by decide) cl_L_13 cst_IAE (fun q => ?_)
      refine v_astore4 (pc' := 19) dL_stripe_17 (by decide) rfl rfl ?_
      refine v_iconst (pc' := 20) dL_stripe_19 kc_2 rfl ?_
      exact v_iret dL_stripe_20 rfl (by decide) (by decide) ⟨by rw [hk]; rfl, rfl, hs, fun h => (by rw [hk] at h; cases h), by rw [hk, if_neg (by decide)]; exact hA', fun q hq _ => hF' q hq⟩
set_option maxRecDepth 20000 in
set_option maxHeartbeats 4000000 in
theorem w_job (hl : l.stackTraces = false) (hK : ShK E G c) (hA : AbsK I c S) (ho : (o, sJ E 1) ∈ G) (hco : c + 187 ≤ o) (x : Int32) : z_Cw E l mL_job 9 1 6 [.ref c, .int x, .ref o] G I sz (z_wP c o (e_job x) (v_job S.1 x) S (S) G I sz) := by
  refine z_Cw.of hl pn_L [some (.ref c), some (.int x), some (.ref o), none] rfl (Nat.le_of_ble_eq_true rfl) ?_
  refine v_aload_n (pc' := 1) dL_job_0 rfl rfl ?_
  refine v_iconst (pc' := 2) dL_job_1 kc_0 rfl ?_
  refine v_aload_n (pc' := 3) dL_job_2 rfl rfl ?_
  refine v_iload_n (pc' := 4) dL_job_3 rfl rfl ?_
  refine v_callVX (pc' := 7) (k_job hl hK hA x) dL_job_4 lk_L_33 mwX4_job miX4_job hK.1 rfl rfl rfl rfl (by decide) (by decide) (Nat.le_of_ble_eq_true rfl) rfl ?_ ?_
  · rintro v' G' I' sz' ⟨rfl, hs, he, y, rfl, rfl, hA', hF'⟩
    have hk : e_job x = 0 := ex0_1 he (by unfold e_job; split <;> (try split) <;> omega)
    refine v_i2l (pc' := 8) dL_job_7 rfl ?_
    refine v_last (pc' := 9) dL_job_8 0 rfl ho (by decide) (by decide) rfl ?_
    refine v_goto (tgt := 15) dL_job_9 (by decide) ?_
    refine v_iconst (pc' := 16) dL_job_15 kc_0 rfl ?_
    exact v_iret dL_job_16 rfl (by decide) (by decide) ⟨by rw [hk]; rfl, rfl, hs, fun _ => by rw [z_up_row, z_row_at, pk_us], by rw [hk, if_pos rfl]; exact hA'.out (fun q a b => z_up_ne _ _ _ _ (by omega)), fun q hq hne => by rw [z_up_ne _ _ _ _ hne]; exact hF' q hq⟩
  · rintro X G' I' sz' ⟨rfl, hs, he, hA', hF'⟩
    obtain ⟨hk, rfl⟩ := ex1 he
    · refine v_catch [] ⟨0, 9, 12, 13⟩ [] rfl (fun z hz => by cases hz) rfl (by decide) cl_L_13 cst_IAE (fun q => ?_)
      refine v_astore_n3 (pc' := 13) dL_job_12 (by decide) rfl rfl ?_
      refine v_iconst (pc' := 14) dL_job_13 kc_1 rfl ?_
      exact v_iret dL_job_14 rfl (by decide) (by decide) ⟨by rw [hk]; rfl, rfl, hs, fun h => (by rw [hk] at h; cases h), by rw [hk, if_neg (by decide)]; exact hA', fun q hq _ => hF' q hq⟩
set_option maxRecDepth 20000 in
set_option maxHeartbeats 4000000 in
theorem w_setting (hl : l.stackTraces = false) (hK : ShK E G c) (hA : AbsK I c S) (ho : (o, sJ E 1) ∈ G) (hco : c + 187 ≤ o) (x : Int32) : z_Cw E l mL_setting 9 1 6 [.ref c, .int x, .ref o] G I sz (z_wP c o (e_job x) (v_setting S.1 x) S (S) G I sz) := by
  refine z_Cw.of hl pn_L [some (.ref c), some (.int x), some (.ref o), none] rfl (Nat.le_of_ble_eq_true rfl) ?_
  refine v_aload_n (pc' := 1) dL_setting_0 rfl rfl ?_
  refine v_iconst (pc' := 2) dL_setting_1 kc_0 rfl ?_
  refine v_aload_n (pc' := 3) dL_setting_2 rfl rfl ?_
  refine v_iload_n (pc' := 4) dL_setting_3 rfl rfl ?_
  refine v_callVX (pc' := 7) (k_setting hl hK hA x) dL_setting_4 lk_L_36 mwX4_setting miX4_setting hK.1 rfl rfl rfl rfl (by decide) (by decide) (Nat.le_of_ble_eq_true rfl) rfl ?_ ?_
  · rintro v' G' I' sz' ⟨rfl, hs, he, y, rfl, rfl, hA', hF'⟩
    have hk : e_job x = 0 := ex0_1 he (by unfold e_job; split <;> (try split) <;> omega)
    refine v_i2l (pc' := 8) dL_setting_7 rfl ?_
    refine v_last (pc' := 9) dL_setting_8 0 rfl ho (by decide) (by decide) rfl ?_
    refine v_goto (tgt := 15) dL_setting_9 (by decide) ?_
    refine v_iconst (pc' := 16) dL_setting_15 kc_0 rfl ?_
    exact v_iret dL_setting_16 rfl (by decide) (by decide) ⟨by rw [hk]; rfl, rfl, hs, fun _ => by rw [z_up_row, z_row_at, pk_us], by rw [hk, if_pos rfl]; exact hA'.out (fun q a b => z_up_ne _ _ _ _ (by omega)), fun q hq hne => by rw [z_up_ne _ _ _ _ hne]; exact hF' q hq⟩
  · rintro X G' I' sz' ⟨rfl, hs, he, hA', hF'⟩
    obtain ⟨hk, rfl⟩ := ex1 he
    · refine v_catch [] ⟨0, 9, 12, 13⟩ [] rfl (fun z hz => by cases hz) rfl (by decide) cl_L_13 cst_IAE (fun q => ?_)
      refine v_astore_n3 (pc' := 13) dL_setting_12 (by decide) rfl rfl ?_
      refine v_iconst (pc' := 14) dL_setting_13 kc_1 rfl ?_
      exact v_iret dL_setting_14 rfl (by decide) (by decide) ⟨by rw [hk]; rfl, rfl, hs, fun h => (by rw [hk] at h; cases h), by rw [hk, if_neg (by decide)]; exact hA', fun q hq _ => hF' q hq⟩
set_option maxRecDepth 20000 in
set_option maxHeartbeats 4000000 in
theorem w_add (hl : l.stackTraces = false) (hK : ShK E G c) (hA : AbsK I c S) (ho : (o, sJ E 1) ∈ G) (hco : c + 187 ≤ o) (w : Int32) (v : Int32) : z_Cw E l mL_add 9 1 6 [.ref c, .int w, .int v, .ref o] G I sz (z_wP c o (e_add S.1 w v) (nI (cnt S.1)) S (s_now S (t_add S.1 w v)) G I sz) := by
  refine z_Cw.of hl pn_L [some (.ref c), some (.int w), some (.int v), some (.ref o), none] rfl (Nat.le_of_ble_eq_true rfl) ?_
  refine v_aload_n (pc' := 1) dL_add_0 rfl rfl ?_
  refine v_iconst (pc' := 2) dL_add_1 kc_0 rfl ?_
  refine v_aload_n (pc' := 3) dL_add_2 rfl rfl ?_
  refine v_iload_n (pc' := 4) dL_add_3 rfl rfl ?_
  refine v_iload_n (pc' := 5) dL_add_4 rfl rfl ?_
  refine v_callVX (pc' := 8) (k_add hl hK hA w v) dL_add_5 lk_L_39 mwX4_add miX4_add hK.1 rfl rfl rfl rfl (by decide) (by decide) (Nat.le_of_ble_eq_true rfl) rfl ?_ ?_
  · rintro v' G' I' sz' ⟨rfl, hs, he, y, rfl, rfl, hA', hF'⟩
    have hk : e_add S.1 w v = 0 := ex0_2 he (by unfold e_add; split <;> (try split) <;> omega)
    refine v_i2l (pc' := 9) dL_add_8 rfl ?_
    refine v_last (pc' := 10) dL_add_9 0 rfl ho (by decide) (by decide) rfl ?_
    refine v_goto (tgt := 21) dL_add_10 (by decide) ?_
    refine v_iconst (pc' := 22) dL_add_21 kc_0 rfl ?_
    exact v_iret dL_add_22 rfl (by decide) (by decide) ⟨by rw [hk]; rfl, rfl, hs, fun _ => by rw [z_up_row, z_row_at, pk_us], by rw [hk, if_pos rfl]; exact hA'.out (fun q a b => z_up_ne _ _ _ _ (by omega)), fun q hq hne => by rw [z_up_ne _ _ _ _ hne]; exact hF' q hq⟩
  · rintro X G' I' sz' ⟨rfl, hs, he, hA', hF'⟩
    rcases ex2 he with ⟨hk, rfl⟩ | ⟨hk, rfl⟩
    · refine v_catch [] ⟨0, 10, 13, 13⟩ [⟨0, 10, 17, 15⟩] rfl (fun z hz => by cases hz) rfl (by decide) cl_L_13 cst_IAE (fun q => ?_)
      refine v_astore4 (pc' := 15) dL_add_13 (by decide) rfl rfl ?_
      refine v_iconst (pc' := 16) dL_add_15 kc_1 rfl ?_
      exact v_iret dL_add_16 rfl (by decide) (by decide) ⟨by rw [hk]; rfl, rfl, hs, fun h => (by rw [hk] at h; cases h), by rw [hk, if_neg (by decide)]; exact hA', fun q hq _ => hF' q hq⟩
    · refine v_catch [⟨0, 10, 13, 13⟩] ⟨0, 10, 17, 15⟩ [] rfl (fun z hz => by
        rcases List.mem_singleton.mp hz with rfl
        exact Or.inr ⟨by decide, nIAE, cl_L_13, by decide⟩) rfl (by decide) cl_L_15 cst_ISE (fun q => ?_)
      refine v_astore4 (pc' := 19) dL_add_17 (by decide) rfl rfl ?_
      refine v_iconst (pc' := 20) dL_add_19 kc_2 rfl ?_
      exact v_iret dL_add_20 rfl (by decide) (by decide) ⟨by rw [hk]; rfl, rfl, hs, fun h => (by rw [hk] at h; cases h), by rw [hk, if_neg (by decide)]; exact hA', fun q hq _ => hF' q hq⟩
set_option maxRecDepth 20000 in
set_option maxHeartbeats 4000000 in
theorem w_bring (hl : l.stackTraces = false) (hK : ShK E G c) (hA : AbsK I c S) (ho : (o, sJ E 1) ∈ G) (hco : c + 187 ≤ o) (t : Int32) (s : Int32) : z_Cw E l mL_bring 9 1 6 [.ref c, .int t, .int s, .ref o] G I sz (z_wP c o (e_bring S.1 t s) (t_jobv S.1 t s) S (s_now S (t_job S.1 t s)) G I sz) := by
  refine z_Cw.of hl pn_L [some (.ref c), some (.int t), some (.int s), some (.ref o), none] rfl (Nat.le_of_ble_eq_true rfl) ?_
  refine v_aload_n (pc' := 1) dL_bring_0 rfl rfl ?_
  refine v_iconst (pc' := 2) dL_bring_1 kc_0 rfl ?_
  refine v_aload_n (pc' := 3) dL_bring_2 rfl rfl ?_
  refine v_iload_n (pc' := 4) dL_bring_3 rfl rfl ?_
  refine v_iload_n (pc' := 5) dL_bring_4 rfl rfl ?_
  refine v_callVX (pc' := 8) (k_bring hl hK hA t s) dL_bring_5 lk_L_42 mwX4_bring miX4_bring hK.1 rfl rfl rfl rfl (by decide) (by decide) (Nat.le_of_ble_eq_true rfl) rfl ?_ ?_
  · rintro v' G' I' sz' ⟨rfl, hs, he, y, rfl, rfl, hA', hF'⟩
    have hk : e_bring S.1 t s = 0 := ex0_2 he (by unfold e_bring; split <;> (try split) <;> omega)
    refine v_i2l (pc' := 9) dL_bring_8 rfl ?_
    refine v_last (pc' := 10) dL_bring_9 0 rfl ho (by decide) (by decide) rfl ?_
    refine v_goto (tgt := 21) dL_bring_10 (by decide) ?_
    refine v_iconst (pc' := 22) dL_bring_21 kc_0 rfl ?_
    exact v_iret dL_bring_22 rfl (by decide) (by decide) ⟨by rw [hk]; rfl, rfl, hs, fun _ => by rw [z_up_row, z_row_at, pk_us], by rw [hk, if_pos rfl]; exact hA'.out (fun q a b => z_up_ne _ _ _ _ (by omega)), fun q hq hne => by rw [z_up_ne _ _ _ _ hne]; exact hF' q hq⟩
  · rintro X G' I' sz' ⟨rfl, hs, he, hA', hF'⟩
    rcases ex2 he with ⟨hk, rfl⟩ | ⟨hk, rfl⟩
    · refine v_catch [] ⟨0, 10, 13, 28⟩ [⟨0, 10, 17, 15⟩] rfl (fun z hz => by cases hz) rfl (by decide) cl_L_28 cst_IOOBE (fun q => ?_)
      refine v_astore4 (pc' := 15) dL_bring_13 (by decide) rfl rfl ?_
      refine v_iconst (pc' := 16) dL_bring_15 kc_1 rfl ?_
      exact v_iret dL_bring_16 rfl (by decide) (by decide) ⟨by rw [hk]; rfl, rfl, hs, fun h => (by rw [hk] at h; cases h), by rw [hk, if_neg (by decide)]; exact hA', fun q hq _ => hF' q hq⟩
    · refine v_catch [⟨0, 10, 13, 28⟩] ⟨0, 10, 17, 15⟩ [] rfl (fun z hz => by
        rcases List.mem_singleton.mp hz with rfl
        exact Or.inr ⟨by decide, nIOO, cl_L_28, by decide⟩) rfl (by decide) cl_L_15 cst_ISE (fun q => ?_)
      refine v_astore4 (pc' := 19) dL_bring_17 (by decide) rfl rfl ?_
      refine v_iconst (pc' := 20) dL_bring_19 kc_2 rfl ?_
      exact v_iret dL_bring_20 rfl (by decide) (by decide) ⟨by rw [hk]; rfl, rfl, hs, fun h => (by rw [hk] at h; cases h), by rw [hk, if_neg (by decide)]; exact hA', fun q hq _ => hF' q hq⟩
set_option maxRecDepth 20000 in
set_option maxHeartbeats 4000000 in
theorem w_stop (hl : l.stackTraces = false) (hK : ShK E G c) (hA : AbsK I c S) (ho : (o, sJ E 1) ∈ G) (hco : c + 187 ≤ o) (t : Int32) : z_Cw E l mL_stop 9 1 6 [.ref c, .int t, .ref o] G I sz (z_wP c o (e_stop S.1 t) (t_stopv S.1 t) S (s_now S (t_stop S.1 t)) G I sz) := by
  refine z_Cw.of hl pn_L [some (.ref c), some (.int t), some (.ref o), none] rfl (Nat.le_of_ble_eq_true rfl) ?_
  refine v_aload_n (pc' := 1) dL_stop_0 rfl rfl ?_
  refine v_iconst (pc' := 2) dL_stop_1 kc_0 rfl ?_
  refine v_aload_n (pc' := 3) dL_stop_2 rfl rfl ?_
  refine v_iload_n (pc' := 4) dL_stop_3 rfl rfl ?_
  refine v_callVX (pc' := 7) (k_stop hl hK hA t) dL_stop_4 lk_L_45 mwX4_stop miX4_stop hK.1 rfl rfl rfl rfl (by decide) (by decide) (Nat.le_of_ble_eq_true rfl) rfl ?_ ?_
  · rintro v' G' I' sz' ⟨rfl, hs, he, y, rfl, rfl, hA', hF'⟩
    have hk : e_stop S.1 t = 0 := ex0_2 he (by unfold e_stop; split <;> (try split) <;> omega)
    refine v_i2l (pc' := 8) dL_stop_7 rfl ?_
    refine v_last (pc' := 9) dL_stop_8 0 rfl ho (by decide) (by decide) rfl ?_
    refine v_goto (tgt := 18) dL_stop_9 (by decide) ?_
    refine v_iconst (pc' := 19) dL_stop_18 kc_0 rfl ?_
    exact v_iret dL_stop_19 rfl (by decide) (by decide) ⟨by rw [hk]; rfl, rfl, hs, fun _ => by rw [z_up_row, z_row_at, pk_us], by rw [hk, if_pos rfl]; exact hA'.out (fun q a b => z_up_ne _ _ _ _ (by omega)), fun q hq hne => by rw [z_up_ne _ _ _ _ hne]; exact hF' q hq⟩
  · rintro X G' I' sz' ⟨rfl, hs, he, hA', hF'⟩
    rcases ex2 he with ⟨hk, rfl⟩ | ⟨hk, rfl⟩
    · refine v_catch [] ⟨0, 9, 12, 28⟩ [⟨0, 9, 15, 15⟩] rfl (fun z hz => by cases hz) rfl (by decide) cl_L_28 cst_IOOBE (fun q => ?_)
      refine v_astore_n3 (pc' := 13) dL_stop_12 (by decide) rfl rfl ?_
      refine v_iconst (pc' := 14) dL_stop_13 kc_1 rfl ?_
      exact v_iret dL_stop_14 rfl (by decide) (by decide) ⟨by rw [hk]; rfl, rfl, hs, fun h => (by rw [hk] at h; cases h), by rw [hk, if_neg (by decide)]; exact hA', fun q hq _ => hF' q hq⟩
    · refine v_catch [⟨0, 9, 12, 28⟩] ⟨0, 9, 15, 15⟩ [] rfl (fun z hz => by
        rcases List.mem_singleton.mp hz with rfl
        exact Or.inr ⟨by decide, nIOO, cl_L_28, by decide⟩) rfl (by decide) cl_L_15 cst_ISE (fun q => ?_)
      refine v_astore_n3 (pc' := 16) dL_stop_15 (by decide) rfl rfl ?_
      refine v_iconst (pc' := 17) dL_stop_16 kc_2 rfl ?_
      exact v_iret dL_stop_17 rfl (by decide) (by decide) ⟨by rw [hk]; rfl, rfl, hs, fun h => (by rw [hk] at h; cases h), by rw [hk, if_neg (by decide)]; exact hA', fun q hq _ => hF' q hq⟩
set_option maxRecDepth 20000 in
set_option maxHeartbeats 4000000 in
theorem w_turnBad (hl : l.stackTraces = false) (hK : ShK E G c) (hA : AbsK I c S) (ho : (o, sJ E 1) ∈ G) (hco : c + 187 ≤ o) (s : Int32) : z_Cw E l mL_turnBad 9 1 6 [.ref c, .int s, .ref o] G I sz (z_wP c o (e_strp s) (t_badv S.1 s) S (s_now S (t_bad S.1 s)) G I sz) := by
  refine z_Cw.of hl pn_L [some (.ref c), some (.int s), some (.ref o), none] rfl (Nat.le_of_ble_eq_true rfl) ?_
  refine v_aload_n (pc' := 1) dL_turnBad_0 rfl rfl ?_
  refine v_iconst (pc' := 2) dL_turnBad_1 kc_0 rfl ?_
  refine v_aload_n (pc' := 3) dL_turnBad_2 rfl rfl ?_
  refine v_iload_n (pc' := 4) dL_turnBad_3 rfl rfl ?_
  refine v_callVX (pc' := 7) (k_turnBad hl hK hA s) dL_turnBad_4 lk_L_48 mwX4_turnBad miX4_turnBad hK.1 rfl rfl rfl rfl (by decide) (by decide) (Nat.le_of_ble_eq_true rfl) rfl ?_ ?_
  · rintro v' G' I' sz' ⟨rfl, hs, he, y, rfl, rfl, hA', hF'⟩
    have hk : e_strp s = 0 := ex0_1 he (by unfold e_strp; split <;> (try split) <;> omega)
    refine v_i2l (pc' := 8) dL_turnBad_7 rfl ?_
    refine v_last (pc' := 9) dL_turnBad_8 0 rfl ho (by decide) (by decide) rfl ?_
    refine v_goto (tgt := 15) dL_turnBad_9 (by decide) ?_
    refine v_iconst (pc' := 16) dL_turnBad_15 kc_0 rfl ?_
    exact v_iret dL_turnBad_16 rfl (by decide) (by decide) ⟨by rw [hk]; rfl, rfl, hs, fun _ => by rw [z_up_row, z_row_at, pk_us], by rw [hk, if_pos rfl]; exact hA'.out (fun q a b => z_up_ne _ _ _ _ (by omega)), fun q hq hne => by rw [z_up_ne _ _ _ _ hne]; exact hF' q hq⟩
  · rintro X G' I' sz' ⟨rfl, hs, he, hA', hF'⟩
    obtain ⟨hk, rfl⟩ := ex1 he
    · refine v_catch [] ⟨0, 9, 12, 28⟩ [] rfl (fun z hz => by cases hz) rfl (by decide) cl_L_28 cst_IOOBE (fun q => ?_)
      refine v_astore_n3 (pc' := 13) dL_turnBad_12 (by decide) rfl rfl ?_
      refine v_iconst (pc' := 14) dL_turnBad_13 kc_1 rfl ?_
      exact v_iret dL_turnBad_14 rfl (by decide) (by decide) ⟨by rw [hk]; rfl, rfl, hs, fun h => (by rw [hk] at h; cases h), by rw [hk, if_neg (by decide)]; exact hA', fun q hq _ => hF' q hq⟩
set_option maxRecDepth 20000 in
set_option maxHeartbeats 4000000 in
theorem w_mend (hl : l.stackTraces = false) (hK : ShK E G c) (hA : AbsK I c S) (ho : (o, sJ E 1) ∈ G) (hco : c + 187 ≤ o) (s : Int32) : z_Cw E l mL_mend 9 1 6 [.ref c, .int s, .ref o] G I sz (z_wP c o (e_strp s) (t_mendv S.1 s) S (s_now S (t_mend S.1 s)) G I sz) := by
  refine z_Cw.of hl pn_L [some (.ref c), some (.int s), some (.ref o), none] rfl (Nat.le_of_ble_eq_true rfl) ?_
  refine v_aload_n (pc' := 1) dL_mend_0 rfl rfl ?_
  refine v_iconst (pc' := 2) dL_mend_1 kc_0 rfl ?_
  refine v_aload_n (pc' := 3) dL_mend_2 rfl rfl ?_
  refine v_iload_n (pc' := 4) dL_mend_3 rfl rfl ?_
  refine v_callVX (pc' := 7) (k_mend hl hK hA s) dL_mend_4 lk_L_51 mwX4_mend miX4_mend hK.1 rfl rfl rfl rfl (by decide) (by decide) (Nat.le_of_ble_eq_true rfl) rfl ?_ ?_
  · rintro v' G' I' sz' ⟨rfl, hs, he, y, rfl, rfl, hA', hF'⟩
    have hk : e_strp s = 0 := ex0_1 he (by unfold e_strp; split <;> (try split) <;> omega)
    refine v_i2l (pc' := 8) dL_mend_7 rfl ?_
    refine v_last (pc' := 9) dL_mend_8 0 rfl ho (by decide) (by decide) rfl ?_
    refine v_goto (tgt := 15) dL_mend_9 (by decide) ?_
    refine v_iconst (pc' := 16) dL_mend_15 kc_0 rfl ?_
    exact v_iret dL_mend_16 rfl (by decide) (by decide) ⟨by rw [hk]; rfl, rfl, hs, fun _ => by rw [z_up_row, z_row_at, pk_us], by rw [hk, if_pos rfl]; exact hA'.out (fun q a b => z_up_ne _ _ _ _ (by omega)), fun q hq hne => by rw [z_up_ne _ _ _ _ hne]; exact hF' q hq⟩
  · rintro X G' I' sz' ⟨rfl, hs, he, hA', hF'⟩
    obtain ⟨hk, rfl⟩ := ex1 he
    · refine v_catch [] ⟨0, 9, 12, 28⟩ [] rfl (fun z hz => by cases hz) rfl (by decide) cl_L_28 cst_IOOBE (fun q => ?_)
      refine v_astore_n3 (pc' := 13) dL_mend_12 (by decide) rfl rfl ?_
      refine v_iconst (pc' := 14) dL_mend_13 kc_1 rfl ?_
      exact v_iret dL_mend_14 rfl (by decide) (by decide) ⟨by rw [hk]; rfl, rfl, hs, fun h => (by rw [hk] at h; cases h), by rw [hk, if_neg (by decide)]; exact hA', fun q hq _ => hF' q hq⟩
set_option maxRecDepth 20000 in
set_option maxHeartbeats 4000000 in
theorem w_run (hl : l.stackTraces = false) (hK : ShK E G c) (hA : AbsK I c S) (ho : (o, sJ E 1) ∈ G) (hco : c + 187 ≤ o) (x : Int32) : z_Cw E l mL_run 9 1 6 [.ref c, .int x, .ref o] G I sz (z_wP c o (e_run x) (t_runv S.1 x) S (s_now S (t_run S.1 x)) G I sz) := by
  refine z_Cw.of hl pn_L [some (.ref c), some (.int x), some (.ref o), none] rfl (Nat.le_of_ble_eq_true rfl) ?_
  refine v_aload_n (pc' := 1) dL_run_0 rfl rfl ?_
  refine v_iconst (pc' := 2) dL_run_1 kc_0 rfl ?_
  refine v_aload_n (pc' := 3) dL_run_2 rfl rfl ?_
  refine v_iload_n (pc' := 4) dL_run_3 rfl rfl ?_
  refine v_callVX (pc' := 7) (k_run hl hK hA x) dL_run_4 lk_L_54 mwX4_run miX4_run hK.1 rfl rfl rfl rfl (by decide) (by decide) (Nat.le_of_ble_eq_true rfl) rfl ?_ ?_
  · rintro v' G' I' sz' ⟨rfl, hs, he, y, rfl, rfl, hA', hF'⟩
    have hk : e_run x = 0 := ex0_1 he (by unfold e_run; split <;> (try split) <;> omega)
    refine v_i2l (pc' := 8) dL_run_7 rfl ?_
    refine v_last (pc' := 9) dL_run_8 0 rfl ho (by decide) (by decide) rfl ?_
    refine v_goto (tgt := 15) dL_run_9 (by decide) ?_
    refine v_iconst (pc' := 16) dL_run_15 kc_0 rfl ?_
    exact v_iret dL_run_16 rfl (by decide) (by decide) ⟨by rw [hk]; rfl, rfl, hs, fun _ => by rw [z_up_row, z_row_at, pk_us], by rw [hk, if_pos rfl]; exact hA'.out (fun q a b => z_up_ne _ _ _ _ (by omega)), fun q hq hne => by rw [z_up_ne _ _ _ _ hne]; exact hF' q hq⟩
  · rintro X G' I' sz' ⟨rfl, hs, he, hA', hF'⟩
    obtain ⟨hk, rfl⟩ := ex1 he
    · refine v_catch [] ⟨0, 9, 12, 13⟩ [] rfl (fun z hz => by cases hz) rfl (by decide) cl_L_13 cst_IAE (fun q => ?_)
      refine v_astore_n3 (pc' := 13) dL_run_12 (by decide) rfl rfl ?_
      refine v_iconst (pc' := 14) dL_run_13 kc_1 rfl ?_
      exact v_iret dL_run_14 rfl (by decide) (by decide) ⟨by rw [hk]; rfl, rfl, hs, fun h => (by rw [hk] at h; cases h), by rw [hk, if_neg (by decide)]; exact hA', fun q hq _ => hF' q hq⟩
set_option maxRecDepth 20000 in
set_option maxHeartbeats 4000000 in
theorem w_set (hl : l.stackTraces = false) (hK : ShK E G c) (hA : AbsK I c S) (ho : (o, sJ E 1) ∈ G) (hco : c + 187 ≤ o) (w : Int32) (v : Int32) : z_Cw E l mL_set 9 1 6 [.ref c, .int w, .int v, .ref o] G I sz (z_wP c o (e_set w v) (S.1 (8 + w.toNatClampNeg)) S (s_now S (upd S.1 (8 + w.toNatClampNeg) v)) G I sz) := by
  refine z_Cw.of hl pn_L [some (.ref c), some (.int w), some (.int v), some (.ref o), none] rfl (Nat.le_of_ble_eq_true rfl) ?_
  refine v_aload_n (pc' := 1) dL_set_0 rfl rfl ?_
  refine v_iconst (pc' := 2) dL_set_1 kc_0 rfl ?_
  refine v_aload_n (pc' := 3) dL_set_2 rfl rfl ?_
  refine v_iload_n (pc' := 4) dL_set_3 rfl rfl ?_
  refine v_iload_n (pc' := 5) dL_set_4 rfl rfl ?_
  refine v_callVX (pc' := 8) (k_set hl hK hA w v) dL_set_5 lk_L_57 mwX4_set miX4_set hK.1 rfl rfl rfl rfl (by decide) (by decide) (Nat.le_of_ble_eq_true rfl) rfl ?_ ?_
  · rintro v' G' I' sz' ⟨rfl, hs, he, y, rfl, rfl, hA', hF'⟩
    have hk : e_set w v = 0 := ex0_1 he (by unfold e_set; split <;> (try split) <;> omega)
    refine v_i2l (pc' := 9) dL_set_8 rfl ?_
    refine v_last (pc' := 10) dL_set_9 0 rfl ho (by decide) (by decide) rfl ?_
    refine v_goto (tgt := 17) dL_set_10 (by decide) ?_
    refine v_iconst (pc' := 18) dL_set_17 kc_0 rfl ?_
    exact v_iret dL_set_18 rfl (by decide) (by decide) ⟨by rw [hk]; rfl, rfl, hs, fun _ => by rw [z_up_row, z_row_at, pk_us], by rw [hk, if_pos rfl]; exact hA'.out (fun q a b => z_up_ne _ _ _ _ (by omega)), fun q hq hne => by rw [z_up_ne _ _ _ _ hne]; exact hF' q hq⟩
  · rintro X G' I' sz' ⟨rfl, hs, he, hA', hF'⟩
    obtain ⟨hk, rfl⟩ := ex1 he
    · refine v_catch [] ⟨0, 10, 13, 13⟩ [] rfl (fun z hz => by cases hz) rfl (by decide) cl_L_13 cst_IAE (fun q => ?_)
      refine v_astore4 (pc' := 15) dL_set_13 (by decide) rfl rfl ?_
      refine v_iconst (pc' := 16) dL_set_15 kc_1 rfl ?_
      exact v_iret dL_set_16 rfl (by decide) (by decide) ⟨by rw [hk]; rfl, rfl, hs, fun h => (by rw [hk] at h; cases h), by rw [hk, if_neg (by decide)]; exact hA', fun q hq _ => hF' q hq⟩
set_option maxRecDepth 20000 in
set_option maxHeartbeats 4000000 in
theorem w_undo (hl : l.stackTraces = false) (hK : ShK E G c) (hA : AbsK I c S) (ho : (o, sJ E 1) ∈ G) (hco : c + 187 ≤ o) : z_Cw E l mL_undo 9 1 6 [.ref c, .ref o] G I sz (z_wP c o (e_undo S) (nI (S.2.1.1 - 1)) S (s_undo S) G I sz) := by
  refine z_Cw.of hl pn_L [some (.ref c), some (.ref o), none] rfl (Nat.le_of_ble_eq_true rfl) ?_
  refine v_aload_n (pc' := 1) dL_undo_0 rfl rfl ?_
  refine v_iconst (pc' := 2) dL_undo_1 kc_0 rfl ?_
  refine v_aload_n (pc' := 3) dL_undo_2 rfl rfl ?_
  refine v_callVX (pc' := 6) (k_undo hl hK hA) dL_undo_3 lk_L_60 mwX4_undo miX4_undo hK.1 rfl rfl rfl rfl (by decide) (by decide) (Nat.le_of_ble_eq_true rfl) rfl ?_ ?_
  · rintro v' G' I' sz' ⟨rfl, hs, he, y, rfl, rfl, hA', hF'⟩
    have hk : e_undo S = 0 := ex0_1 he (by unfold e_undo; split <;> (try split) <;> omega)
    refine v_i2l (pc' := 7) dL_undo_6 rfl ?_
    refine v_last (pc' := 8) dL_undo_7 0 rfl ho (by decide) (by decide) rfl ?_
    refine v_goto (tgt := 14) dL_undo_8 (by decide) ?_
    refine v_iconst (pc' := 15) dL_undo_14 kc_0 rfl ?_
    exact v_iret dL_undo_15 rfl (by decide) (by decide) ⟨by rw [hk]; rfl, rfl, hs, fun _ => by rw [z_up_row, z_row_at, pk_us], by rw [hk, if_pos rfl]; exact hA'.out (fun q a b => z_up_ne _ _ _ _ (by omega)), fun q hq hne => by rw [z_up_ne _ _ _ _ hne]; exact hF' q hq⟩
  · rintro X G' I' sz' ⟨rfl, hs, he, hA', hF'⟩
    obtain ⟨hk, rfl⟩ := ex1 he
    · refine v_catch [] ⟨0, 8, 11, 15⟩ [] rfl (fun z hz => by cases hz) rfl (by decide) cl_L_15 cst_ISE (fun q => ?_)
      refine v_astore_n2 (pc' := 12) dL_undo_11 (by decide) rfl rfl ?_
      refine v_iconst (pc' := 13) dL_undo_12 kc_1 rfl ?_
      exact v_iret dL_undo_13 rfl (by decide) (by decide) ⟨by rw [hk]; rfl, rfl, hs, fun h => (by rw [hk] at h; cases h), by rw [hk, if_neg (by decide)]; exact hA', fun q hq _ => hF' q hq⟩
set_option maxRecDepth 20000 in
set_option maxHeartbeats 4000000 in
theorem w_bestGap (hl : l.stackTraces = false) (hK : ShK E G c) (hA : AbsK I c S) (ho : (o, sJ E 1) ∈ G) (hco : c + 187 ≤ o) (x : Int32) : z_Cw E l mL_bestGap 9 1 6 [.ref c, .int x, .ref o] G I sz (z_wP c o (e_gap x) (v_gap S.1 x) S (S) G I sz) := by
  refine z_Cw.of hl pn_L [some (.ref c), some (.int x), some (.ref o), none] rfl (Nat.le_of_ble_eq_true rfl) ?_
  refine v_aload_n (pc' := 1) dL_bestGap_0 rfl rfl ?_
  refine v_iconst (pc' := 2) dL_bestGap_1 kc_0 rfl ?_
  refine v_aload_n (pc' := 3) dL_bestGap_2 rfl rfl ?_
  refine v_iload_n (pc' := 4) dL_bestGap_3 rfl rfl ?_
  refine v_callVX (pc' := 7) (k_bestGap hl hK hA x) dL_bestGap_4 lk_L_63 mwX4_bestGap miX4_bestGap hK.1 rfl rfl rfl rfl (by decide) (by decide) (Nat.le_of_ble_eq_true rfl) rfl ?_ ?_
  · rintro v' G' I' sz' ⟨rfl, hs, he, y, rfl, rfl, hA', hF'⟩
    have hk : e_gap x = 0 := ex0_1 he (by unfold e_gap; split <;> (try split) <;> omega)
    refine v_i2l (pc' := 8) dL_bestGap_7 rfl ?_
    refine v_last (pc' := 9) dL_bestGap_8 0 rfl ho (by decide) (by decide) rfl ?_
    refine v_goto (tgt := 15) dL_bestGap_9 (by decide) ?_
    refine v_iconst (pc' := 16) dL_bestGap_15 kc_0 rfl ?_
    exact v_iret dL_bestGap_16 rfl (by decide) (by decide) ⟨by rw [hk]; rfl, rfl, hs, fun _ => by rw [z_up_row, z_row_at, pk_us], by rw [hk, if_pos rfl]; exact hA'.out (fun q a b => z_up_ne _ _ _ _ (by omega)), fun q hq hne => by rw [z_up_ne _ _ _ _ hne]; exact hF' q hq⟩
  · rintro X G' I' sz' ⟨rfl, hs, he, hA', hF'⟩
    obtain ⟨hk, rfl⟩ := ex1 he
    · refine v_catch [] ⟨0, 9, 12, 13⟩ [] rfl (fun z hz => by cases hz) rfl (by decide) cl_L_13 cst_IAE (fun q => ?_)
      refine v_astore_n3 (pc' := 13) dL_bestGap_12 (by decide) rfl rfl ?_
      refine v_iconst (pc' := 14) dL_bestGap_13 kc_1 rfl ?_
      exact v_iret dL_bestGap_14 rfl (by decide) (by decide) ⟨by rw [hk]; rfl, rfl, hs, fun h => (by rw [hk] at h; cases h), by rw [hk, if_neg (by decide)]; exact hA', fun q hq _ => hF' q hq⟩
set_option maxRecDepth 20000 in
set_option maxHeartbeats 4000000 in
theorem w_window (hl : l.stackTraces = false) (hK : ShK E G c) (hA : AbsK I c S) (ho : (o, sJ E 1) ∈ G) (hco : c + 187 ≤ o) (w : Int32) (x : Int32) : z_Cw E l mL_window 9 1 6 [.ref c, .int w, .int x, .ref o] G I sz (z_wP c o (e_win w x) (v_win S.1 w x) S (S) G I sz) := by
  refine z_Cw.of hl pn_L [some (.ref c), some (.int w), some (.int x), some (.ref o), none] rfl (Nat.le_of_ble_eq_true rfl) ?_
  refine v_aload_n (pc' := 1) dL_window_0 rfl rfl ?_
  refine v_iconst (pc' := 2) dL_window_1 kc_0 rfl ?_
  refine v_aload_n (pc' := 3) dL_window_2 rfl rfl ?_
  refine v_iload_n (pc' := 4) dL_window_3 rfl rfl ?_
  refine v_iload_n (pc' := 5) dL_window_4 rfl rfl ?_
  refine v_callVX (pc' := 8) (k_window hl hK hA w x) dL_window_5 lk_L_66 mwX4_window miX4_window hK.1 rfl rfl rfl rfl (by decide) (by decide) (Nat.le_of_ble_eq_true rfl) rfl ?_ ?_
  · rintro v' G' I' sz' ⟨rfl, hs, he, y, rfl, rfl, hA', hF'⟩
    have hk : e_win w x = 0 := ex0_1 he (by unfold e_win; split <;> (try split) <;> omega)
    refine v_i2l (pc' := 9) dL_window_8 rfl ?_
    refine v_last (pc' := 10) dL_window_9 0 rfl ho (by decide) (by decide) rfl ?_
    refine v_goto (tgt := 17) dL_window_10 (by decide) ?_
    refine v_iconst (pc' := 18) dL_window_17 kc_0 rfl ?_
    exact v_iret dL_window_18 rfl (by decide) (by decide) ⟨by rw [hk]; rfl, rfl, hs, fun _ => by rw [z_up_row, z_row_at, pk_us], by rw [hk, if_pos rfl]; exact hA'.out (fun q a b => z_up_ne _ _ _ _ (by omega)), fun q hq hne => by rw [z_up_ne _ _ _ _ hne]; exact hF' q hq⟩
  · rintro X G' I' sz' ⟨rfl, hs, he, hA', hF'⟩
    obtain ⟨hk, rfl⟩ := ex1 he
    · refine v_catch [] ⟨0, 10, 13, 13⟩ [] rfl (fun z hz => by cases hz) rfl (by decide) cl_L_13 cst_IAE (fun q => ?_)
      refine v_astore4 (pc' := 15) dL_window_13 (by decide) rfl rfl ?_
      refine v_iconst (pc' := 16) dL_window_15 kc_1 rfl ?_
      exact v_iret dL_window_16 rfl (by decide) (by decide) ⟨by rw [hk]; rfl, rfl, hs, fun h => (by rw [hk] at h; cases h), by rw [hk, if_neg (by decide)]; exact hA', fun q hq _ => hF' q hq⟩
set_option maxRecDepth 20000 in
set_option maxHeartbeats 4000000 in
theorem w_coming (hl : l.stackTraces = false) (hK : ShK E G c) (hA : AbsK I c S) (ho : (o, sJ E 1) ∈ G) (hco : c + 187 ≤ o) (t : Int32) (n : Int32) (x : Int32) : z_Cw E l mL_coming 9 1 6 [.ref c, .int t, .int n, .int x, .ref o] G I sz (z_wP c o (e_coming S.1 t n x) (v_coming S.1 t n x) S (S) G I sz) := by
  refine z_Cw.of hl pn_L [some (.ref c), some (.int t), some (.int n), some (.int x), some (.ref o), none] rfl (Nat.le_of_ble_eq_true rfl) ?_
  refine v_aload (pc' := 2) dL_coming_0 rfl rfl ?_
  refine v_iconst (pc' := 3) dL_coming_2 kc_0 rfl ?_
  refine v_aload_n (pc' := 4) dL_coming_3 rfl rfl ?_
  refine v_iload_n (pc' := 5) dL_coming_4 rfl rfl ?_
  refine v_iload_n (pc' := 6) dL_coming_5 rfl rfl ?_
  refine v_iload_n (pc' := 7) dL_coming_6 rfl rfl ?_
  refine v_callVX (pc' := 10) (k_coming hl hK hA t n x) dL_coming_7 lk_L_69 mwX4_coming miX4_coming hK.1 rfl rfl rfl rfl (by decide) (by decide) (Nat.le_of_ble_eq_true rfl) rfl ?_ ?_
  · rintro v' G' I' sz' ⟨rfl, hs, he, y, rfl, rfl, hA', hF'⟩
    have hk : e_coming S.1 t n x = 0 := ex0_2 he (by unfold e_coming; split <;> (try split) <;> omega)
    refine v_i2l (pc' := 11) dL_coming_10 rfl ?_
    refine v_last (pc' := 12) dL_coming_11 0 rfl ho (by decide) (by decide) rfl ?_
    refine v_goto (tgt := 23) dL_coming_12 (by decide) ?_
    refine v_iconst (pc' := 24) dL_coming_23 kc_0 rfl ?_
    exact v_iret dL_coming_24 rfl (by decide) (by decide) ⟨by rw [hk]; rfl, rfl, hs, fun _ => by rw [z_up_row, z_row_at, pk_us], by rw [hk, if_pos rfl]; exact hA'.out (fun q a b => z_up_ne _ _ _ _ (by omega)), fun q hq hne => by rw [z_up_ne _ _ _ _ hne]; exact hF' q hq⟩
  · rintro X G' I' sz' ⟨rfl, hs, he, hA', hF'⟩
    rcases ex2 he with ⟨hk, rfl⟩ | ⟨hk, rfl⟩
    · refine v_catch [] ⟨0, 12, 15, 28⟩ [⟨0, 12, 19, 13⟩] rfl (fun z hz => by cases hz) rfl (by decide) cl_L_28 cst_IOOBE (fun q => ?_)
      refine v_astore5 (pc' := 17) dL_coming_15 (by decide) rfl rfl ?_
      refine v_iconst (pc' := 18) dL_coming_17 kc_1 rfl ?_
      exact v_iret dL_coming_18 rfl (by decide) (by decide) ⟨by rw [hk]; rfl, rfl, hs, fun h => (by rw [hk] at h; cases h), by rw [hk, if_neg (by decide)]; exact hA', fun q hq _ => hF' q hq⟩
    · refine v_catch [⟨0, 12, 15, 28⟩] ⟨0, 12, 19, 13⟩ [] rfl (fun z hz => by
        rcases List.mem_singleton.mp hz with rfl
        exact Or.inr ⟨by decide, nIOO, cl_L_28, by decide⟩) rfl (by decide) cl_L_13 cst_IAE (fun q => ?_)
      refine v_astore5 (pc' := 21) dL_coming_19 (by decide) rfl rfl ?_
      refine v_iconst (pc' := 22) dL_coming_21 kc_2 rfl ?_
      exact v_iret dL_coming_22 rfl (by decide) (by decide) ⟨by rw [hk]; rfl, rfl, hs, fun h => (by rw [hk] at h; cases h), by rw [hk, if_neg (by decide)]; exact hA', fun q hq _ => hF' q hq⟩
set_option maxRecDepth 20000 in
set_option maxHeartbeats 4000000 in
theorem w_lost (hl : l.stackTraces = false) (hK : ShK E G c) (hA : AbsK I c S) (ho : (o, sJ E 1) ∈ G) (hco : c + 187 ≤ o) (s : Int32) : z_Cw E l mL_lost 9 1 6 [.ref c, .int s, .ref o] G I sz (z_wP c o (e_strp s) (v_lost S.1 s) S (S) G I sz) := by
  refine z_Cw.of hl pn_L [some (.ref c), some (.int s), some (.ref o), none] rfl (Nat.le_of_ble_eq_true rfl) ?_
  refine v_aload_n (pc' := 1) dL_lost_0 rfl rfl ?_
  refine v_iconst (pc' := 2) dL_lost_1 kc_0 rfl ?_
  refine v_aload_n (pc' := 3) dL_lost_2 rfl rfl ?_
  refine v_iload_n (pc' := 4) dL_lost_3 rfl rfl ?_
  refine v_callVX (pc' := 7) (k_lost hl hK hA s) dL_lost_4 lk_L_73 mwX4_lost miX4_lost hK.1 rfl rfl rfl rfl (by decide) (by decide) (Nat.le_of_ble_eq_true rfl) rfl ?_ ?_
  · rintro v' G' I' sz' ⟨rfl, hs, he, y, rfl, rfl, hA', hF'⟩
    have hk : e_strp s = 0 := ex0_1 he (by unfold e_strp; split <;> (try split) <;> omega)
    refine v_i2l (pc' := 8) dL_lost_7 rfl ?_
    refine v_last (pc' := 9) dL_lost_8 0 rfl ho (by decide) (by decide) rfl ?_
    refine v_goto (tgt := 15) dL_lost_9 (by decide) ?_
    refine v_iconst (pc' := 16) dL_lost_15 kc_0 rfl ?_
    exact v_iret dL_lost_16 rfl (by decide) (by decide) ⟨by rw [hk]; rfl, rfl, hs, fun _ => by rw [z_up_row, z_row_at, pk_us], by rw [hk, if_pos rfl]; exact hA'.out (fun q a b => z_up_ne _ _ _ _ (by omega)), fun q hq hne => by rw [z_up_ne _ _ _ _ hne]; exact hF' q hq⟩
  · rintro X G' I' sz' ⟨rfl, hs, he, hA', hF'⟩
    obtain ⟨hk, rfl⟩ := ex1 he
    · refine v_catch [] ⟨0, 9, 12, 28⟩ [] rfl (fun z hz => by cases hz) rfl (by decide) cl_L_28 cst_IOOBE (fun q => ?_)
      refine v_astore_n3 (pc' := 13) dL_lost_12 (by decide) rfl rfl ?_
      refine v_iconst (pc' := 14) dL_lost_13 kc_1 rfl ?_
      exact v_iret dL_lost_14 rfl (by decide) (by decide) ⟨by rw [hk]; rfl, rfl, hs, fun h => (by rw [hk] at h; cases h), by rw [hk, if_neg (by decide)]; exact hA', fun q hq _ => hF' q hq⟩
set_option maxRecDepth 20000 in
set_option maxHeartbeats 4000000 in
theorem w_runScript (hl : l.stackTraces = false) (hK : ShK E G c) (hA : AbsK I c S) (ho : (o, sJ E 1) ∈ G) (hco : c + 187 ≤ o) (n : Int32) (s : Int64) : z_Cw E l mL_runScript 9 1 6 [.ref c, .int n, .long s, .ref o] G I sz (z_wP c o (e_script n s) (v_script S.1 n s) S (S) G I sz) := by
  refine z_Cw.of hl pn_L [some (.ref c), some (.int n), some (.long s), none, some (.ref o), none] rfl (Nat.le_of_ble_eq_true rfl) ?_
  refine v_aload (pc' := 2) dL_runScript_0 rfl rfl ?_
  refine v_iconst (pc' := 3) dL_runScript_2 kc_0 rfl ?_
  refine v_aload_n (pc' := 4) dL_runScript_3 rfl rfl ?_
  refine v_iload_n (pc' := 5) dL_runScript_4 rfl rfl ?_
  refine v_lload_n (pc' := 6) dL_runScript_5 rfl rfl ?_
  refine v_callVX (pc' := 9) (k_runScript hl hK hA n s) dL_runScript_6 lk_L_76 mwX4_runScript miX4_runScript hK.1 rfl rfl rfl rfl (by decide) (by decide) (Nat.le_of_ble_eq_true rfl) rfl ?_ ?_
  · rintro v' G' I' sz' ⟨rfl, hs, he, y, rfl, rfl, hA', hF'⟩
    have hk : e_script n s = 0 := ex0_1 he (by unfold e_script; split <;> (try split) <;> omega)
    refine v_i2l (pc' := 10) dL_runScript_9 rfl ?_
    refine v_last (pc' := 11) dL_runScript_10 0 rfl ho (by decide) (by decide) rfl ?_
    refine v_goto (tgt := 18) dL_runScript_11 (by decide) ?_
    refine v_iconst (pc' := 19) dL_runScript_18 kc_0 rfl ?_
    exact v_iret dL_runScript_19 rfl (by decide) (by decide) ⟨by rw [hk]; rfl, rfl, hs, fun _ => by rw [z_up_row, z_row_at, pk_us], by rw [hk, if_pos rfl]; exact hA'.out (fun q a b => z_up_ne _ _ _ _ (by omega)), fun q hq hne => by rw [z_up_ne _ _ _ _ hne]; exact hF' q hq⟩
  · rintro X G' I' sz' ⟨rfl, hs, he, hA', hF'⟩
    obtain ⟨hk, rfl⟩ := ex1 he
    · refine v_catch [] ⟨0, 11, 14, 13⟩ [] rfl (fun z hz => by cases hz) rfl (by decide) cl_L_13 cst_IAE (fun q => ?_)
      refine v_astore5 (pc' := 16) dL_runScript_14 (by decide) rfl rfl ?_
      refine v_iconst (pc' := 17) dL_runScript_16 kc_1 rfl ?_
      exact v_iret dL_runScript_17 rfl (by decide) (by decide) ⟨by rw [hk]; rfl, rfl, hs, fun h => (by rw [hk] at h; cases h), by rw [hk, if_neg (by decide)]; exact hA', fun q hq _ => hF' q hq⟩
set_option maxRecDepth 20000 in
set_option maxHeartbeats 4000000 in
theorem w_simulate (hl : l.stackTraces = false) (hK : ShK E G c) (hA : AbsK I c S) (ho : (o, sJ E 1) ∈ G) (hco : c + 187 ≤ o) (s : Int64) (n : Int32) : z_Cw E l mL_simulate 9 1 6 [.ref c, .long s, .int n, .ref o] G I sz (z_wP c o (e_sim n) (v_sim S.1 s n) S (S) G I sz) := by
  refine z_Cw.of hl pn_L [some (.ref c), some (.long s), none, some (.int n), some (.ref o), none] rfl (Nat.le_of_ble_eq_true rfl) ?_
  refine v_aload (pc' := 2) dL_simulate_0 rfl rfl ?_
  refine v_iconst (pc' := 3) dL_simulate_2 kc_0 rfl ?_
  refine v_aload_n (pc' := 4) dL_simulate_3 rfl rfl ?_
  refine v_lload_n (pc' := 5) dL_simulate_4 rfl rfl ?_
  refine v_iload_n (pc' := 6) dL_simulate_5 rfl rfl ?_
  refine v_callVX (pc' := 9) (k_simulate hl hK hA s n) dL_simulate_6 lk_L_80 mwX4_simulate miX4_simulate hK.1 rfl rfl rfl rfl (by decide) (by decide) (Nat.le_of_ble_eq_true rfl) rfl ?_ ?_
  · rintro v' G' I' sz' ⟨rfl, hs, he, y, rfl, rfl, hA', hF'⟩
    have hk : e_sim n = 0 := ex0_1 he (by unfold e_sim; split <;> (try split) <;> omega)
    refine v_i2l (pc' := 10) dL_simulate_9 rfl ?_
    refine v_last (pc' := 11) dL_simulate_10 0 rfl ho (by decide) (by decide) rfl ?_
    refine v_goto (tgt := 18) dL_simulate_11 (by decide) ?_
    refine v_iconst (pc' := 19) dL_simulate_18 kc_0 rfl ?_
    exact v_iret dL_simulate_19 rfl (by decide) (by decide) ⟨by rw [hk]; rfl, rfl, hs, fun _ => by rw [z_up_row, z_row_at, pk_us], by rw [hk, if_pos rfl]; exact hA'.out (fun q a b => z_up_ne _ _ _ _ (by omega)), fun q hq hne => by rw [z_up_ne _ _ _ _ hne]; exact hF' q hq⟩
  · rintro X G' I' sz' ⟨rfl, hs, he, hA', hF'⟩
    obtain ⟨hk, rfl⟩ := ex1 he
    · refine v_catch [] ⟨0, 11, 14, 13⟩ [] rfl (fun z hz => by cases hz) rfl (by decide) cl_L_13 cst_IAE (fun q => ?_)
      refine v_astore5 (pc' := 16) dL_simulate_14 (by decide) rfl rfl ?_
      refine v_iconst (pc' := 17) dL_simulate_16 kc_1 rfl ?_
      exact v_iret dL_simulate_17 rfl (by decide) (by decide) ⟨by rw [hk]; rfl, rfl, hs, fun h => (by rw [hk] at h; cases h), by rw [hk, if_neg (by decide)]; exact hA', fun q hq _ => hF' q hq⟩
set_option maxRecDepth 20000 in
set_option maxHeartbeats 4000000 in
theorem w_save (hl : l.stackTraces = false) (hK : ShK E G c) (hA : AbsK I c S) (ho : (o, sJ E 1) ∈ G) (hco : c + 187 ≤ o) (x : Int32) : z_Cw E l mL_save 9 1 6 [.ref c, .int x, .ref o] G I sz (z_wP c o (e_slot x) (S.1 1) S (s_save S x) G I sz) := by
  refine z_Cw.of hl pn_L [some (.ref c), some (.int x), some (.ref o), none] rfl (Nat.le_of_ble_eq_true rfl) ?_
  refine v_aload_n (pc' := 1) dL_save_0 rfl rfl ?_
  refine v_iconst (pc' := 2) dL_save_1 kc_0 rfl ?_
  refine v_aload_n (pc' := 3) dL_save_2 rfl rfl ?_
  refine v_iload_n (pc' := 4) dL_save_3 rfl rfl ?_
  refine v_callVX (pc' := 7) (k_save_ hl hK hA x) dL_save_4 lk_L_84 mwX4_save miX4_save hK.1 rfl rfl rfl rfl (by decide) (by decide) (Nat.le_of_ble_eq_true rfl) rfl ?_ ?_
  · rintro v' G' I' sz' ⟨rfl, hs, he, y, rfl, rfl, hA', hF'⟩
    have hk : e_slot x = 0 := ex0_1 he (by unfold e_slot; split <;> (try split) <;> omega)
    refine v_i2l (pc' := 8) dL_save_7 rfl ?_
    refine v_last (pc' := 9) dL_save_8 0 rfl ho (by decide) (by decide) rfl ?_
    refine v_goto (tgt := 15) dL_save_9 (by decide) ?_
    refine v_iconst (pc' := 16) dL_save_15 kc_0 rfl ?_
    exact v_iret dL_save_16 rfl (by decide) (by decide) ⟨by rw [hk]; rfl, rfl, hs, fun _ => by rw [z_up_row, z_row_at, pk_us], by rw [hk, if_pos rfl]; exact hA'.out (fun q a b => z_up_ne _ _ _ _ (by omega)), fun q hq hne => by rw [z_up_ne _ _ _ _ hne]; exact hF' q hq⟩
  · rintro X G' I' sz' ⟨rfl, hs, he, hA', hF'⟩
    obtain ⟨hk, rfl⟩ := ex1 he
    · refine v_catch [] ⟨0, 9, 12, 28⟩ [] rfl (fun z hz => by cases hz) rfl (by decide) cl_L_28 cst_IOOBE (fun q => ?_)
      refine v_astore_n3 (pc' := 13) dL_save_12 (by decide) rfl rfl ?_
      refine v_iconst (pc' := 14) dL_save_13 kc_1 rfl ?_
      exact v_iret dL_save_14 rfl (by decide) (by decide) ⟨by rw [hk]; rfl, rfl, hs, fun h => (by rw [hk] at h; cases h), by rw [hk, if_neg (by decide)]; exact hA', fun q hq _ => hF' q hq⟩
set_option maxRecDepth 20000 in
set_option maxHeartbeats 4000000 in
theorem w_restore (hl : l.stackTraces = false) (hK : ShK E G c) (hA : AbsK I c S) (ho : (o, sJ E 1) ∈ G) (hco : c + 187 ≤ o) (x : Int32) : z_Cw E l mL_restore 9 1 6 [.ref c, .int x, .ref o] G I sz (z_wP c o (e_rest S x) (S.2.2.2.1 x.toNatClampNeg 1) S (s_rest S x) G I sz) := by
  refine z_Cw.of hl pn_L [some (.ref c), some (.int x), some (.ref o), none] rfl (Nat.le_of_ble_eq_true rfl) ?_
  refine v_aload_n (pc' := 1) dL_restore_0 rfl rfl ?_
  refine v_iconst (pc' := 2) dL_restore_1 kc_0 rfl ?_
  refine v_aload_n (pc' := 3) dL_restore_2 rfl rfl ?_
  refine v_iload_n (pc' := 4) dL_restore_3 rfl rfl ?_
  refine v_callVX (pc' := 7) (k_restore hl hK hA x) dL_restore_4 lk_L_87 mwX4_restore miX4_restore hK.1 rfl rfl rfl rfl (by decide) (by decide) (Nat.le_of_ble_eq_true rfl) rfl ?_ ?_
  · rintro v' G' I' sz' ⟨rfl, hs, he, y, rfl, rfl, hA', hF'⟩
    have hk : e_rest S x = 0 := ex0_2 he (by unfold e_rest; split <;> (try split) <;> omega)
    refine v_i2l (pc' := 8) dL_restore_7 rfl ?_
    refine v_last (pc' := 9) dL_restore_8 0 rfl ho (by decide) (by decide) rfl ?_
    refine v_goto (tgt := 18) dL_restore_9 (by decide) ?_
    refine v_iconst (pc' := 19) dL_restore_18 kc_0 rfl ?_
    exact v_iret dL_restore_19 rfl (by decide) (by decide) ⟨by rw [hk]; rfl, rfl, hs, fun _ => by rw [z_up_row, z_row_at, pk_us], by rw [hk, if_pos rfl]; exact hA'.out (fun q a b => z_up_ne _ _ _ _ (by omega)), fun q hq hne => by rw [z_up_ne _ _ _ _ hne]; exact hF' q hq⟩
  · rintro X G' I' sz' ⟨rfl, hs, he, hA', hF'⟩
    rcases ex2 he with ⟨hk, rfl⟩ | ⟨hk, rfl⟩
    · refine v_catch [] ⟨0, 9, 12, 28⟩ [⟨0, 9, 15, 15⟩] rfl (fun z hz => by cases hz) rfl (by decide) cl_L_28 cst_IOOBE (fun q => ?_)
      refine v_astore_n3 (pc' := 13) dL_restore_12 (by decide) rfl rfl ?_
      refine v_iconst (pc' := 14) dL_restore_13 kc_1 rfl ?_
      exact v_iret dL_restore_14 rfl (by decide) (by decide) ⟨by rw [hk]; rfl, rfl, hs, fun h => (by rw [hk] at h; cases h), by rw [hk, if_neg (by decide)]; exact hA', fun q hq _ => hF' q hq⟩
    · refine v_catch [⟨0, 9, 12, 28⟩] ⟨0, 9, 15, 15⟩ [] rfl (fun z hz => by
        rcases List.mem_singleton.mp hz with rfl
        exact Or.inr ⟨by decide, nIOO, cl_L_28, by decide⟩) rfl (by decide) cl_L_15 cst_ISE (fun q => ?_)
      refine v_astore_n3 (pc' := 16) dL_restore_15 (by decide) rfl rfl ?_
      refine v_iconst (pc' := 17) dL_restore_16 kc_2 rfl ?_
      exact v_iret dL_restore_17 rfl (by decide) (by decide) ⟨by rw [hk]; rfl, rfl, hs, fun h => (by rw [hk] at h; cases h), by rw [hk, if_neg (by decide)]; exact hA', fun q hq _ => hF' q hq⟩
end LAW
