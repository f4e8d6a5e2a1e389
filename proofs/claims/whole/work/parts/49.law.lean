/-! THE LAW's wrappers -/
def FrW (I I' : zI) (c o : Nat) : Prop := ∀ q, (q < c ∨ c + 187 ≤ q) → q ≠ o → I' q = I q
def z_wP (c o k : Nat) (v : Int32) (S S' : zS) (G : zG) (I : zI) (sz : Nat) (v' : Option Value) (G' : zG) (I' : zI) (sz' : Nat) : Prop := v' = some (.int (nI k)) ∧ G' = G ∧ sz ≤ sz' ∧ (k = 0 → I' o 0 = v) ∧ AbsK I' c (if k = 0 then S' else S) ∧ FrW I I' c o
theorem ex1 {a X : String} {k : Nat} (h : ex [a] k = some X) : k = 1 ∧ X = a := by
  match k, h with
  | 1, h => exact ⟨rfl, (Option.some.inj h).symm⟩
theorem ex2 {a b X : String} {k : Nat} (h : ex [a, b] k = some X) : (k = 1 ∧ X = a) ∨ (k = 2 ∧ X = b) := by
  match k, h with
  | 1, h => exact Or.inl ⟨rfl, (Option.some.inj h).symm⟩
  | 2, h => exact Or.inr ⟨rfl, (Option.some.inj h).symm⟩
theorem ex0_1 {a : String} {k : Nat} (h : ex [a] k = none) (hk : k ≤ 1) : k = 0 := by
  match k, h, hk with
  | 0, _, _ => rfl
  | 1, h, _ => cases h
theorem ex0_2 {a b : String} {k : Nat} (h : ex [a, b] k = none) (hk : k ≤ 2) : k = 0 := by
  match k, h, hk with
  | 0, _, _ => rfl
  | 1, h, _ => cases h
  | 2, h, _ => cases h
theorem AbsK.out {I I' : zI} {c : Nat} {S : zS} (h : AbsK I c S) (e : ∀ q, c ≤ q → q < c + 187 → I' q = I q) : AbsK I' c S := by
  obtain ⟨h1, h2, h3, h4, h5, h6⟩ := h
  exact ⟨h1.agree (fun q a b => e q (by omega) (by omega)), h2.agree h3.1.1 (fun q a b => e q (by omega) (by omega)), h3, h4.agree (fun q a b => e q (by omega) (by omega)), fun j hj => by rw [e _ (by omega) (by omega)]; exact h5 j hj, fun j hj hf => ⟨(h6 j hj hf).1.agree (h6 j hj hf).2.1.1 (fun q a b => e q (by omega) (by omega)), (h6 j hj hf).2⟩⟩
section LAW
variable {E : zE} {l : Launch} {G : zG} {I : zI} {sz c o : Nat} {S : zS}
theorem w_append (hl : l.stackTraces = false) (hK : ShK E G c) (hA : AbsK I c S) (ho : (o, sJ E 1) ∈ G) (hco : c + 187 ≤ o) (x : Int32) : z_Cw E l mL_append 10 1 6 [.ref c, .int x, .ref o] G I sz (z_wP c o (e_append S x) (nI (S.2.2.1.2 + 1)) S (s_append S x) G I sz) := by
  refine z_Cw.of hl pn_L [some (.ref c), some (.int x), some (.ref o), none] rfl (Nat.le_of_ble_eq_true rfl) ?_
  refine v_aload_n (pc' := 1) dL_append_0 rfl rfl ?_
  refine v_iconst (pc' := 2) dL_append_1 kc_0 rfl ?_
  refine v_aload_n (pc' := 3) dL_append_2 rfl rfl ?_
  refine v_iload_n (pc' := 4) dL_append_3 rfl rfl ?_
  refine v_callVX (pc' := 7) (k_append hl hK hA x) dL_append_4 lk_L_7 mwX4_append miX4_append hK.1 rfl rfl rfl rfl (by decide) (by decide) (Nat.le_of_ble_eq_true rfl) rfl ?_ ?_
  · rintro v G' I' sz' ⟨rfl, hs, he, y, rfl, rfl, hA', hF'⟩
    have hk : e_append S x = 0 := ex0_2 he (by unfold e_append; split <;> (try split) <;> omega)
    refine v_i2l (pc' := 8) dL_append_7 rfl ?_
    refine v_last (pc' := 9) dL_append_8 0 rfl ho (by decide) (by decide) rfl ?_
    refine v_goto (tgt := 18) dL_append_9 (by decide) ?_
    refine v_iconst (pc' := 19) dL_append_18 kc_0 rfl ?_
    exact v_iret dL_append_19 rfl (by decide) (by decide) ⟨by rw [hk]; rfl, rfl, hs, fun _ => by rw [z_up_row, z_row_at, pk_us], by rw [hk, if_pos rfl]; exact hA'.out (fun q a b => z_up_ne _ _ _ _ (by omega)), fun q hq hne => by rw [z_up_ne _ _ _ _ hne]; exact hF' q hq⟩
  · rintro X G' I' sz' ⟨rfl, hs, he, hA', hF'⟩
    rcases ex2 he with ⟨hk, rfl⟩ | ⟨hk, rfl⟩
    · refine v_catch [] ⟨0, 9, 12, 13⟩ [⟨0, 9, 15, 15⟩] rfl (fun z hz => by cases hz) rfl (by decide) cl_L_13 cst_IAE (fun q => ?_)
      refine v_astore_n3 (pc' := 13) dL_append_12 (by decide) rfl rfl ?_
      refine v_iconst (pc' := 14) dL_append_13 kc_1 rfl ?_
      exact v_iret dL_append_14 rfl (by decide) (by decide) ⟨by rw [hk]; rfl, rfl, hs, fun h => (by rw [hk] at h; cases h), by rw [hk, if_neg (by decide)]; exact hA', fun q hq _ => hF' q hq⟩
    · refine v_catch [⟨0, 9, 12, 13⟩] ⟨0, 9, 15, 15⟩ [] rfl (fun z hz => by
        rcases List.mem_singleton.mp hz with rfl
        exact Or.inr ⟨by decide, nIAE, cl_L_13, by decide⟩) rfl (by decide) cl_L_15 cst_ISE (fun q => ?_)
      refine v_astore_n3 (pc' := 16) dL_append_15 (by decide) rfl rfl ?_
      refine v_iconst (pc' := 17) dL_append_16 kc_2 rfl ?_
      exact v_iret dL_append_17 rfl (by decide) (by decide) ⟨by rw [hk]; rfl, rfl, hs, fun h => (by rw [hk] at h; cases h), by rw [hk, if_neg (by decide)]; exact hA', fun q hq _ => hF' q hq⟩
end LAW
