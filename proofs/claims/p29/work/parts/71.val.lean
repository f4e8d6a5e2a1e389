/-! what the law's calls answer where their arguments are good -/
theorem exv_0 {xs : List Int32} {k : Nat} {v : Int32} (h : k = 0) : exv xs k v = v := by rw [h]; rfl
theorem exs_0 {k : Nat} {S S' : zS} (h : k = 0) : exs k S' S = S' := by rw [h]; rfl
section VAL
variable {S : zS} {x b c3 : Int32} {t s n : Nat}
theorem x_ab (w : Nat) (hw : w ≤ 8) (hx : x = nI w) : cv_2 S x b c3 = v_about S.1 w := by
  subst hx
  unfold cv_2
  rw [exv_0, nI_clamp (by omega)]
  unfold e_about
  exact if_pos (z_in_of (lo := 0) (hi := 8) (by omega) hw (by omega))
theorem x_ab0 : cv_2 S 0 b c3 = S.1 0 := by
  refine (x_ab 0 (by omega) rfl).trans ?_
  simp [v_about]
theorem x_ab2 : cv_2 S 2 b c3 = p_running S.1 := by
  refine (x_ab 2 (by omega) rfl).trans ?_
  simp [v_about]
theorem x_ab3 : cv_2 S 3 b c3 = p_frn S.1 12 0 0 := by
  refine (x_ab 3 (by omega) rfl).trans ?_
  simp [v_about]
theorem x_ab4 : cv_2 S 4 b c3 = p_lonn S.1 12 0 0 := by
  refine (x_ab 4 (by omega) rfl).trans ?_
  simp [v_about]
theorem x_ab6 : cv_2 S 6 b c3 = S.1 2 := by
  refine (x_ab 6 (by omega) rfl).trans ?_
  simp [v_about]
theorem x_ab7 : cv_2 S 7 b c3 = S.1 3 := by
  refine (x_ab 7 (by omega) rfl).trans ?_
  simp [v_about]
theorem x_ab8 : cv_2 S 8 b c3 = S.1 4 := by
  refine (x_ab 8 (by omega) rfl).trans ?_
  simp [v_about]
theorem x_task (w : Nat) (hW : WF S.1) (ht : t < cnt S.1) (hw : w ≤ 5 := by omega) (hx : x = nI w := by rfl) : cv_3 S (nI t) x c3 = tf S.1 t w := by
  subst hx
  have h6 := hW.1.1
  unfold cv_3
  rw [exv_0]
  · unfold v_task
    rw [nI_clamp (by omega), nI_clamp (by omega)]
  · unfold e_task
    rw [if_pos (p_isTask_of hW ht)]
    exact if_pos (z_in_of (lo := 0) (hi := 5) (by omega) hw (by omega))
theorem x_str (w : Nat) (hs : s < 12) (hw : w ≤ 2) : e_stripe (nI s) (nI w) = 0 := by
  unfold e_stripe
  rw [if_pos (p_isStripe_of hs)]
  exact if_pos (z_in_of (lo := 0) (hi := 2) (by omega) hw (by omega))
theorem x_str0 (hs : s < 12) : cv_4 S (nI s) 0 c3 = p_taker S.1 (nI s) := by
  unfold cv_4
  rw [exv_0 (show e_stripe (nI s) 0 = 0 from x_str 0 hs (by omega))]
  unfold v_stripe
  exact if_pos rfl
theorem x_str1 (hs : s < 12) : cv_4 S (nI s) 1 c3 = p_comer S.1 (nI s) := by
  unfold cv_4
  rw [exv_0 (show e_stripe (nI s) 1 = 0 from x_str 1 hs (by omega))]
  unfold v_stripe
  rw [if_neg (by decide), if_pos rfl]
theorem x_str2 (hs : s < 12) : cv_4 S (nI s) 2 c3 = S.1 (11 + s) := by
  unfold cv_4
  rw [exv_0 (show e_stripe (nI s) 2 = 0 from x_str 2 hs (by omega))]
  unfold v_stripe
  rw [if_neg (by decide), if_neg (by decide), nI_clamp (by omega)]
theorem x_job : cv_5 S 0 b c3 = S.1 5 := by
  unfold cv_5
  rw [exv_0 (by decide)]
  unfold v_job
  split
  · rename_i h; exact h.symm
  · rfl
theorem x_gap (h1 : 1 ≤ n) (h6 : n ≤ 6) : cv_15 S (nI n) b c3 = v_gap S.1 (nI n) := by
  unfold cv_15
  refine exv_0 ?_
  unfold e_gap
  exact if_pos (z_in_of (lo := 1) (hi := 6) h1 h6 (by omega))
theorem x_win (h1 : 1 ≤ n) (h6 : n ≤ 6) : cv_16 S (nI n) 1 c3 = v_win S.1 (nI n) 1 := by
  unfold cv_16
  refine exv_0 ?_
  unfold e_win
  refine if_pos ?_
  rw [Bool.and_eq_true]
  exact ⟨z_in_of (lo := 1) (hi := 12) h1 (by omega) (by omega), by decide⟩
theorem x_strp (hs : s < 12) : e_strp (nI s) = 0 := by
  unfold e_strp
  exact if_pos (p_isStripe_of hs)
theorem x_lost (hs : s < 12) : cv_18 S (nI s) b c3 = v_lost S.1 (nI s) := by
  unfold cv_18
  exact exv_0 (x_strp hs)
theorem x_come (w : Nat) (hW : WF S.1) (ht : t < cnt S.1) (h1 : 1 ≤ n) (h2 : n ≤ 200) (hw : w ≤ 2) : cv_17 S (nI t) (nI n) (nI w) = v_coming S.1 (nI t) (nI n) (nI w) := by
  unfold cv_17
  refine exv_0 ?_
  unfold e_coming
  rw [if_pos (p_isTask_of hW ht)]
  refine if_pos ?_
  rw [Bool.and_eq_true]
  exact ⟨z_in_of (lo := 1) (hi := 200) h1 h2 (by omega), z_in_of (lo := 0) (hi := 2) (by omega) hw (by omega)⟩
theorem x_com0 (hW : WF S.1) (ht : t < cnt S.1) (h1 : 1 ≤ n) (h2 : n ≤ 60) : cv_17 S (nI t) (nI n) 0 = tf (p_run n S.1) t 1 := by
  have h6 := hW.1.1
  refine (x_come 0 hW ht h1 (by omega) (by omega)).trans ?_
  unfold v_coming
  rw [if_pos (show nI 0 = 0 from rfl), nI_clamp (by omega), nI_clamp (by omega)]
theorem x_com1 (hW : WF S.1) (ht : t < cnt S.1) (h1 : 1 ≤ n) (h2 : n ≤ 60) : cv_17 S (nI t) (nI n) 1 = tf (p_run n S.1) t 2 := by
  have h6 := hW.1.1
  refine (x_come 1 hW ht h1 (by omega) (by omega)).trans ?_
  unfold v_coming
  rw [if_neg (by decide), if_pos (show nI 1 = 1 from rfl), nI_clamp (by omega), nI_clamp (by omega)]
theorem x_com2 (hW : WF S.1) (ht : t < cnt S.1) (h1 : 1 ≤ n) (h2 : n ≤ 60) : cv_17 S (nI t) (nI n) 2 = tf (p_run n S.1) t 3 - tf S.1 t 3 := by
  have h6 := hW.1.1
  refine (x_come 2 hW ht h1 (by omega) (by omega)).trans ?_
  unfold v_coming
  rw [if_neg (by decide), if_neg (by decide), nI_clamp (by omega), nI_clamp (by omega)]
theorem e_run0 (h1 : 1 ≤ n) (h2 : n ≤ 60) : e_run (nI n) = 0 := by
  unfold e_run
  exact if_pos (z_in_of (lo := 1) (hi := 60) h1 h2 (by omega))
theorem x_run (h1 : 1 ≤ n) (h2 : n ≤ 60) : cv_12 S (nI n) b c3 = p_run n S.1 4 - S.1 4 := by
  unfold cv_12
  rw [exv_0 (e_run0 h1 h2)]
  unfold t_runv
  rw [if_pos (show z_in (nI n) 1 60 = true from z_in_of (lo := 1) (hi := 60) h1 h2 (by omega)), nI_clamp (by omega)]
theorem s_run (h1 : 1 ≤ n) (h2 : n ≤ 60) : cs_12 S (nI n) b c3 = s_now S (p_run n S.1) := by
  unfold cs_12
  rw [exs_0 (e_run0 h1 h2)]
  unfold t_run
  rw [if_pos (show z_in (nI n) 1 60 = true from z_in_of (lo := 1) (hi := 60) h1 h2 (by omega)), nI_clamp (by omega)]
theorem am_pos (acts : Nat) : 0 < acts_more acts := by unfold acts_more; split <;> omega
theorem e_und (r' : zR) : e_undo (s_now S r') = 0 := by
  unfold e_undo
  have := am_pos S.2.1.1
  exact if_neg (by show ¬ acts_more S.2.1.1 = 0; omega)
theorem x_und (r' : zR) : cv_14 (s_now S r') x b c3 = nI (acts_more S.2.1.1 - 1) := by
  unfold cv_14
  rw [exv_0 (e_und r')]
  rfl
theorem s_und (r' : zR) : cs_14 (s_now S r') x b c3 = s_ru S := by
  unfold cs_14
  rw [exs_0 (e_und r')]
  exact undo_now S r'
theorem x_bad (hs : s < 12) : cv_10 S (nI s) b c3 = p_hurt S.1 (nI s) := by
  unfold cv_10
  rw [exv_0 (x_strp hs)]
  unfold t_badv
  exact if_pos (p_isStripe_of hs)
theorem s_bad (hs : s < 12) : cs_10 S (nI s) b c3 = s_now S (p_bad S.1 s) := by
  unfold cs_10
  rw [exs_0 (x_strp hs)]
  unfold t_bad
  rw [if_pos (p_isStripe_of hs), nI_clamp (by omega)]
end VAL
/-! what an act does: 'j' is the number that the law chooses by -/
def act_p (S : zS) (x : Int32) (j : Nat) : Int32 × zS :=
  if j = 0 then (cv_7 S (1 + (x / 16 - x / 16 / 5 * 5)) (x / 80 - x / 80 / 997 * 997) 0, cs_7 S (1 + (x / 16 - x / 16 / 5 * 5)) (x / 80 - x / 80 / 997 * 997) 0)
  else if j ≤ 5 then (cv_8 S (x / 16 - x / 16 / S.1 0 * S.1 0) (x / 96 - x / 96 / 12 * 12) 0, cs_8 S (x / 16 - x / 16 / S.1 0 * S.1 0) (x / 96 - x / 96 / 12 * 12) 0)
  else if j = 6 then (cv_10 S (x / 96 - x / 96 / 12 * 12) 0 0, cs_10 S (x / 96 - x / 96 / 12 * 12) 0 0)
  else if j ≤ 8 then (cv_11 S (x / 96 - x / 96 / 12 * 12) 0 0, cs_11 S (x / 96 - x / 96 / 12 * 12) 0 0)
  else if j = 9 then (cv_9 S (x / 16 - x / 16 / S.1 0 * S.1 0) 0 0, cs_9 S (x / 16 - x / 16 / S.1 0 * S.1 0) 0 0)
  else if j = 10 then (cv_13 S (x / 16 - x / 16 / 3 * 3) (x / 48 - x / 48 / 12 * 12) 0, cs_13 S (x / 16 - x / 16 / 3 * 3) (x / 48 - x / 48 / 12 * 12) 0)
  else if j = 11 then (if 3 ≤ S.1 0 then (cv_14 S 0 0 0, cs_14 S 0 0 0) else (-1, S))
  else if j = 12 then (if x / 16 - x / 16 / 2 * 2 = 0 then (cv_19 S (x / 32 - x / 32 / 2 * 2) 0 0, cs_19 S (x / 32 - x / 32 / 2 * 2) 0 0) else (cv_20 S (x / 32 - x / 32 / 2 * 2) 0 0, cs_20 S (x / 32 - x / 32 / 2 * 2) 0 0))
  else (cv_12 S (1 + (x / 16 - x / 16 / 20 * 20)) 0 0, cs_12 S (1 + (x / 16 - x / 16 / 20 * 20)) 0 0)
theorem exs_HS {K : Nat} {S S' : zS} {k : Nat} (h0 : HS K S) (h : k = 0 → HS K S') : HS K (exs k S' S) := by
  cases k with
  | zero => exact h rfl
  | succ k => exact h0
theorem ite_0 {p : Prop} [Decidable p] {k : Nat} (h : (if p then k else 1) = 0) : p ∧ k = 0 := by
  by_cases q : p
  · exact ⟨q, by rw [if_pos q] at h; exact h⟩
  · rw [if_neg q] at h; cases h
theorem ite_02 {p : Prop} [Decidable p] (h : (if p then 0 else 2) = 0) : p := by
  by_cases q : p
  · exact q
  · rw [if_neg q] at h; cases h
theorem cnt_bring {r : zR} (t : Nat) (s : Int32) : cnt (p_bring r t s) = cnt r := by
  refine cnt_cg ?_
  simp only [p_bring, p_br1]
  split <;> (try split) <;> simp (disch := omega) only [pk_un]
theorem cnt_stop (r : zR) (t : Nat) : cnt (p_stop r t) = cnt r := cnt_cg (by simp (disch := omega) only [p_stop, upd_hi])
theorem cnt_bad (r : zR) (s : Nat) : cnt (p_bad r s) = cnt r := by
  refine cnt_cg ?_
  unfold p_bad
  split
  · rw [pk_un (by omega), bad1_lo r s (by omega) (by omega)]
  · simp (disch := omega) only [p_off, upd_hi]; rw [pk_un (by omega), bad1_lo r s (by omega) (by omega)]
theorem HS_act {K : Nat} {S : zS} (h : HS K S) (hW : WF S.1) (m : Nat) (hm : m < 2 ^ 31) (j : Nat) : HS (K + 20) (act_p S (nI m) j).2 := by
  have hK : HS (K + 20) S := h.mono (by omega)
  have hr := h.2.1
  have now : ∀ r', HR (K + 20) r' → cnt r' = cnt S.1 → HS (K + 20) (s_now S r') := fun r' a b => HS_now h a (by omega) (by omega) (by omega)
  unfold act_p
  split
  · refine exs_HS hK (fun q => ?_)
    obtain ⟨-, q2⟩ := ite_0 q
    have q3 := ite_02 q2
    refine HS_now h ?_ (by omega : K ≤ K + 20) ?_ ?_
    · unfold t_add; rw [if_pos q3]; exact (HR_add hW hr q3 _ _).mono (by omega)
    · unfold t_add; rw [if_pos q3, cnt_add hW]; omega
    · unfold t_add; rw [if_pos q3, cnt_add hW]; omega
  split
  · refine exs_HS hK (fun q => ?_)
    obtain ⟨-, q2⟩ := ite_0 q
    have q3 := ite_02 q2
    unfold t_job
    rw [if_pos q3]
    exact now _ ((HR_bring hW hr q3).mono (by omega)) (cnt_bring _ _)
  split
  · refine exs_HS hK (fun q => ?_)
    obtain ⟨q1, -⟩ := ite_0 q
    unfold t_bad
    rw [if_pos q1]
    obtain ⟨s, hs, e⟩ := p_isStripe_nI q1
    rw [e, nI_clamp (by omega)]
    exact now _ ((HR_bad hW hr hs).mono (by omega)) (cnt_bad _ _)
  split
  · refine exs_HS hK (fun q => ?_)
    obtain ⟨q1, -⟩ := ite_0 q
    unfold t_mend
    rw [if_pos q1]
    obtain ⟨s, hs, e⟩ := p_isStripe_nI q1
    rw [e, nI_clamp (by omega)]
    exact now _ ((HR_mend hW hr s hs).mono (by omega)) (cnt_cg (pk_un (by omega)))
  split
  · refine exs_HS hK (fun q => ?_)
    obtain ⟨-, q2⟩ := ite_0 q
    have q3 := ite_02 q2
    unfold t_stop
    rw [if_pos q3]
    obtain ⟨u, hu, hu6, e, e4, e5⟩ := p_cans_nI hW q3
    rw [e, nI_clamp (by omega)]
    exact now _ ((HR_stop hW hr hu e5).mono (by omega)) (cnt_stop _ _)
  split
  · refine exs_HS hK (fun q => ?_)
    obtain ⟨q1, -⟩ := ite_0 q
    have hw : ∀ w : Nat, w < 3 → ∀ v, HS (K + 20) (s_now S (upd S.1 (8 + w) v)) := fun w hw v => now _ ((HR_lo hW hr (by omega) v).mono (by omega)) (cnt_cg (pk_un (by omega)))
    refine hw _ ?_ _
    have e := rm (d := 3) (show m / 16 < 2 ^ 31 by omega) (by omega) (by omega)
    have e16 := dv (d := 16) hm (by omega) (by omega)
    rw [show (nI m / 16 : Int32) = nI (m / 16) from e16, show nI (m / 16) - nI (m / 16) / 3 * 3 = nI (m / 16 % 3) from e]
    have := Nat.mod_lt (m / 16) (show 0 < 3 by omega)
    rw [nI_clamp (by omega)]
    omega
  split
  · split
    · rename_i q3
      refine exs_HS hK (fun q => ?_)
      have h0 : 0 < S.2.1.1 := by
        unfold e_undo at q
        split at q
        · cases q
        · omega
      refine (HS_undo h ?_ h0).mono (by omega)
      have h6 := hW.1.1
      rw [hW.1.2, Int32.le_iff_toInt_le, nI_toInt (by omega), i_3] at q3
      omega
    · exact hK
  split
  · split
    · exact exs_HS hK (fun q => (HS_save h _).mono (by omega))
    · refine exs_HS hK (fun q => ?_)
      obtain ⟨q1, q2⟩ := ite_0 q
      have q3 := ite_02 q2
      obtain ⟨c, c1, c2, e⟩ := z_in_nI (lo := 0) (hi := 1) (by omega) (by omega) q1
      refine (HS_rest h ?_ q3).mono (by omega)
      rw [e, nI_clamp (by omega)]; omega
  · have e20 := rm (d := 20) (show m / 16 < 2 ^ 31 by omega) (by omega) (by omega)
    have e16 := dv (d := 16) hm (by omega) (by omega)
    rw [show (nI m / 16 : Int32) = nI (m / 16) from e16, show nI (m / 16) - nI (m / 16) / 20 * 20 = nI (m / 16 % 20) from e20, show (1 : Int32) + nI (m / 16 % 20) = nI (1 + m / 16 % 20) from nI_add 1 _]
    have hlt := Nat.mod_lt (m / 16) (show 0 < 20 by omega)
    show HS (K + 20) (cs_12 S (nI (1 + m / 16 % 20)) 0 0)
    rw [s_run (by omega) (by omega)]
    exact now _ ((HR_run _ _ hW hr).mono (by omega)) (cnt_run _ _)
