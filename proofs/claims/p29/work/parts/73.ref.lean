/-! what the law's calls answer where they are refused by their arguments -/
theorem z_hi {x lo hi : Int32} (h : hi.toInt < x.toInt) : z_in x lo hi = false := by
  unfold z_in
  rw [Bool.and_eq_false_iff]
  right
  rw [decide_eq_false_iff_not, Int32.le_iff_toInt_le]
  omega
theorem z_lo {x lo hi : Int32} (h : x.toInt < lo.toInt) : z_in x lo hi = false := by
  unfold z_in
  rw [Bool.and_eq_false_iff]
  left
  rw [decide_eq_false_iff_not, Int32.le_iff_toInt_le]
  omega
theorem o_hi {lo : Int32} (a b hi : Nat) (h : hi < a + b) (hs : a + b < 2 ^ 31) : z_in (nI a + nI b) lo (nI hi) = false := by
  refine z_hi ?_
  rw [nI_add, nI_toInt hs, nI_toInt (by omega)]
  omega
theorem m1_toInt {b : Nat} (hb : b < 2 ^ 30) : (-1 - nI b : Int32).toInt = -1 - b := by
  have := nI_toInt (show b < 2 ^ 31 by omega)
  rw [I32_sub (by rw [i_m1]; omega) (by rw [i_m1]; omega), i_m1, this]
theorem o_lo {lo hi : Int32} {b : Nat} (hb : b < 2 ^ 30) (h : 0 ≤ lo.toInt) : z_in (-1 - nI b) lo hi = false := z_lo (by rw [m1_toInt hb]; omega)
theorem far_out {r : zR} (hW : WF r) (h1 : 1 ≤ cnt r) {y : Nat} (hy : y < 2 ^ 20) : p_isTask r (r 0 + nI y) = false := by
  have h6 := hW.1.1
  obtain ⟨c, hc⟩ : ∃ c, cnt r = c + 1 := ⟨cnt r - 1, by omega⟩
  unfold p_isTask
  rw [hW.1.2, hc, nI_pred]
  exact o_hi (c + 1) y c (by omega) (by omega)
section REF
variable {S : zS} {a b c3 : Int32}
theorem r_append (h : z_in a 0 255 = false) : cv_0 S a b c3 = -9999002 ∧ cs_0 S a b c3 = S := by
  have e : e_append S a = 1 := by unfold e_append; rw [h]; rfl
  unfold cv_0 cs_0; rw [e]; exact ⟨rfl, rfl⟩
theorem r_about (h : z_in a 0 8 = false) : cv_2 S a b c3 = -9999002 := by
  have e : e_about a = 1 := by unfold e_about; rw [h]; rfl
  unfold cv_2; rw [e]; rfl
theorem r_task1 (h : p_isTask S.1 a = false) : cv_3 S a b c3 = -9999001 := by
  have e : e_task S.1 a b = 1 := by unfold e_task; rw [h]; rfl
  unfold cv_3; rw [e]; rfl
theorem r_task2 (h : p_isTask S.1 a = true) (h2 : z_in b 0 5 = false) : cv_3 S a b c3 = -9999002 := by
  have e : e_task S.1 a b = 2 := by unfold e_task; rw [h, h2]; rfl
  unfold cv_3; rw [e]; rfl
theorem r_str1 (h : p_isStripe a = false) : cv_4 S a b c3 = -9999001 := by
  have e : e_stripe a b = 1 := by unfold e_stripe; rw [h]; rfl
  unfold cv_4; rw [e]; rfl
theorem r_str2 (h : p_isStripe a = true) (h2 : z_in b 0 2 = false) : cv_4 S a b c3 = -9999002 := by
  have e : e_stripe a b = 2 := by unfold e_stripe; rw [h, h2]; rfl
  unfold cv_4; rw [e]; rfl
theorem r_job (h : z_in a 0 2 = false) : cv_5 S a b c3 = -9999002 := by
  have e : e_job a = 1 := by unfold e_job; rw [h]; rfl
  unfold cv_5; rw [e]; rfl
theorem r_setting (h : z_in a 0 2 = false) : cv_6 S a b c3 = -9999002 := by
  have e : e_job a = 1 := by unfold e_job; rw [h]; rfl
  unfold cv_6; rw [e]; rfl
theorem r_add (h : (z_in a 1 6 && z_in b 0 996) = false) : cv_7 S a b c3 = -9999002 ∧ cs_7 S a b c3 = S := by
  have e : e_add S.1 a b = 1 := by unfold e_add; rw [h]; rfl
  unfold cv_7 cs_7; rw [e]; exact ⟨rfl, rfl⟩
theorem r_bring (h : (p_isTask S.1 a && p_isStripe b) = false) : cv_8 S a b c3 = -9999001 ∧ cs_8 S a b c3 = S := by
  have e : e_bring S.1 a b = 1 := by unfold e_bring; rw [h]; rfl
  unfold cv_8 cs_8; rw [e]; exact ⟨rfl, rfl⟩
theorem r_stop (h : p_isTask S.1 a = false) : cv_9 S a b c3 = -9999001 ∧ cs_9 S a b c3 = S := by
  have e : e_stop S.1 a = 1 := by unfold e_stop; rw [h]; rfl
  unfold cv_9 cs_9; rw [e]; exact ⟨rfl, rfl⟩
theorem r_strp (h : p_isStripe a = false) : e_strp a = 1 := by unfold e_strp; rw [h]; rfl
theorem r_bad (h : p_isStripe a = false) : cv_10 S a b c3 = -9999001 ∧ cs_10 S a b c3 = S := by
  unfold cv_10 cs_10; rw [r_strp h]; exact ⟨rfl, rfl⟩
theorem r_mend (h : p_isStripe a = false) : cv_11 S a b c3 = -9999001 ∧ cs_11 S a b c3 = S := by
  unfold cv_11 cs_11; rw [r_strp h]; exact ⟨rfl, rfl⟩
theorem r_run (h : z_in a 1 60 = false) : cv_12 S a b c3 = -9999002 ∧ cs_12 S a b c3 = S := by
  have e : e_run a = 1 := by unfold e_run; rw [h]; rfl
  unfold cv_12 cs_12; rw [e]; exact ⟨rfl, rfl⟩
theorem r_lay (h : p_isSet a b = false) : cv_13 S a b c3 = -9999002 ∧ cs_13 S a b c3 = S := by
  have e : e_set a b = 1 := by unfold e_set; rw [h]; rfl
  unfold cv_13 cs_13; rw [e]; exact ⟨rfl, rfl⟩
theorem r_gap (h : z_in a 1 6 = false) : cv_15 S a b c3 = -9999002 := by
  have e : e_gap a = 1 := by unfold e_gap; rw [h]; rfl
  unfold cv_15; rw [e]; rfl
theorem r_win (h : (z_in a 1 12 && z_in b 0 1) = false) : cv_16 S a b c3 = -9999002 := by
  have e : e_win a b = 1 := by unfold e_win; rw [h]; rfl
  unfold cv_16; rw [e]; rfl
theorem r_com1 (h : p_isTask S.1 a = false) : cv_17 S a b c3 = -9999001 := by
  have e : e_coming S.1 a b c3 = 1 := by unfold e_coming; rw [h]; rfl
  unfold cv_17; rw [e]; rfl
theorem r_com2 (h : p_isTask S.1 a = true) (h2 : (z_in b 1 200 && z_in c3 0 2) = false) : cv_17 S a b c3 = -9999002 := by
  have e : e_coming S.1 a b c3 = 2 := by unfold e_coming; rw [h, h2]; rfl
  unfold cv_17; rw [e]; rfl
theorem r_lost (h : p_isStripe a = false) : cv_18 S a b c3 = -9999001 := by
  unfold cv_18; rw [r_strp h]; rfl
theorem r_keep (h : z_in a 0 1 = false) : cv_19 S a b c3 = -9999001 ∧ cs_19 S a b c3 = S := by
  have e : e_slot a = 1 := by unfold e_slot; rw [h]; rfl
  unfold cv_19 cs_19; rw [e]; exact ⟨rfl, rfl⟩
theorem r_back (h : z_in a 0 1 = false) : cv_20 S a b c3 = -9999001 ∧ cs_20 S a b c3 = S := by
  have e : e_rest S a = 1 := by unfold e_rest; rw [h]; rfl
  unfold cv_20 cs_20; rw [e]; exact ⟨rfl, rfl⟩
end REF
theorem set_out {w v : Int32} (h1 : z_in v 1 9 = false) (h2 : z_in v 0 20 = false) (h3 : z_in v 1 99 = false) : p_isSet w v = false := by
  unfold p_isSet
  rw [h1, h2, h3, Bool.and_false, Bool.and_false, Bool.and_false]
  rfl
theorem set_out0 {y : Nat} (hy : y < 2) : p_isSet (2 * nI y) 0 = false := by
  rcases (by omega : y = 0 ∨ y = 1) with rfl | rfl <;> decide
theorem scr_0 : e_script 0 0 = 1 := by
  unfold e_script
  rw [show z_in 0 1 3 = false from by decide]
  rfl
theorem scr_1 {m : Nat} (hm : m < 100000) : e_script 1 (100000 + (nI m).toInt64) = 1 := by
  have e : (100000 + (nI m).toInt64 : Int64).toInt = 100000 + m := by
    rw [Int64.toInt_add, Int32.toInt_toInt64, nI_toInt (by omega), show (100000 : Int64).toInt = 100000 from by decide]
    exact Int.bmod_eq_of_le (by omega) (by omega)
  unfold e_script
  rw [e]
  refine if_neg (fun q => ?_)
  simp only [Bool.and_eq_true, decide_eq_true_eq] at q
  have := q.2.2
  rw [show (1 : Int32).toNatClampNeg = 1 from by decide] at this
  omega
