/-! THE LAW's loop, its head (written by wip/whole/gen_head.py) -/
section HEAD
variable {E : zE} {l : Launch} {G : zG} {I : zI} {sz c d o kk nn : Nat} {S : zS} {nm : String} {hh : List (Nat × Nat × Nat × Nat)}
set_option maxRecDepth 20000 in
set_option maxHeartbeats 4000000 in
theorem law_loop (hl : l.stackTraces = false) (hK : ShK E G c) (hD : ShM E G d) (hd : d = c + 187) (hoo : o = c + 194) (ho : (o, sJ E 1) ∈ G) (hN : E.2.2.2.2.2.1 < 1000000) : ∀ (f i kk nn : Nat) (S : zS) (I : zI) (sz : Nat) (o5 o6 : Option Value), z_c1 o5 = true → z_c1 o6 = true → AbsK I c S → AbsM I d S → E.2.2.2.2.2.1 ≤ i + 4 * f → i ≤ E.2.2.2.2.2.1 + 4 → kk + f + 1 ≤ 20000 → nn + 6 * f + 6 ≤ 200000 → z_V E l (mL_law nm hh) (z_rm 10 20000 200000) 20000 200000 Q_law (kk) (nn) G I sz 23 [some (.ref E.2.2.2.2.1), some (.ref c), some (.ref d), some (.ref o), some (.int (nI i)), o5, o6] [] := by
  intro f
  induction f with
  | zero =>
    intro i kk nn S I sz o5 o6 h5 h6 hA hM hf hi4 hkk hnn
    · refine v_iload (pc' := 25) dL_law_23 rfl rfl ?_
      refine v_aload_n (pc' := 26) dL_law_25 rfl rfl ?_
      skip
      refine v_slen (pc' := 27) dL_law_26 rfl ?_
      refine v_iconst (pc' := 28) dL_law_27 kc_4 rfl ?_
      refine v_isub (pc' := 29) dL_law_28 rfl ?_
      refine v_icmp_gt (tgt := 1649) (pc' := 32) dL_law_29 (by decide) rfl (fun c_29 => ?_) (fun c_29 => ?_)
      · refine v_iconst (pc' := 1650) dL_law_1649 kc_1 rfl ?_
        exact v_zret dL_law_1650 rfl (by omega) (by omega) rfl rfl
      · exact absurd (by rw [Int32.lt_iff_toInt_lt, show (4 : Int32) = nI 4 from rfl, pk_sub_toInt (by omega) (by omega), nI_toInt (by omega)]; omega) c_29
  | succ f ih =>
    intro i kk nn S I sz o5 o6 h5 h6 hA hM hf hi4 hkk hnn
    by_cases hi : i + 3 < E.2.2.2.2.2.1
    · have hN : E.2.2.2.2.2.1 < 2 ^ 31 := by omega
      have cont : ∀ (S1 : zS) (I1 : zI) (s1 : Nat) (p5 p6 : Option Value), z_c1 p5 = true → z_c1 p6 = true → AbsK I1 c S1 → AbsM I1 d S1 → z_V E l (mL_law nm hh) (z_rm 10 20000 200000) 20000 200000 Q_law (kk + 1) (nn + 6) G I1 s1 1643 [some (.ref E.2.2.2.2.1), some (.ref c), some (.ref d), some (.ref o), some (.int (nI i)), p5, p6] [] := by
        intro S1 I1 s1 p5 p6 h5 h6 hA1 hM1
        refine v_iinc4 (pc' := 1646) dL_law_1643 (by decide) rfl kc_4 (nI_add i 4) rfl ?_
        refine v_goto (tgt := 23) dL_law_1646 (by decide) ?_
        exact ih (i + 4) (kk + 1) (nn + 6) S1 I1 s1 p5 p6 h5 h6 hA1 hM1 (by omega) (by omega) (by omega) (by omega)
      refine v_iload (pc' := 25) dL_law_23 rfl rfl ?_
      refine v_aload_n (pc' := 26) dL_law_25 rfl rfl ?_
      refine v_slen (pc' := 27) dL_law_26 rfl ?_
      refine v_iconst (pc' := 28) dL_law_27 kc_4 rfl ?_
      refine v_isub (pc' := 29) dL_law_28 rfl ?_
      refine v_icmp_gt (tgt := 1649) (pc' := 32) dL_law_29 (by decide) rfl (fun c_29 => ?_) (fun c_29 => ?_)
      · exact absurd c_29 (by rw [Int32.lt_iff_toInt_lt, show (4 : Int32) = nI 4 from rfl, pk_sub_toInt (by omega) (by omega), nI_toInt (by omega)]; omega)
      · refine v_aload_n (pc' := 33) dL_law_32 rfl rfl ?_
        refine v_iload (pc' := 35) dL_law_33 rfl rfl ?_
        refine v_sld (j := i + 0) (pc' := 36) dL_law_35 rfl (by omega) hN rfl ?_
        refine v_bipush (pc' := 38) dL_law_36 kb_31 rfl ?_
        refine v_iand (pc' := 39) dL_law_38 rfl ?_
        rw [Nat.add_zero]
        have hj : E.2.2.2.2.2.2 i &&& 31 = nI ((E.2.2.2.2.2.2 i).toBitVec.toNat % 32) := pk_and _ 5 (by decide)
        rw [hj]
        have hlt := Nat.mod_lt (E.2.2.2.2.2.2 i).toBitVec.toNat (show 0 < 32 by omega)
        generalize (E.2.2.2.2.2.2 i).toBitVec.toNat % 32 = j at hlt
        have hx : (nI j).toInt = (j : Int) := nI_toInt (by omega)
        by_cases h26 : 26 ≤ j
        · refine v_tableOut (tgt := 1643) dL_law_39 (by omega) (by decide) ?_
          exact v_widen (k1 := kk + 1) (n1 := nn + 6) (by omega) (by omega) (cont S I sz o5 o6 h5 h6 hA hM)
        rcases (by omega : j = 0 ∨ j = 1 ∨ j = 2 ∨ j = 3 ∨ j = 4 ∨ j = 5 ∨ j = 6 ∨ j = 7 ∨ j = 8 ∨ j = 9 ∨ j = 10 ∨ j = 11 ∨ j = 12 ∨ j = 13 ∨ j = 14 ∨ j = 15 ∨ j = 16 ∨ j = 17 ∨ j = 18 ∨ j = 19 ∨ j = 20 ∨ j = 21 ∨ j = 22 ∨ j = 23 ∨ j = 24 ∨ j = 25) with rfl | rfl | rfl | rfl | rfl | rfl | rfl | rfl | rfl | rfl | rfl | rfl | rfl | rfl | rfl | rfl | rfl | rfl | rfl | rfl | rfl | rfl | rfl | rfl | rfl | rfl
        · exact v_tableIn (tgt := 156) 0 dL_law_39 (by rw [hx]; omega) (by decide) rfl (by decide) (law_0 hl hK hD hd hoo ho hA hM i hi hN (by omega) (by omega) o5 o6 h5 h6 cont)
        · exact v_tableIn (tgt := 212) 1 dL_law_39 (by rw [hx]; omega) (by decide) rfl (by decide) (law_1 hl hK hD hd hoo ho hA hM i hi hN (by omega) (by omega) o5 o6 h5 h6 cont)
        · exact v_tableIn (tgt := 225) 2 dL_law_39 (by rw [hx]; omega) (by decide) rfl (by decide) (law_2 hl hK hD hd hoo ho hA hM i hi hN (by omega) (by omega) o5 o6 h5 h6 cont)
        · exact v_tableIn (tgt := 238) 3 dL_law_39 (by rw [hx]; omega) (by decide) rfl (by decide) (law_3 hl hK hD hd hoo ho hA hM i hi hN (by omega) (by omega) o5 o6 h5 h6 cont)
        · exact v_tableIn (tgt := 282) 4 dL_law_39 (by rw [hx]; omega) (by decide) rfl (by decide) (law_4 hl hK hD hd hoo ho hA hM i hi hN (by omega) (by omega) o5 o6 h5 h6 cont)
        · exact v_tableIn (tgt := 338) 5 dL_law_39 (by rw [hx]; omega) (by decide) rfl (by decide) (law_5 hl hK hD hd hoo ho hA hM i hi hN (by omega) (by omega) o5 o6 h5 h6 cont)
        · exact v_tableIn (tgt := 406) 6 dL_law_39 (by rw [hx]; omega) (by decide) rfl (by decide) (law_6 hl hK hD hd hoo ho hA hM i hi hN (by omega) (by omega) o5 o6 h5 h6 cont)
        · exact v_tableIn (tgt := 474) 7 dL_law_39 (by rw [hx]; omega) (by decide) rfl (by decide) (law_7 hl hK hD hd hoo ho hA hM i hi hN (by omega) (by omega) o5 o6 h5 h6 cont)
        · exact v_tableIn (tgt := 530) 8 dL_law_39 (by rw [hx]; omega) (by decide) rfl (by decide) (law_8 hl hK hD hd hoo ho hA hM i hi hN (by omega) (by omega) o5 o6 h5 h6 cont)
        · exact v_tableIn (tgt := 586) 9 dL_law_39 (by rw [hx]; omega) (by decide) rfl (by decide) (law_9 hl hK hD hd hoo ho hA hM i hi hN (by omega) (by omega) o5 o6 h5 h6 cont)
        · exact v_tableIn (tgt := 654) 10 dL_law_39 (by rw [hx]; omega) (by decide) rfl (by decide) (law_10 hl hK hD hd hoo ho hA hM i hi hN (by omega) (by omega) o5 o6 h5 h6 cont)
        · exact v_tableIn (tgt := 722) 11 dL_law_39 (by rw [hx]; omega) (by decide) rfl (by decide) (law_11 hl hK hD hd hoo ho hA hM i hi hN (by omega) (by omega) o5 o6 h5 h6 cont)
        · exact v_tableIn (tgt := 778) 12 dL_law_39 (by rw [hx]; omega) (by decide) rfl (by decide) (law_12 hl hK hD hd hoo ho hA hM i hi hN (by omega) (by omega) o5 o6 h5 h6 cont)
        · exact v_tableIn (tgt := 834) 13 dL_law_39 (by rw [hx]; omega) (by decide) rfl (by decide) (law_13 hl hK hD hd hoo ho hA hM i hi hN (by omega) (by omega) o5 o6 h5 h6 cont)
        · exact v_tableIn (tgt := 890) 14 dL_law_39 (by rw [hx]; omega) (by decide) rfl (by decide) (law_14 hl hK hD hd hoo ho hA hM i hi hN (by omega) (by omega) o5 o6 h5 h6 cont)
        · exact v_tableIn (tgt := 946) 15 dL_law_39 (by rw [hx]; omega) (by decide) rfl (by decide) (law_15 hl hK hD hd hoo ho hA hM i hi hN (by omega) (by omega) o5 o6 h5 h6 cont)
        · exact v_tableIn (tgt := 1014) 16 dL_law_39 (by rw [hx]; omega) (by decide) rfl (by decide) (law_16 hl hK hD hd hoo ho hA hM i hi hN (by omega) (by omega) o5 o6 h5 h6 cont)
        · exact v_tableIn (tgt := 1058) 17 dL_law_39 (by rw [hx]; omega) (by decide) rfl (by decide) (law_17 hl hK hD hd hoo ho hA hM i hi hN (by omega) (by omega) o5 o6 h5 h6 cont)
        · exact v_tableIn (tgt := 1114) 18 dL_law_39 (by rw [hx]; omega) (by decide) rfl (by decide) (law_18 hl hK hD hd hoo ho hA hM i hi hN (by omega) (by omega) o5 o6 h5 h6 cont)
        · exact v_tableIn (tgt := 1182) 19 dL_law_39 (by rw [hx]; omega) (by decide) rfl (by decide) (law_19 hl hK hD hd hoo ho hA hM i hi hN (by omega) (by omega) o5 o6 h5 h6 cont)
        · exact v_tableIn (tgt := 1195) 20 dL_law_39 (by rw [hx]; omega) (by decide) rfl (by decide) (law_20 hl hK hD hd hoo ho hA hM i hi hN (by omega) (by omega) o5 o6 h5 h6 cont)
        · exact v_tableIn (tgt := 1275) 21 dL_law_39 (by rw [hx]; omega) (by decide) rfl (by decide) (law_21 hl hK hD hd hoo ho hA hM i hi hN (by omega) (by omega) o5 o6 h5 h6 cont)
        · exact v_tableIn (tgt := 1331) 22 dL_law_39 (by rw [hx]; omega) (by decide) rfl (by decide) (law_22 hl hK hD hd hoo ho hA hM i hi hN (by omega) (by omega) o5 o6 h5 h6 cont)
        · exact v_tableIn (tgt := 1431) 23 dL_law_39 (by rw [hx]; omega) (by decide) rfl (by decide) (law_23 hl hK hD hd hoo ho hA hM i hi hN (by omega) (by omega) o5 o6 h5 h6 cont)
        · exact v_tableIn (tgt := 1531) 24 dL_law_39 (by rw [hx]; omega) (by decide) rfl (by decide) (law_24 hl hK hD hd hoo ho hA hM i hi hN (by omega) (by omega) o5 o6 h5 h6 cont)
        · exact v_tableIn (tgt := 1587) 25 dL_law_39 (by rw [hx]; omega) (by decide) rfl (by decide) (law_25 hl hK hD hd hoo ho hA hM i hi hN (by omega) (by omega) o5 o6 h5 h6 cont)
    · refine v_iload (pc' := 25) dL_law_23 rfl rfl ?_
      refine v_aload_n (pc' := 26) dL_law_25 rfl rfl ?_
      skip
      refine v_slen (pc' := 27) dL_law_26 rfl ?_
      refine v_iconst (pc' := 28) dL_law_27 kc_4 rfl ?_
      refine v_isub (pc' := 29) dL_law_28 rfl ?_
      refine v_icmp_gt (tgt := 1649) (pc' := 32) dL_law_29 (by decide) rfl (fun c_29 => ?_) (fun c_29 => ?_)
      · refine v_iconst (pc' := 1650) dL_law_1649 kc_1 rfl ?_
        exact v_zret dL_law_1650 rfl (by omega) (by omega) rfl rfl
      · exact absurd (by rw [Int32.lt_iff_toInt_lt, show (4 : Int32) = nI 4 from rfl, pk_sub_toInt (by omega) (by omega), nI_toInt (by omega)]; omega) c_29

end HEAD
