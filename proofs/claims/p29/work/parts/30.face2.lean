/-! THE CLASS's own methods, on (written by wip/whole/gen_face2.py) -/
def e_script (n : Int32) (s : Int64) : Nat := if z_in n 1 3 && (decide (0 ≤ s) && decide (s.toInt.toNat / 100000 ^ n.toNatClampNeg = 0)) then 0 else 1
def q_grp (s n i : Nat) : Nat := s / 100000 ^ (n - 1 - i) % 100000
def q_script (s n : Nat) : Nat → Nat → zR → Int32
  | 0, _, _ => -1
  | f + 1, i, r => if q_gb r (q_grp s n i / 10000) (q_grp s n i % 10000) then q_script s n f (i + 1) (q_g r (q_grp s n i / 10000) (q_grp s n i % 10000)) else nI i
def v_script (r : zR) (n : Int32) (s : Int64) : Int32 := q_script s.toInt.toNat n.toNatClampNeg n.toNatClampNeg 0 r
def q_nx (x : Int64) : Int64 := x * 6364136223846793005 + 1442695040888963407
def q_x (x : Int64) : Nat := x.toBitVec.toNat / 2 ^ 33
def q_sim (g : Int64 → Int64) : Nat → Int64 → zR → zR
  | 0, _, r => r
  | f + 1, x, r => q_sim g f (g x) (q_turn r (q_x (g x)))
def v_simg (g : Int64 → Int64) (r : zR) (x : Int64) (m : Int32) : Int32 := 10000 * p_running (q_sim g m.toNatClampNeg x r) + (if 9999 < q_sim g m.toNatClampNeg x r 4 - r 4 then 9999 else q_sim g m.toNatClampNeg x r 4 - r 4)
def v_sim (r : zR) (x : Int64) (m : Int32) : Int32 := v_simg q_nx r x m
def e_sim (m : Int32) : Nat := if z_in m 1 60 then 0 else 1
section FACE2
variable {E : zE} {l : Launch} {G : zG} {I : zI} {sz c : Nat} {S : zS}
set_option maxRecDepth 20000 in
set_option maxHeartbeats 4000000 in
theorem k_set0 (hl : l.stackTraces = false) (hK : ShK E G c) (hA : AbsK I c S) (v : Int32) : z_CK E l mX4_set [.ref c, .int (nI 0), .int v] G I sz c [nIAE] (e_set (nI 0) v) (S.1 (8 + 0)) S (s_now S (upd S.1 (8 + 0) v)) := by
  obtain ⟨k0, kT, kN, kTr, kH, kSl, kF, kS⟩ := id hK
  obtain ⟨aX, aN, aW, aH, aF, aS⟩ := id hA
  have hs : p_isSet (nI 0) v = z_in v 1 9 := by
    unfold p_isSet
    rw [show decide (nI 0 = 0) = true by decide, show decide (nI 0 = 1) = false by decide, show decide (nI 0 = 2) = false by decide]
    simp
  refine z_Cx.of hl pn_X4 [some (.ref c), some (.int (nI 0)), some (.int v), none] rfl (Nat.le_of_ble_eq_true rfl) ?_
  refine v_iload_n (pc' := 1) dX4_set_0 rfl rfl ?_
  refine v_cSR (pc' := 4) (c4_isSetting hl (nI 0)) dX4_set_1 lk_X4_170 mwX4_isSetting msX4_isSetting rfl rfl (by decide) (Nat.le_of_ble_eq_true rfl) rfl ?_
  refine v_if_eq (tgt := 24) (pc' := 7) dX4_set_4 (by decide) rfl (fun c_4 => ?_) (fun c_4 => ?_)
  · exact absurd c_4 (by decide)
  · refine v_iload_n (pc' := 8) dX4_set_7 rfl rfl ?_
    refine v_gets (pc' := 11) dX4_set_8 fl_X4_219 (fun U H h => h.2.1) rfl ?_
    refine v_iload_n (pc' := 12) dX4_set_11 rfl rfl ?_
    refine v_sald (j := 0) (pc' := 13) dX4_set_12 (fun U H h => h.2.1) rfl (by omega) rfl ?_
    refine v_gets (pc' := 16) dX4_set_13 fl_X4_222 (fun U H h => h.2.2.1) rfl ?_
    refine v_iload_n (pc' := 17) dX4_set_16 rfl rfl ?_
    refine v_sald (j := 0) (pc' := 18) dX4_set_17 (fun U H h => h.2.2.1) rfl (by omega) rfl ?_
    show z_V _ _ _ _ _ _ _ _ _ _ _ _ _ _ (.int 9 :: .int 1 :: _)
    refine v_cSR (pc' := 21) (c4_isBetween hl (v) 1 9) dX4_set_18 lk_X4_41 mwX4_isBetween msX4_isBetween rfl rfl (by decide) (Nat.le_of_ble_eq_true rfl) rfl ?_
    refine v_if_ne (tgt := 32) (pc' := 24) dX4_set_21 (by decide) rfl (fun c_21 => ?_) (fun c_21 => ?_)
    · first | rw [z_b_ne0] at c_21 | rw [z_b_eq0] at c_21
      refine v_aload_n (pc' := 33) dX4_set_32 rfl rfl ?_
      refine g_X4_29 (pc' := 36) rfl dX4_set_33 (by assumption) rfl ?_
      refine v_aload_n (pc' := 37) dX4_set_36 rfl rfl ?_
      refine g_X4_19 (pc' := 40) rfl dX4_set_37 (by assumption) rfl ?_
      refine v_cVV (pc' := 43) (c0_remember hl kH aH kN aN aW (by omega)) dX4_set_40 lk_X4_186 mwX0_remember miX0_remember kH.1 rfl rfl rfl rfl (by decide) (Nat.le_of_ble_eq_true rfl) rfl ?_
      rintro I2 ⟨hH2, hFH⟩
      have hK2 := hA.hist hH2 hFH
      obtain ⟨-, aN2, -, -, -, -⟩ := id hK2
      refine v_aload_n (pc' := 44) dX4_set_43 rfl rfl ?_
      refine g_X4_19 (pc' := 47) rfl dX4_set_44 (by assumption) rfl ?_
      refine g_X4_173 (pc' := 50) rfl dX4_set_47 kN.1 rfl ?_
      refine v_iload_n (pc' := 51) dX4_set_50 rfl rfl ?_
      refine v_iald (pc' := 52) dX4_set_51 (0) rfl kN.2.2.2.1 (by omega) (by decide) rfl ?_
      refine v_istore_n3 (pc' := 53) dX4_set_52 (by decide) rfl rfl ?_
      refine v_aload_n (pc' := 54) dX4_set_53 rfl rfl ?_
      refine g_X4_19 (pc' := 57) rfl dX4_set_54 (by assumption) rfl ?_
      refine g_X4_173 (pc' := 60) rfl dX4_set_57 kN.1 rfl ?_
      refine v_iload_n (pc' := 61) dX4_set_60 rfl rfl ?_
      refine v_iload_n (pc' := 62) dX4_set_61 rfl rfl ?_
      refine v_iast (pc' := 63) dX4_set_62 (0) rfl kN.2.2.2.1 (by omega) (by decide) rfl ?_
      refine v_iload_n (pc' := 64) dX4_set_63 rfl rfl ?_
      exact v_iret dX4_set_64 rfl (by decide) (by decide) ⟨rfl, Nat.le_refl _, by rw [e_set, hs, c_21]; rfl, _, rfl, aN2.2.2.1 0 (by omega), hK2.now (aN2.set 0 v (by omega) aW.1.1) (WF_set aW 0 v (by obtain ⟨a, a1, a2, rfl⟩ := z_in_nI (lo := 1) (hi := 9) (by omega) (by omega) c_21; rw [nI_toInt (by omega)]; omega)) (Fr.up (by omega)), (FrK.hs hFH).tr (FrK.up (by omega))⟩
    · first | rw [z_b_ne0] at c_21 | rw [z_b_eq0] at c_21
      exact v_iae rfl rfl dX4_set_24 dX4_set_27 dX4_set_28 dX4_set_31 (by decide) (by decide) (fun sz' h9 => ⟨rfl, h9, by rw [e_set, hs, c_21]; rfl, hA, FrK.rf⟩)
set_option maxRecDepth 20000 in
set_option maxHeartbeats 4000000 in
theorem k_set1 (hl : l.stackTraces = false) (hK : ShK E G c) (hA : AbsK I c S) (v : Int32) : z_CK E l mX4_set [.ref c, .int (nI 1), .int v] G I sz c [nIAE] (e_set (nI 1) v) (S.1 (8 + 1)) S (s_now S (upd S.1 (8 + 1) v)) := by
  obtain ⟨k0, kT, kN, kTr, kH, kSl, kF, kS⟩ := id hK
  obtain ⟨aX, aN, aW, aH, aF, aS⟩ := id hA
  have hs : p_isSet (nI 1) v = z_in v 0 20 := by
    unfold p_isSet
    rw [show decide (nI 1 = 0) = false by decide, show decide (nI 1 = 1) = true by decide, show decide (nI 1 = 2) = false by decide]
    simp
  refine z_Cx.of hl pn_X4 [some (.ref c), some (.int (nI 1)), some (.int v), none] rfl (Nat.le_of_ble_eq_true rfl) ?_
  refine v_iload_n (pc' := 1) dX4_set_0 rfl rfl ?_
  refine v_cSR (pc' := 4) (c4_isSetting hl (nI 1)) dX4_set_1 lk_X4_170 mwX4_isSetting msX4_isSetting rfl rfl (by decide) (Nat.le_of_ble_eq_true rfl) rfl ?_
  refine v_if_eq (tgt := 24) (pc' := 7) dX4_set_4 (by decide) rfl (fun c_4 => ?_) (fun c_4 => ?_)
  · exact absurd c_4 (by decide)
  · refine v_iload_n (pc' := 8) dX4_set_7 rfl rfl ?_
    refine v_gets (pc' := 11) dX4_set_8 fl_X4_219 (fun U H h => h.2.1) rfl ?_
    refine v_iload_n (pc' := 12) dX4_set_11 rfl rfl ?_
    refine v_sald (j := 1) (pc' := 13) dX4_set_12 (fun U H h => h.2.1) rfl (by omega) rfl ?_
    refine v_gets (pc' := 16) dX4_set_13 fl_X4_222 (fun U H h => h.2.2.1) rfl ?_
    refine v_iload_n (pc' := 17) dX4_set_16 rfl rfl ?_
    refine v_sald (j := 1) (pc' := 18) dX4_set_17 (fun U H h => h.2.2.1) rfl (by omega) rfl ?_
    show z_V _ _ _ _ _ _ _ _ _ _ _ _ _ _ (.int 20 :: .int 0 :: _)
    refine v_cSR (pc' := 21) (c4_isBetween hl (v) 0 20) dX4_set_18 lk_X4_41 mwX4_isBetween msX4_isBetween rfl rfl (by decide) (Nat.le_of_ble_eq_true rfl) rfl ?_
    refine v_if_ne (tgt := 32) (pc' := 24) dX4_set_21 (by decide) rfl (fun c_21 => ?_) (fun c_21 => ?_)
    · first | rw [z_b_ne0] at c_21 | rw [z_b_eq0] at c_21
      refine v_aload_n (pc' := 33) dX4_set_32 rfl rfl ?_
      refine g_X4_29 (pc' := 36) rfl dX4_set_33 (by assumption) rfl ?_
      refine v_aload_n (pc' := 37) dX4_set_36 rfl rfl ?_
      refine g_X4_19 (pc' := 40) rfl dX4_set_37 (by assumption) rfl ?_
      refine v_cVV (pc' := 43) (c0_remember hl kH aH kN aN aW (by omega)) dX4_set_40 lk_X4_186 mwX0_remember miX0_remember kH.1 rfl rfl rfl rfl (by decide) (Nat.le_of_ble_eq_true rfl) rfl ?_
      rintro I2 ⟨hH2, hFH⟩
      have hK2 := hA.hist hH2 hFH
      obtain ⟨-, aN2, -, -, -, -⟩ := id hK2
      refine v_aload_n (pc' := 44) dX4_set_43 rfl rfl ?_
      refine g_X4_19 (pc' := 47) rfl dX4_set_44 (by assumption) rfl ?_
      refine g_X4_173 (pc' := 50) rfl dX4_set_47 kN.1 rfl ?_
      refine v_iload_n (pc' := 51) dX4_set_50 rfl rfl ?_
      refine v_iald (pc' := 52) dX4_set_51 (1) rfl kN.2.2.2.1 (by omega) (by decide) rfl ?_
      refine v_istore_n3 (pc' := 53) dX4_set_52 (by decide) rfl rfl ?_
      refine v_aload_n (pc' := 54) dX4_set_53 rfl rfl ?_
      refine g_X4_19 (pc' := 57) rfl dX4_set_54 (by assumption) rfl ?_
      refine g_X4_173 (pc' := 60) rfl dX4_set_57 kN.1 rfl ?_
      refine v_iload_n (pc' := 61) dX4_set_60 rfl rfl ?_
      refine v_iload_n (pc' := 62) dX4_set_61 rfl rfl ?_
      refine v_iast (pc' := 63) dX4_set_62 (1) rfl kN.2.2.2.1 (by omega) (by decide) rfl ?_
      refine v_iload_n (pc' := 64) dX4_set_63 rfl rfl ?_
      exact v_iret dX4_set_64 rfl (by decide) (by decide) ⟨rfl, Nat.le_refl _, by rw [e_set, hs, c_21]; rfl, _, rfl, aN2.2.2.1 1 (by omega), hK2.now (aN2.set 1 v (by omega) aW.1.1) (WF_set aW 1 v (by obtain ⟨a, a1, a2, rfl⟩ := z_in_nI (lo := 0) (hi := 20) (by omega) (by omega) c_21; rw [nI_toInt (by omega)]; omega)) (Fr.up (by omega)), (FrK.hs hFH).tr (FrK.up (by omega))⟩
    · first | rw [z_b_ne0] at c_21 | rw [z_b_eq0] at c_21
      exact v_iae rfl rfl dX4_set_24 dX4_set_27 dX4_set_28 dX4_set_31 (by decide) (by decide) (fun sz' h9 => ⟨rfl, h9, by rw [e_set, hs, c_21]; rfl, hA, FrK.rf⟩)
set_option maxRecDepth 20000 in
set_option maxHeartbeats 4000000 in
theorem k_set2 (hl : l.stackTraces = false) (hK : ShK E G c) (hA : AbsK I c S) (v : Int32) : z_CK E l mX4_set [.ref c, .int (nI 2), .int v] G I sz c [nIAE] (e_set (nI 2) v) (S.1 (8 + 2)) S (s_now S (upd S.1 (8 + 2) v)) := by
  obtain ⟨k0, kT, kN, kTr, kH, kSl, kF, kS⟩ := id hK
  obtain ⟨aX, aN, aW, aH, aF, aS⟩ := id hA
  have hs : p_isSet (nI 2) v = z_in v 1 99 := by
    unfold p_isSet
    rw [show decide (nI 2 = 0) = false by decide, show decide (nI 2 = 1) = false by decide, show decide (nI 2 = 2) = true by decide]
    simp
  refine z_Cx.of hl pn_X4 [some (.ref c), some (.int (nI 2)), some (.int v), none] rfl (Nat.le_of_ble_eq_true rfl) ?_
  refine v_iload_n (pc' := 1) dX4_set_0 rfl rfl ?_
  refine v_cSR (pc' := 4) (c4_isSetting hl (nI 2)) dX4_set_1 lk_X4_170 mwX4_isSetting msX4_isSetting rfl rfl (by decide) (Nat.le_of_ble_eq_true rfl) rfl ?_
  refine v_if_eq (tgt := 24) (pc' := 7) dX4_set_4 (by decide) rfl (fun c_4 => ?_) (fun c_4 => ?_)
  · exact absurd c_4 (by decide)
  · refine v_iload_n (pc' := 8) dX4_set_7 rfl rfl ?_
    refine v_gets (pc' := 11) dX4_set_8 fl_X4_219 (fun U H h => h.2.1) rfl ?_
    refine v_iload_n (pc' := 12) dX4_set_11 rfl rfl ?_
    refine v_sald (j := 2) (pc' := 13) dX4_set_12 (fun U H h => h.2.1) rfl (by omega) rfl ?_
    refine v_gets (pc' := 16) dX4_set_13 fl_X4_222 (fun U H h => h.2.2.1) rfl ?_
    refine v_iload_n (pc' := 17) dX4_set_16 rfl rfl ?_
    refine v_sald (j := 2) (pc' := 18) dX4_set_17 (fun U H h => h.2.2.1) rfl (by omega) rfl ?_
    show z_V _ _ _ _ _ _ _ _ _ _ _ _ _ _ (.int 99 :: .int 1 :: _)
    refine v_cSR (pc' := 21) (c4_isBetween hl (v) 1 99) dX4_set_18 lk_X4_41 mwX4_isBetween msX4_isBetween rfl rfl (by decide) (Nat.le_of_ble_eq_true rfl) rfl ?_
    refine v_if_ne (tgt := 32) (pc' := 24) dX4_set_21 (by decide) rfl (fun c_21 => ?_) (fun c_21 => ?_)
    · first | rw [z_b_ne0] at c_21 | rw [z_b_eq0] at c_21
      refine v_aload_n (pc' := 33) dX4_set_32 rfl rfl ?_
      refine g_X4_29 (pc' := 36) rfl dX4_set_33 (by assumption) rfl ?_
      refine v_aload_n (pc' := 37) dX4_set_36 rfl rfl ?_
      refine g_X4_19 (pc' := 40) rfl dX4_set_37 (by assumption) rfl ?_
      refine v_cVV (pc' := 43) (c0_remember hl kH aH kN aN aW (by omega)) dX4_set_40 lk_X4_186 mwX0_remember miX0_remember kH.1 rfl rfl rfl rfl (by decide) (Nat.le_of_ble_eq_true rfl) rfl ?_
      rintro I2 ⟨hH2, hFH⟩
      have hK2 := hA.hist hH2 hFH
      obtain ⟨-, aN2, -, -, -, -⟩ := id hK2
      refine v_aload_n (pc' := 44) dX4_set_43 rfl rfl ?_
      refine g_X4_19 (pc' := 47) rfl dX4_set_44 (by assumption) rfl ?_
      refine g_X4_173 (pc' := 50) rfl dX4_set_47 kN.1 rfl ?_
      refine v_iload_n (pc' := 51) dX4_set_50 rfl rfl ?_
      refine v_iald (pc' := 52) dX4_set_51 (2) rfl kN.2.2.2.1 (by omega) (by decide) rfl ?_
      refine v_istore_n3 (pc' := 53) dX4_set_52 (by decide) rfl rfl ?_
      refine v_aload_n (pc' := 54) dX4_set_53 rfl rfl ?_
      refine g_X4_19 (pc' := 57) rfl dX4_set_54 (by assumption) rfl ?_
      refine g_X4_173 (pc' := 60) rfl dX4_set_57 kN.1 rfl ?_
      refine v_iload_n (pc' := 61) dX4_set_60 rfl rfl ?_
      refine v_iload_n (pc' := 62) dX4_set_61 rfl rfl ?_
      refine v_iast (pc' := 63) dX4_set_62 (2) rfl kN.2.2.2.1 (by omega) (by decide) rfl ?_
      refine v_iload_n (pc' := 64) dX4_set_63 rfl rfl ?_
      exact v_iret dX4_set_64 rfl (by decide) (by decide) ⟨rfl, Nat.le_refl _, by rw [e_set, hs, c_21]; rfl, _, rfl, aN2.2.2.1 2 (by omega), hK2.now (aN2.set 2 v (by omega) aW.1.1) (WF_set aW 2 v (by obtain ⟨a, a1, a2, rfl⟩ := z_in_nI (lo := 1) (hi := 99) (by omega) (by omega) c_21; rw [nI_toInt (by omega)]; omega)) (Fr.up (by omega)), (FrK.hs hFH).tr (FrK.up (by omega))⟩
    · first | rw [z_b_ne0] at c_21 | rw [z_b_eq0] at c_21
      exact v_iae rfl rfl dX4_set_24 dX4_set_27 dX4_set_28 dX4_set_31 (by decide) (by decide) (fun sz' h9 => ⟨rfl, h9, by rw [e_set, hs, c_21]; rfl, hA, FrK.rf⟩)
theorem isSet_out {w v : Int32} (h : z_in w 0 2 = false) : p_isSet w v = false := by
  unfold p_isSet
  have a : ¬ w = 0 := fun q => by rw [q] at h; exact absurd h (by decide)
  have b : ¬ w = 1 := fun q => by rw [q] at h; exact absurd h (by decide)
  have d : ¬ w = 2 := fun q => by rw [q] at h; exact absurd h (by decide)
  simp [a, b, d]
set_option maxRecDepth 20000 in
set_option maxHeartbeats 4000000 in
theorem k_setOut (hl : l.stackTraces = false) (hK : ShK E G c) (hA : AbsK I c S) (w v : Int32) (hw : z_in w 0 2 = false) : z_CK E l mX4_set [.ref c, .int w, .int v] G I sz c [nIAE] (e_set w v) (S.1 (8 + w.toNatClampNeg)) S (s_now S (upd S.1 (8 + w.toNatClampNeg) v)) := by
  obtain ⟨k0, kT, kN, kTr, kH, kSl, kF, kS⟩ := id hK
  obtain ⟨aX, aN, aW, aH, aF, aS⟩ := id hA
  refine z_Cx.of hl pn_X4 [some (.ref c), some (.int w), some (.int v), none] rfl (Nat.le_of_ble_eq_true rfl) ?_
  refine v_iload_n (pc' := 1) dX4_set_0 rfl rfl ?_
  refine v_cSR (pc' := 4) (c4_isSetting hl w) dX4_set_1 lk_X4_170 mwX4_isSetting msX4_isSetting rfl rfl (by decide) (Nat.le_of_ble_eq_true rfl) rfl ?_
  refine v_if_eq (tgt := 24) (pc' := 7) dX4_set_4 (by decide) rfl (fun c_4 => ?_) (fun c_4 => ?_)
  · exact v_iae rfl rfl dX4_set_24 dX4_set_27 dX4_set_28 dX4_set_31 (by decide) (by decide) (fun sz' h9 => ⟨rfl, h9, by rw [e_set, isSet_out hw]; rfl, hA, FrK.rf⟩)
  · rw [hw] at c_4
    exact absurd rfl c_4
theorem k_set (hl : l.stackTraces = false) (hK : ShK E G c) (hA : AbsK I c S) (w v : Int32) : z_CK E l mX4_set [.ref c, .int w, .int v] G I sz c [nIAE] (e_set w v) (S.1 (8 + w.toNatClampNeg)) S (s_now S (upd S.1 (8 + w.toNatClampNeg) v)) := by
  cases hw : z_in w 0 2 with
  | false => exact k_setOut hl hK hA w v hw
  | true =>
    obtain ⟨q, q1, q2, rfl⟩ := z_in_nI (lo := 0) (hi := 2) (by omega) (by omega) hw
    rw [nI_clamp (by omega)]
    rcases (by omega : q = 0 ∨ q = 1 ∨ q = 2) with rfl | rfl | rfl
    · exact k_set0 hl hK hA v
    · exact k_set1 hl hK hA v
    · exact k_set2 hl hK hA v
set_option maxRecDepth 20000 in
set_option maxHeartbeats 4000000 in
theorem k_undo (hl : l.stackTraces = false) (hK : ShK E G c) (hA : AbsK I c S) : z_CK E l mX4_undo [.ref c] G I sz c [nISE] (e_undo S) (nI (S.2.1.1 - 1)) S (s_undo S) := by
  obtain ⟨k0, kT, kN, kTr, kH, kSl, kF, kS⟩ := id hK
  obtain ⟨aX, aN, aW, aH, aF, aS⟩ := id hA
  obtain ⟨ao, aho, ag1, ag2, ah14, ahst⟩ := id aH
  refine z_Cx.of hl pn_X4 [some (.ref c)] rfl (Nat.le_of_ble_eq_true rfl) ?_
  refine v_aload_n (pc' := 1) dX4_undo_0 rfl rfl ?_
  refine g_X4_29 (pc' := 4) rfl dX4_undo_1 (by assumption) rfl ?_
  refine g_X4_225 (pc' := 7) rfl dX4_undo_4 kH.1 rfl ?_
  rw [ag2, ]
  refine v_if_ne (tgt := 18) (pc' := 10) dX4_undo_7 (by decide) rfl (fun c_7 => ?_) (fun c_7 => ?_)
  · rw [nI_is0 (by omega)] at c_7
    refine v_aload_n (pc' := 19) dX4_undo_18 rfl rfl ?_
    refine g_X4_29 (pc' := 22) rfl dX4_undo_19 (by assumption) rfl ?_
    refine v_aload_n (pc' := 23) dX4_undo_22 rfl rfl ?_
    refine g_X4_19 (pc' := 26) rfl dX4_undo_23 (by assumption) rfl ?_
    refine v_cVI (pc' := 29) (c0_takeBack hl kH aH kN (by omega) (by omega)) dX4_undo_26 lk_X4_228 mwX0_takeBack miX0_takeBack kH.1 rfl rfl rfl rfl (by decide) (Nat.le_of_ble_eq_true rfl) rfl ?_
    rintro _ I2 ⟨rfl, hH2, hA2, hW2, hF2⟩
    exact v_iret dX4_undo_29 rfl (by decide) (by decide) ⟨rfl, Nat.le_refl _, by simp [e_undo, ex, *], _, rfl, rfl, ⟨aX.agree (fun q q1 q2 => hF2 q (by omega) (by omega)), hA2, hW2, hH2, fun j hj => by rw [hF2 _ (by omega) (by omega)]; exact aF j hj, fun j hj hf => ⟨(aS j hj hf).1.agree (aS j hj hf).2.1.1 (fun q q1 q2 => hF2 q (by omega) (by omega)), (aS j hj hf).2⟩⟩, fun q hq => hF2 q (by omega) (by omega)⟩
  · rw [nI_is0 (by omega)] at c_7
    exact v_ise rfl rfl dX4_undo_10 dX4_undo_13 dX4_undo_14 dX4_undo_17 (by decide) (by decide) (fun sz' h9 => ⟨rfl, h9, by simp [e_undo, ex, *], hA, FrK.rf⟩)
set_option maxRecDepth 20000 in
set_option maxHeartbeats 4000000 in
theorem k_bestGap (hl : l.stackTraces = false) (hK : ShK E G c) (hA : AbsK I c S) (x : Int32) : z_CK E l mX4_bestGap [.ref c, .int x] G I sz c [nIAE] (e_gap x) (v_gap S.1 x) S (S) := by
  obtain ⟨k0, kT, kN, kTr, kH, kSl, kF, kS⟩ := id hK
  obtain ⟨aX, aN, aW, aH, aF, aS⟩ := id hA
  refine z_Cx.of hl pn_X4 [some (.ref c), some (.int x)] rfl (Nat.le_of_ble_eq_true rfl) ?_
  refine v_iload_n (pc' := 1) dX4_bestGap_0 rfl rfl ?_
  refine v_cSR (pc' := 4) (c4_isWidth hl x) dX4_bestGap_1 lk_X4_177 mwX4_isWidth msX4_isWidth rfl rfl (by decide) (Nat.le_of_ble_eq_true rfl) rfl ?_
  refine v_if_ne (tgt := 15) (pc' := 7) dX4_bestGap_4 (by decide) rfl (fun c_4 => ?_) (fun c_4 => ?_)
  · first | rw [z_b_ne0] at c_4 | rw [z_b_eq0] at c_4
    refine v_aload_n (pc' := 16) dX4_bestGap_15 rfl rfl ?_
    refine g_X4_19 (pc' := 19) rfl dX4_bestGap_16 (by assumption) rfl ?_
    refine v_iload_n (pc' := 20) dX4_bestGap_19 rfl rfl ?_
    refine v_cVR (pc' := 23) (c1_shortestGap hl kN aN aW x) dX4_bestGap_20 lk_X4_232 mwX1_shortestGap miX1_shortestGap kN.1 rfl rfl rfl rfl (by decide) (Nat.le_of_ble_eq_true rfl) rfl ?_
    exact v_iret dX4_bestGap_23 rfl (by decide) (by decide) ⟨rfl, Nat.le_refl _, by simp [e_gap, ex, *], _, rfl, by first | rfl | (simp [*]; done), hA, FrK.rf⟩
  · first | rw [z_b_ne0] at c_4 | rw [z_b_eq0] at c_4
    exact v_iae rfl rfl dX4_bestGap_7 dX4_bestGap_10 dX4_bestGap_11 dX4_bestGap_14 (by decide) (by decide) (fun sz' h9 => ⟨rfl, h9, by simp [e_gap, ex, *], hA, FrK.rf⟩)
set_option maxRecDepth 20000 in
set_option maxHeartbeats 4000000 in
theorem k_idleIn (hl : l.stackTraces = false) (hK : ShK E G c) (hA : AbsK I c S) : z_CK E l mX4_idleIn [.ref c] G I sz c [] (0) (p_idle S.1) S (S) := by
  obtain ⟨k0, kT, kN, kTr, kH, kSl, kF, kS⟩ := id hK
  obtain ⟨aX, aN, aW, aH, aF, aS⟩ := id hA
  refine z_Cx.of hl pn_X4 [some (.ref c)] rfl (Nat.le_of_ble_eq_true rfl) ?_
  refine v_aload_n (pc' := 1) dX4_idleIn_0 rfl rfl ?_
  refine g_X4_19 (pc' := 4) rfl dX4_idleIn_1 (by assumption) rfl ?_
  refine v_cVR (pc' := 7) (c1_idle hl kN aN aW) dX4_idleIn_4 lk_X4_241 mwX1_ticksUntilIdle miX1_ticksUntilIdle kN.1 rfl rfl rfl rfl (by decide) (Nat.le_of_ble_eq_true rfl) rfl ?_
  exact v_iret dX4_idleIn_7 rfl (by decide) (by decide) ⟨rfl, Nat.le_refl _, by simp [ex, ex, *], _, rfl, by first | rfl | (simp [*]; done), hA, FrK.rf⟩
set_option maxRecDepth 20000 in
set_option maxHeartbeats 4000000 in
theorem k_window (hl : l.stackTraces = false) (hK : ShK E G c) (hA : AbsK I c S) (w x : Int32) : z_CK E l mX4_window [.ref c, .int w, .int x] G I sz c [nIAE] (e_win w x) (v_win S.1 w x) S (S) := by
  obtain ⟨k0, kT, kN, kTr, kH, kSl, kF, kS⟩ := id hK
  obtain ⟨aX, aN, aW, aH, aF, aS⟩ := id hA
  refine z_Cx.of hl pn_X4 [some (.ref c), some (.int w), some (.int x), none] rfl (Nat.le_of_ble_eq_true rfl) ?_
  refine v_iload_n (pc' := 1) dX4_window_0 rfl rfl ?_
  refine v_iconst (pc' := 2) dX4_window_1 kc_1 rfl ?_
  refine v_bipush (pc' := 4) dX4_window_2 kb_12 rfl ?_
  refine v_cSR (pc' := 7) (c4_isBetween hl (w) 1 12) dX4_window_4 lk_X4_41 mwX4_isBetween msX4_isBetween rfl rfl (by decide) (Nat.le_of_ble_eq_true rfl) rfl ?_
  refine v_if_eq (tgt := 19) (pc' := 10) dX4_window_7 (by decide) rfl (fun c_7 => ?_) (fun c_7 => ?_)
  · first | rw [z_b_ne0] at c_7 | rw [z_b_eq0] at c_7
    exact v_iae rfl rfl dX4_window_19 dX4_window_22 dX4_window_23 dX4_window_26 (by decide) (by decide) (fun sz' h9 => ⟨rfl, h9, by simp [e_win, ex, *], hA, FrK.rf⟩)
  · first | rw [z_b_ne0] at c_7 | rw [z_b_eq0] at c_7
    refine v_iload_n (pc' := 11) dX4_window_10 rfl rfl ?_
    refine v_iconst (pc' := 12) dX4_window_11 kc_0 rfl ?_
    refine v_iconst (pc' := 13) dX4_window_12 kc_1 rfl ?_
    refine v_cSR (pc' := 16) (c4_isBetween hl (x) 0 1) dX4_window_13 lk_X4_41 mwX4_isBetween msX4_isBetween rfl rfl (by decide) (Nat.le_of_ble_eq_true rfl) rfl ?_
    refine v_if_ne (tgt := 27) (pc' := 19) dX4_window_16 (by decide) rfl (fun c_16 => ?_) (fun c_16 => ?_)
    · first | rw [z_b_ne0] at c_16 | rw [z_b_eq0] at c_16
      obtain ⟨k, k1, k2, rfl⟩ := z_in_nI (lo := 1) (hi := 12) (by omega) (by omega) c_7
      have hkc : (nI k).toNatClampNeg = k := nI_clamp (by omega)
      refine v_aload_n (pc' := 28) dX4_window_27 rfl rfl ?_
      refine g_X4_19 (pc' := 31) rfl dX4_window_28 (by assumption) rfl ?_
      refine v_iload_n (pc' := 32) dX4_window_31 rfl rfl ?_
      refine v_cVR (pc' := 35) (c1_easiestWindow hl kN aN aW k ⟨k1, k2⟩) dX4_window_32 lk_X4_235 mwX1_easiestWindow miX1_easiestWindow kN.1 rfl rfl rfl rfl (by decide) (Nat.le_of_ble_eq_true rfl) rfl ?_
      refine v_istore_n3 (pc' := 36) dX4_window_35 (by decide) rfl rfl ?_
      refine v_iload_n (pc' := 37) dX4_window_36 rfl rfl ?_
      refine v_iconst (pc' := 38) dX4_window_37 kc_m1 rfl ?_
      refine v_icmp_eq (tgt := 45) (pc' := 41) dX4_window_38 (by decide) rfl (fun c_38 => ?_) (fun c_38 => ?_)
      · refine v_iload_n (pc' := 46) dX4_window_45 rfl rfl ?_
        exact v_iret dX4_window_46 rfl (by decide) (by decide) ⟨rfl, Nat.le_refl _, by rw [e_win, c_7, c_16]; rfl, _, rfl, by unfold v_win v_win0; rw [hkc]; first | (rw [if_pos (Or.inl c_38)]; done) | (rw [if_pos (Or.inr c_42)]; done) | (rw [if_neg (fun q9 => q9.elim c_38 c_42)]; done), hA, FrK.rf⟩
      · refine v_iload_n (pc' := 42) dX4_window_41 rfl rfl ?_
        refine v_if_ne (tgt := 47) (pc' := 45) dX4_window_42 (by decide) rfl (fun c_42 => ?_) (fun c_42 => ?_)
        · refine v_aload_n (pc' := 48) dX4_window_47 rfl rfl ?_
          refine g_X4_19 (pc' := 51) rfl dX4_window_48 (by assumption) rfl ?_
          refine v_iload_n (pc' := 52) dX4_window_51 rfl rfl ?_
          refine v_iload_n (pc' := 53) dX4_window_52 rfl rfl ?_
          refine v_cVR (pc' := 56) (c1_widthInTheWay hl kN aN aW _ (nI k)) dX4_window_53 lk_X4_238 mwX1_widthInTheWay miX1_widthInTheWay kN.1 rfl rfl rfl rfl (by decide) (Nat.le_of_ble_eq_true rfl) rfl ?_
          exact v_iret dX4_window_56 rfl (by decide) (by decide) ⟨rfl, Nat.le_refl _, by rw [e_win, c_7, c_16]; rfl, _, rfl, by unfold v_win v_win0; rw [hkc]; first | (rw [if_pos (Or.inl c_38)]; done) | (rw [if_pos (Or.inr c_42)]; done) | (rw [if_neg (fun q9 => q9.elim c_38 c_42)]; done), hA, FrK.rf⟩
        · refine v_iload_n (pc' := 46) dX4_window_45 rfl rfl ?_
          exact v_iret dX4_window_46 rfl (by decide) (by decide) ⟨rfl, Nat.le_refl _, by rw [e_win, c_7, c_16]; rfl, _, rfl, by unfold v_win v_win0; rw [hkc]; first | (rw [if_pos (Or.inl c_38)]; done) | (rw [if_pos (Or.inr c_42)]; done) | (rw [if_neg (fun q9 => q9.elim c_38 c_42)]; done), hA, FrK.rf⟩
    · first | rw [z_b_ne0] at c_16 | rw [z_b_eq0] at c_16
      exact v_iae rfl rfl dX4_window_19 dX4_window_22 dX4_window_23 dX4_window_26 (by decide) (by decide) (fun sz' h9 => ⟨rfl, h9, by simp [e_win, ex, *], hA, FrK.rf⟩)
set_option maxRecDepth 20000 in
set_option maxHeartbeats 4000000 in
theorem k_lost (hl : l.stackTraces = false) (hK : ShK E G c) (hA : AbsK I c S) (s : Int32) : z_CK E l mX4_lost [.ref c, .int s] G I sz c [nIOO] (e_strp s) (v_lost S.1 s) S S := by
  obtain ⟨k0, kT, kN, kTr, kH, kSl, kF, kS⟩ := id hK
  obtain ⟨aX, aN, aW, aH, aF, aS⟩ := id hA
  refine z_Cx.of hl pn_X4 [some (.ref c), some (.int s), none] rfl (Nat.le_of_ble_eq_true rfl) ?_
  rcases p_hurt_cases aW s with hv | ⟨u, hu, hu6, hv⟩
  · refine v_iload_n (pc' := 1) dX4_lost_0 rfl rfl ?_
    refine v_cSR (pc' := 4) (c4_isStripe hl s) dX4_lost_1 lk_X4_144 mwX4_isStripe msX4_isStripe rfl rfl (by decide) (Nat.le_of_ble_eq_true rfl) rfl ?_
    refine v_if_ne (tgt := 15) (pc' := 7) dX4_lost_4 (by decide) rfl (fun c_4 => ?_) (fun c_4 => ?_)
    · first | rw [z_b_ne0] at c_4 | rw [z_b_eq0] at c_4
      refine v_aload_n (pc' := 16) dX4_lost_15 rfl rfl ?_
      refine g_X4_19 (pc' := 19) rfl dX4_lost_16 (by assumption) rfl ?_
      refine v_aload_n (pc' := 20) dX4_lost_19 rfl rfl ?_
      refine g_X4_19 (pc' := 23) rfl dX4_lost_20 (by assumption) rfl ?_
      refine v_iload_n (pc' := 24) dX4_lost_23 rfl rfl ?_
      refine v_cVR (pc' := 27) (c1_victimOf hl kN aN aW s) dX4_lost_24 lk_X4_250 mwX1_victimOf miX1_victimOf kN.1 rfl rfl rfl rfl (by decide) (Nat.le_of_ble_eq_true rfl) rfl ?_
      rw [p_vic_eq aW]
      refine v_cVR (pc' := 30) (c1_taskNone hl kN aN aW _ (by rw [hv]; exact p_isTask_m1)) dX4_lost_27 lk_X4_119 mwX1_taskNumbered miX1_taskNumbered kN.1 rfl rfl rfl rfl (by decide) (Nat.le_of_ble_eq_true rfl) rfl ?_
      refine v_astoreN_n2 (pc' := 31) dX4_lost_30 (by decide) rfl rfl ?_
      refine v_aloadN_n (pc' := 32) dX4_lost_31 rfl rfl ?_
      refine v_ifnonnullN (pc' := 35) dX4_lost_32 rfl ?_
      refine v_iconst (pc' := 36) dX4_lost_35 kc_0 rfl ?_
      refine v_goto (tgt := 43) dX4_lost_36 (by decide) ?_
      exact v_iret dX4_lost_43 rfl (by decide) (by decide) ⟨rfl, Nat.le_refl _, by simp [e_strp, ex, *], _, rfl, by rw [v_lost, if_pos hv], hA, FrK.rf⟩
    · first | rw [z_b_ne0] at c_4 | rw [z_b_eq0] at c_4
      exact v_ioo rfl rfl dX4_lost_7 dX4_lost_10 dX4_lost_11 dX4_lost_14 (by decide) (by decide) (fun sz' h9 => ⟨rfl, h9, by simp [e_strp, ex, *], hA, FrK.rf⟩)
  · refine v_iload_n (pc' := 1) dX4_lost_0 rfl rfl ?_
    refine v_cSR (pc' := 4) (c4_isStripe hl s) dX4_lost_1 lk_X4_144 mwX4_isStripe msX4_isStripe rfl rfl (by decide) (Nat.le_of_ble_eq_true rfl) rfl ?_
    refine v_if_ne (tgt := 15) (pc' := 7) dX4_lost_4 (by decide) rfl (fun c_4 => ?_) (fun c_4 => ?_)
    · first | rw [z_b_ne0] at c_4 | rw [z_b_eq0] at c_4
      refine v_aload_n (pc' := 16) dX4_lost_15 rfl rfl ?_
      refine g_X4_19 (pc' := 19) rfl dX4_lost_16 (by assumption) rfl ?_
      refine v_aload_n (pc' := 20) dX4_lost_19 rfl rfl ?_
      refine g_X4_19 (pc' := 23) rfl dX4_lost_20 (by assumption) rfl ?_
      refine v_iload_n (pc' := 24) dX4_lost_23 rfl rfl ?_
      refine v_cVR (pc' := 27) (c1_victimOf hl kN aN aW s) dX4_lost_24 lk_X4_250 mwX1_victimOf miX1_victimOf kN.1 rfl rfl rfl rfl (by decide) (Nat.le_of_ble_eq_true rfl) rfl ?_
      rw [p_vic_eq aW]
      refine v_cVR (pc' := 30) (c1_taskNumbered hl kN aN aW u hu hv) dX4_lost_27 lk_X4_119 mwX1_taskNumbered miX1_taskNumbered kN.1 rfl rfl rfl rfl (by decide) (Nat.le_of_ble_eq_true rfl) rfl ?_
      refine v_astore_n2 (pc' := 31) dX4_lost_30 (by decide) rfl rfl ?_
      refine v_aload_n (pc' := 32) dX4_lost_31 rfl rfl ?_
      refine v_ifnonnull (tgt := 39) dX4_lost_32 (by decide) ?_
      refine v_aload_n (pc' := 40) dX4_lost_39 rfl rfl ?_
      refine g_X4_253 (pc' := 43) rfl dX4_lost_40 (kN.2.2.2.2 u hu6) rfl ?_
      exact v_iret dX4_lost_43 rfl (by decide) (by decide) ⟨rfl, Nat.le_refl _, by simp [e_strp, ex, *], _, rfl, by rw [v_lost, hv, if_neg (nI_m1 (by omega)), nI_clamp (by omega)]; exact (aN.2.2.2 u hu).2.2.2.2.1, hA, FrK.rf⟩
    · first | rw [z_b_ne0] at c_4 | rw [z_b_eq0] at c_4
      exact v_ioo rfl rfl dX4_lost_7 dX4_lost_10 dX4_lost_11 dX4_lost_14 (by decide) (by decide) (fun sz' h9 => ⟨rfl, h9, by simp [e_strp, ex, *], hA, FrK.rf⟩)

set_option maxRecDepth 20000 in
set_option maxHeartbeats 4000000 in
theorem k_save_ (hl : l.stackTraces = false) (hK : ShK E G c) (hA : AbsK I c S) (x : Int32) : z_CK E l mX4_save [.ref c, .int x] G I sz c [nIOO] (e_slot x) (S.1 1) S (s_save S x) := by
  obtain ⟨k0, kT, kN, kTr, kH, kSl, kF, kS⟩ := id hK
  obtain ⟨aX, aN, aW, aH, aF, aS⟩ := id hA
  refine z_Cx.of hl pn_X4 [some (.ref c), some (.int x)] rfl (Nat.le_of_ble_eq_true rfl) ?_
  refine v_iload_n (pc' := 1) dX4_save_0 rfl rfl ?_
  refine v_iconst (pc' := 2) dX4_save_1 kc_0 rfl ?_
  refine v_iconst (pc' := 3) dX4_save_2 kc_1 rfl ?_
  refine v_cSR (pc' := 6) (c4_isBetween hl (x) 0 1) dX4_save_3 lk_X4_41 mwX4_isBetween msX4_isBetween rfl rfl (by decide) (Nat.le_of_ble_eq_true rfl) rfl ?_
  refine v_if_ne (tgt := 17) (pc' := 9) dX4_save_6 (by decide) rfl (fun c_6 => ?_) (fun c_6 => ?_)
  · first | rw [z_b_ne0] at c_6 | rw [z_b_eq0] at c_6
    obtain ⟨q, q1, q2, rfl⟩ := z_in_nI (lo := 0) (hi := 1) (by omega) (by omega) c_6
    have hqc : (nI q).toNatClampNeg = q := nI_clamp (by omega)
    refine v_aload_n (pc' := 18) dX4_save_17 rfl rfl ?_
    refine g_X4_33 (pc' := 21) rfl dX4_save_18 (by assumption) rfl ?_
    refine v_iload_n (pc' := 22) dX4_save_21 rfl rfl ?_
    refine v_aald (t := 5) (pc' := 23) rfl dX4_save_22 (q) rfl kSl (by omega) (by decide) rfl ?_
    refine v_aload_n (pc' := 24) dX4_save_23 rfl rfl ?_
    refine g_X4_19 (pc' := 27) rfl dX4_save_24 (by assumption) rfl ?_
    refine v_cVV (pc' := 30) (c1_copyFrom hl (kS q (by omega)) kN aN aW (by omega)) dX4_save_27 lk_X4_244 mwX1_copyFrom miX1_copyFrom (kS q (by omega)).1 rfl rfl rfl rfl (by decide) (Nat.le_of_ble_eq_true rfl) rfl ?_
    rintro I2 ⟨hA2, hF2⟩
    refine v_aload_n (pc' := 31) dX4_save_30 rfl rfl ?_
    refine g_X4_37 (pc' := 34) rfl dX4_save_31 (by assumption) rfl ?_
    refine v_iload_n (pc' := 35) dX4_save_34 rfl rfl ?_
    refine v_iconst (pc' := 36) dX4_save_35 kc_1 rfl ?_
    refine v_zast (pc' := 37) dX4_save_36 (q) rfl kF (by omega) (by decide) rfl rfl ?_
    refine v_aload_n (pc' := 38) dX4_save_37 rfl rfl ?_
    refine g_X4_19 (pc' := 41) rfl dX4_save_38 (by assumption) rfl ?_
    refine g_X4_95 (pc' := 44) rfl dX4_save_41 kN.1 rfl ?_
    exact v_iret dX4_save_44 rfl (by decide) (by decide) ⟨rfl, Nat.le_refl _, by simp [e_slot, ex, *], _, rfl, by rw [z_up_ne _ _ _ _ (by omega), hF2 _ (by omega)]; exact aN.1.1.2.1, by
      have ag : ∀ q9, q9 ≠ c + 166 → (q9 < c + 167 + 10 * q ∨ c + 167 + 10 * q + 10 ≤ q9) → z_up I2 (c + 166) q 1 q9 = I q9 := fun q9 e1 e2 => by rw [z_up_ne _ _ _ _ e1]; exact hF2 q9 e2
      unfold s_save
      rw [hqc]
      refine ⟨aX.agree (fun q9 e1 e2 => ag q9 (by omega) (by omega)), aN.agree aW.1.1 (fun q9 e1 e2 => ag q9 (by omega) (by omega)), aW, aH.agree (fun q9 e1 e2 => ag q9 (by omega) (by omega)), fun j hj => ?_, fun j hj hf => ?_⟩
      · rw [z_up_row, z_row_at]
        by_cases e : j = q
        · subst e; simp only [if_true, pk_us]; rfl
        · simp only [e, if_false]; rw [pk_un e, hF2 _ (by omega)]; exact aF j hj
      · by_cases e : j = q
        · subst e
          simp only [if_true]
          exact ⟨hA2.agree aW.1.1 (fun q9 e1 e2 => z_up_ne _ _ _ _ (by omega)), aW⟩
        · simp only [e, if_false] at hf ⊢
          exact ⟨(aS j hj hf).1.agree (aS j hj hf).2.1.1 (fun q9 e1 e2 => ag q9 (by omega) (by omega)), (aS j hj hf).2⟩, fun q9 h9 => by rw [z_up_ne _ _ _ _ (by omega)]; exact hF2 q9 (by omega)⟩
  · first | rw [z_b_ne0] at c_6 | rw [z_b_eq0] at c_6
    exact v_ioo rfl rfl dX4_save_9 dX4_save_12 dX4_save_13 dX4_save_16 (by decide) (by decide) (fun sz' h9 => ⟨rfl, h9, by simp [e_slot, ex, *], hA, FrK.rf⟩)
set_option maxRecDepth 20000 in
set_option maxHeartbeats 4000000 in
theorem k_restore (hl : l.stackTraces = false) (hK : ShK E G c) (hA : AbsK I c S) (x : Int32) : z_CK E l mX4_restore [.ref c, .int x] G I sz c [nIOO, nISE] (e_rest S x) (S.2.2.2.1 x.toNatClampNeg 1) S (s_rest S x) := by
  obtain ⟨k0, kT, kN, kTr, kH, kSl, kF, kS⟩ := id hK
  obtain ⟨aX, aN, aW, aH, aF, aS⟩ := id hA
  refine z_Cx.of hl pn_X4 [some (.ref c), some (.int x)] rfl (Nat.le_of_ble_eq_true rfl) ?_
  refine v_iload_n (pc' := 1) dX4_restore_0 rfl rfl ?_
  refine v_iconst (pc' := 2) dX4_restore_1 kc_0 rfl ?_
  refine v_iconst (pc' := 3) dX4_restore_2 kc_1 rfl ?_
  refine v_cSR (pc' := 6) (c4_isBetween hl (x) 0 1) dX4_restore_3 lk_X4_41 mwX4_isBetween msX4_isBetween rfl rfl (by decide) (Nat.le_of_ble_eq_true rfl) rfl ?_
  refine v_if_ne (tgt := 17) (pc' := 9) dX4_restore_6 (by decide) rfl (fun c_6 => ?_) (fun c_6 => ?_)
  · first | rw [z_b_ne0] at c_6 | rw [z_b_eq0] at c_6
    obtain ⟨q, q1, q2, rfl⟩ := z_in_nI (lo := 0) (hi := 1) (by omega) (by omega) c_6
    have hqc : (nI q).toNatClampNeg = q := nI_clamp (by omega)
    refine v_aload_n (pc' := 18) dX4_restore_17 rfl rfl ?_
    refine g_X4_37 (pc' := 21) rfl dX4_restore_18 (by assumption) rfl ?_
    refine v_iload_n (pc' := 22) dX4_restore_21 rfl rfl ?_
    refine v_zald (pc' := 23) dX4_restore_22 (q) rfl kF (by omega) (by decide) rfl ?_
    rw [aF q (by omega)]
    refine v_if_ne (tgt := 34) (pc' := 26) dX4_restore_23 (by decide) rfl (fun c_23 => ?_) (fun c_23 => ?_)
    · first | rw [z_b_ne0] at c_23 | rw [z_b_eq0] at c_23
      refine v_aload_n (pc' := 35) dX4_restore_34 rfl rfl ?_
      refine g_X4_19 (pc' := 38) rfl dX4_restore_35 (by assumption) rfl ?_
      refine v_aload_n (pc' := 39) dX4_restore_38 rfl rfl ?_
      refine g_X4_33 (pc' := 42) rfl dX4_restore_39 (by assumption) rfl ?_
      refine v_iload_n (pc' := 43) dX4_restore_42 rfl rfl ?_
      refine v_aald (t := 5) (pc' := 44) rfl dX4_restore_43 (q) rfl kSl (by omega) (by decide) rfl ?_
      refine v_cVV (pc' := 47) (c1_copyFrom hl kN (kS q (by omega)) (aS q (by omega) c_23).1 (aS q (by omega) c_23).2 (by omega)) dX4_restore_44 lk_X4_244 mwX1_copyFrom miX1_copyFrom kN.1 rfl rfl rfl rfl (by decide) (Nat.le_of_ble_eq_true rfl) rfl ?_
      rintro I2 ⟨hA2, hF2⟩
      refine v_aload_n (pc' := 48) dX4_restore_47 rfl rfl ?_
      refine g_X4_29 (pc' := 51) rfl dX4_restore_48 (by assumption) rfl ?_
      refine v_cVV (pc' := 54) (c0_forgetAll hl kH.1) dX4_restore_51 lk_X4_69 mwX0_forgetAll miX0_forgetAll kH.1 rfl rfl rfl rfl (by decide) (Nat.le_of_ble_eq_true rfl) rfl ?_
      rintro _ rfl
      refine v_aload_n (pc' := 55) dX4_restore_54 rfl rfl ?_
      refine g_X4_19 (pc' := 58) rfl dX4_restore_55 (by assumption) rfl ?_
      refine g_X4_95 (pc' := 61) rfl dX4_restore_58 kN.1 rfl ?_
      exact v_iret dX4_restore_61 rfl (by decide) (by decide) ⟨rfl, Nat.le_refl _, by simp [e_rest, ex, *], _, rfl, by rw [hqc, z_up_ne _ _ _ _ (by omega)]; exact hA2.1.1.2.1, by
        have ag : ∀ q9, q9 ≠ c + 23 → (q9 < c + 3 ∨ c + 3 + 10 ≤ q9) → z_up I2 (c + 23) 2 0 q9 = I q9 := fun q9 e1 e2 => by rw [z_up_ne _ _ _ _ e1]; exact hF2 q9 e2
        unfold s_rest
        rw [hqc]
        obtain ⟨ao, aho, ag1, ag2, ah14, ahst⟩ := aH
        exact ⟨aX.agree (fun q9 e1 e2 => ag q9 (by omega) (by omega)), hA2.agree (aS q (by omega) c_23).2.1.1 (fun q9 e1 e2 => z_up_ne _ _ _ _ (by omega)), (aS q (by omega) c_23).2, ⟨ao, aho, by rw [z_up_row, z_row_at, pk_un (by omega), hF2 _ (by omega)]; exact ag1, by rw [z_up_row, z_row_at, pk_us]; rfl, Nat.zero_le _, fun i hi => absurd hi (Nat.not_lt_zero i)⟩, fun j hj => by rw [ag _ (by omega) (by omega)]; exact aF j hj, fun j hj hf => ⟨(aS j hj hf).1.agree (aS j hj hf).2.1.1 (fun q9 e1 e2 => ag q9 (by omega) (by omega)), (aS j hj hf).2⟩⟩, fun q9 h9 => by rw [z_up_ne _ _ _ _ (by omega)]; exact hF2 q9 (by omega)⟩
    · first | rw [z_b_ne0] at c_23 | rw [z_b_eq0] at c_23
      exact v_ise rfl rfl dX4_restore_26 dX4_restore_29 dX4_restore_30 dX4_restore_33 (by decide) (by decide) (fun sz' h9 => ⟨rfl, h9, by simp [e_rest, ex, *], hA, FrK.rf⟩)
  · first | rw [z_b_ne0] at c_6 | rw [z_b_eq0] at c_6
    exact v_ioo rfl rfl dX4_restore_9 dX4_restore_12 dX4_restore_13 dX4_restore_16 (by decide) (by decide) (fun sz' h9 => ⟨rfl, h9, by simp [e_rest, ex, *], hA, FrK.rf⟩)
end FACE2
