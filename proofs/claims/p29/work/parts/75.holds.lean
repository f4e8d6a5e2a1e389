/-! THE LAW's holds (written by wip/p29/gen_holds.py) -/
section LST
variable {E : zE} {l : Launch} {y : MethodName} {cc : ByteArray} {nL : Nat} {ret : Option FieldType} {hh : List (Nat × Nat × Nat × Nat)} {R : Room} {mc ms : Nat} {Q : zQ} {k n : Nat} {G : zG} {I : zI} {sz pc : Nat} {lv : List (Option Value)} {st : List Value}
theorem v_istore10 {a0 a1 a2 a3 a4 a5 a6 a7 a8 a9 a10 : Option Value} {x : Int32} {pc' : Nat} (hd : decode cc pc = .ok (.istore 10, 2)) (hn : 10 < nL) (hc : z_c1 a9 = true) (hp : pc + 2 = pc') (h : z_V E l (y, cc, nL, ret, hh) R mc ms Q k n G I sz pc' (a0 :: a1 :: a2 :: a3 :: a4 :: a5 :: a6 :: a7 :: a8 :: a9 :: some (.int x) :: lv) (st)) : z_V E l (y, cc, nL, ret, hh) R mc ms Q k n G I sz pc (a0 :: a1 :: a2 :: a3 :: a4 :: a5 :: a6 :: a7 :: a8 :: a9 :: a10 :: lv) ((.int x) :: st) := w_istore (i := 10) hd hn (by simp) (fun j o hj ho => by have e : j = 9 := (by omega); subst e; cases ho; exact hc) hp h
theorem v_iinc10 {a0 a1 a2 a3 a4 a5 a6 a7 a8 a9 : Option Value} {j : Int} {x w z : Int32} {pc' : Nat} (hd : decode cc pc = .ok (.iinc 10 j, 3)) (hn : 10 < nL) (hc : z_c1 a9 = true) (hj : Int32.ofInt j = w) (hz : x + w = z) (hp : pc + 3 = pc') (h : z_V E l (y, cc, nL, ret, hh) R mc ms Q k n G I sz pc' (a0 :: a1 :: a2 :: a3 :: a4 :: a5 :: a6 :: a7 :: a8 :: a9 :: some (.int z) :: lv) (st)) : z_V E l (y, cc, nL, ret, hh) R mc ms Q k n G I sz pc (a0 :: a1 :: a2 :: a3 :: a4 :: a5 :: a6 :: a7 :: a8 :: a9 :: some (.int x) :: lv) (st) := w_iinc hd rfl hn (fun j o hj ho => by have e : j = 9 := (by omega); subst e; cases ho; exact hc) hp (by subst hj; subst hz; exact h)
theorem v_istore11 {a0 a1 a2 a3 a4 a5 a6 a7 a8 a9 a10 a11 : Option Value} {x : Int32} {pc' : Nat} (hd : decode cc pc = .ok (.istore 11, 2)) (hn : 11 < nL) (hc : z_c1 a10 = true) (hp : pc + 2 = pc') (h : z_V E l (y, cc, nL, ret, hh) R mc ms Q k n G I sz pc' (a0 :: a1 :: a2 :: a3 :: a4 :: a5 :: a6 :: a7 :: a8 :: a9 :: a10 :: some (.int x) :: lv) (st)) : z_V E l (y, cc, nL, ret, hh) R mc ms Q k n G I sz pc (a0 :: a1 :: a2 :: a3 :: a4 :: a5 :: a6 :: a7 :: a8 :: a9 :: a10 :: a11 :: lv) ((.int x) :: st) := w_istore (i := 11) hd hn (by simp) (fun j o hj ho => by have e : j = 10 := (by omega); subst e; cases ho; exact hc) hp h
theorem v_iinc11 {a0 a1 a2 a3 a4 a5 a6 a7 a8 a9 a10 : Option Value} {j : Int} {x w z : Int32} {pc' : Nat} (hd : decode cc pc = .ok (.iinc 11 j, 3)) (hn : 11 < nL) (hc : z_c1 a10 = true) (hj : Int32.ofInt j = w) (hz : x + w = z) (hp : pc + 3 = pc') (h : z_V E l (y, cc, nL, ret, hh) R mc ms Q k n G I sz pc' (a0 :: a1 :: a2 :: a3 :: a4 :: a5 :: a6 :: a7 :: a8 :: a9 :: a10 :: some (.int z) :: lv) (st)) : z_V E l (y, cc, nL, ret, hh) R mc ms Q k n G I sz pc (a0 :: a1 :: a2 :: a3 :: a4 :: a5 :: a6 :: a7 :: a8 :: a9 :: a10 :: some (.int x) :: lv) (st) := w_iinc hd rfl hn (fun j o hj ho => by have e : j = 10 := (by omega); subst e; cases ho; exact hc) hp (by subst hj; subst hz; exact h)
theorem v_istore12 {a0 a1 a2 a3 a4 a5 a6 a7 a8 a9 a10 a11 a12 : Option Value} {x : Int32} {pc' : Nat} (hd : decode cc pc = .ok (.istore 12, 2)) (hn : 12 < nL) (hc : z_c1 a11 = true) (hp : pc + 2 = pc') (h : z_V E l (y, cc, nL, ret, hh) R mc ms Q k n G I sz pc' (a0 :: a1 :: a2 :: a3 :: a4 :: a5 :: a6 :: a7 :: a8 :: a9 :: a10 :: a11 :: some (.int x) :: lv) (st)) : z_V E l (y, cc, nL, ret, hh) R mc ms Q k n G I sz pc (a0 :: a1 :: a2 :: a3 :: a4 :: a5 :: a6 :: a7 :: a8 :: a9 :: a10 :: a11 :: a12 :: lv) ((.int x) :: st) := w_istore (i := 12) hd hn (by simp) (fun j o hj ho => by have e : j = 11 := (by omega); subst e; cases ho; exact hc) hp h
theorem v_iinc12 {a0 a1 a2 a3 a4 a5 a6 a7 a8 a9 a10 a11 : Option Value} {j : Int} {x w z : Int32} {pc' : Nat} (hd : decode cc pc = .ok (.iinc 12 j, 3)) (hn : 12 < nL) (hc : z_c1 a11 = true) (hj : Int32.ofInt j = w) (hz : x + w = z) (hp : pc + 3 = pc') (h : z_V E l (y, cc, nL, ret, hh) R mc ms Q k n G I sz pc' (a0 :: a1 :: a2 :: a3 :: a4 :: a5 :: a6 :: a7 :: a8 :: a9 :: a10 :: a11 :: some (.int z) :: lv) (st)) : z_V E l (y, cc, nL, ret, hh) R mc ms Q k n G I sz pc (a0 :: a1 :: a2 :: a3 :: a4 :: a5 :: a6 :: a7 :: a8 :: a9 :: a10 :: a11 :: some (.int x) :: lv) (st) := w_iinc hd rfl hn (fun j o hj ho => by have e : j = 11 := (by omega); subst e; cases ho; exact hc) hp (by subst hj; subst hz; exact h)
theorem v_istore13 {a0 a1 a2 a3 a4 a5 a6 a7 a8 a9 a10 a11 a12 a13 : Option Value} {x : Int32} {pc' : Nat} (hd : decode cc pc = .ok (.istore 13, 2)) (hn : 13 < nL) (hc : z_c1 a12 = true) (hp : pc + 2 = pc') (h : z_V E l (y, cc, nL, ret, hh) R mc ms Q k n G I sz pc' (a0 :: a1 :: a2 :: a3 :: a4 :: a5 :: a6 :: a7 :: a8 :: a9 :: a10 :: a11 :: a12 :: some (.int x) :: lv) (st)) : z_V E l (y, cc, nL, ret, hh) R mc ms Q k n G I sz pc (a0 :: a1 :: a2 :: a3 :: a4 :: a5 :: a6 :: a7 :: a8 :: a9 :: a10 :: a11 :: a12 :: a13 :: lv) ((.int x) :: st) := w_istore (i := 13) hd hn (by simp) (fun j o hj ho => by have e : j = 12 := (by omega); subst e; cases ho; exact hc) hp h
theorem v_iinc13 {a0 a1 a2 a3 a4 a5 a6 a7 a8 a9 a10 a11 a12 : Option Value} {j : Int} {x w z : Int32} {pc' : Nat} (hd : decode cc pc = .ok (.iinc 13 j, 3)) (hn : 13 < nL) (hc : z_c1 a12 = true) (hj : Int32.ofInt j = w) (hz : x + w = z) (hp : pc + 3 = pc') (h : z_V E l (y, cc, nL, ret, hh) R mc ms Q k n G I sz pc' (a0 :: a1 :: a2 :: a3 :: a4 :: a5 :: a6 :: a7 :: a8 :: a9 :: a10 :: a11 :: a12 :: some (.int z) :: lv) (st)) : z_V E l (y, cc, nL, ret, hh) R mc ms Q k n G I sz pc (a0 :: a1 :: a2 :: a3 :: a4 :: a5 :: a6 :: a7 :: a8 :: a9 :: a10 :: a11 :: a12 :: some (.int x) :: lv) (st) := w_iinc hd rfl hn (fun j o hj ho => by have e : j = 12 := (by omega); subst e; cases ho; exact hc) hp (by subst hj; subst hz; exact h)
theorem v_istore14 {a0 a1 a2 a3 a4 a5 a6 a7 a8 a9 a10 a11 a12 a13 a14 : Option Value} {x : Int32} {pc' : Nat} (hd : decode cc pc = .ok (.istore 14, 2)) (hn : 14 < nL) (hc : z_c1 a13 = true) (hp : pc + 2 = pc') (h : z_V E l (y, cc, nL, ret, hh) R mc ms Q k n G I sz pc' (a0 :: a1 :: a2 :: a3 :: a4 :: a5 :: a6 :: a7 :: a8 :: a9 :: a10 :: a11 :: a12 :: a13 :: some (.int x) :: lv) (st)) : z_V E l (y, cc, nL, ret, hh) R mc ms Q k n G I sz pc (a0 :: a1 :: a2 :: a3 :: a4 :: a5 :: a6 :: a7 :: a8 :: a9 :: a10 :: a11 :: a12 :: a13 :: a14 :: lv) ((.int x) :: st) := w_istore (i := 14) hd hn (by simp) (fun j o hj ho => by have e : j = 13 := (by omega); subst e; cases ho; exact hc) hp h
theorem v_iinc14 {a0 a1 a2 a3 a4 a5 a6 a7 a8 a9 a10 a11 a12 a13 : Option Value} {j : Int} {x w z : Int32} {pc' : Nat} (hd : decode cc pc = .ok (.iinc 14 j, 3)) (hn : 14 < nL) (hc : z_c1 a13 = true) (hj : Int32.ofInt j = w) (hz : x + w = z) (hp : pc + 3 = pc') (h : z_V E l (y, cc, nL, ret, hh) R mc ms Q k n G I sz pc' (a0 :: a1 :: a2 :: a3 :: a4 :: a5 :: a6 :: a7 :: a8 :: a9 :: a10 :: a11 :: a12 :: a13 :: some (.int z) :: lv) (st)) : z_V E l (y, cc, nL, ret, hh) R mc ms Q k n G I sz pc (a0 :: a1 :: a2 :: a3 :: a4 :: a5 :: a6 :: a7 :: a8 :: a9 :: a10 :: a11 :: a12 :: a13 :: some (.int x) :: lv) (st) := w_iinc hd rfl hn (fun j o hj ho => by have e : j = 13 := (by omega); subst e; cases ho; exact hc) hp (by subst hj; subst hz; exact h)
theorem v_istore15 {a0 a1 a2 a3 a4 a5 a6 a7 a8 a9 a10 a11 a12 a13 a14 a15 : Option Value} {x : Int32} {pc' : Nat} (hd : decode cc pc = .ok (.istore 15, 2)) (hn : 15 < nL) (hc : z_c1 a14 = true) (hp : pc + 2 = pc') (h : z_V E l (y, cc, nL, ret, hh) R mc ms Q k n G I sz pc' (a0 :: a1 :: a2 :: a3 :: a4 :: a5 :: a6 :: a7 :: a8 :: a9 :: a10 :: a11 :: a12 :: a13 :: a14 :: some (.int x) :: lv) (st)) : z_V E l (y, cc, nL, ret, hh) R mc ms Q k n G I sz pc (a0 :: a1 :: a2 :: a3 :: a4 :: a5 :: a6 :: a7 :: a8 :: a9 :: a10 :: a11 :: a12 :: a13 :: a14 :: a15 :: lv) ((.int x) :: st) := w_istore (i := 15) hd hn (by simp) (fun j o hj ho => by have e : j = 14 := (by omega); subst e; cases ho; exact hc) hp h
theorem v_iinc15 {a0 a1 a2 a3 a4 a5 a6 a7 a8 a9 a10 a11 a12 a13 a14 : Option Value} {j : Int} {x w z : Int32} {pc' : Nat} (hd : decode cc pc = .ok (.iinc 15 j, 3)) (hn : 15 < nL) (hc : z_c1 a14 = true) (hj : Int32.ofInt j = w) (hz : x + w = z) (hp : pc + 3 = pc') (h : z_V E l (y, cc, nL, ret, hh) R mc ms Q k n G I sz pc' (a0 :: a1 :: a2 :: a3 :: a4 :: a5 :: a6 :: a7 :: a8 :: a9 :: a10 :: a11 :: a12 :: a13 :: a14 :: some (.int z) :: lv) (st)) : z_V E l (y, cc, nL, ret, hh) R mc ms Q k n G I sz pc (a0 :: a1 :: a2 :: a3 :: a4 :: a5 :: a6 :: a7 :: a8 :: a9 :: a10 :: a11 :: a12 :: a13 :: a14 :: some (.int x) :: lv) (st) := w_iinc hd rfl hn (fun j o hj ho => by have e : j = 14 := (by omega); subst e; cases ho; exact hc) hp (by subst hj; subst hz; exact h)
end LST
section LHOLD
variable {E : zE} {l : Launch} {G : zG} {I0 : zI} {sz0 c : Nat} {S : zS}
theorem x_str0' {x c3 : Int32} {s : Nat} (hx : x = nI s) (hs : s < 12) : cv_4 S x 0 c3 = p_taker S.1 (nI s) := by rw [hx]; exact x_str0 hs
set_option maxRecDepth 20000 in
set_option maxHeartbeats 4000000 in
theorem hold4 (hl : l.stackTraces = false) (hK : ShK E G c) (hW : WF S.1) (w : Nat) (x1 x2 x3 x4 x5 x6 x7 x8 x11 x12 x13 : Int32) (hg : x11 = -1 ∨ ∃ s0, x11 = nI s0 ∧ s0 < 12 ∧ (1 ≤ s0 → p_free S.1 (s0 - 1) = false)) : ∀ (I : zI) (sz kk nn : Nat), AbsK I c S → FrK I0 I c → kk + 3 ≤ 300 → nn + 18 ≤ 1800 → z_V E l mL_holds (z_rm 11 300 1800) 300 1800 (z_q (z_wP c 1 S G I0 sz0)) kk nn G I sz 705 [some (.ref c), some (.int x1), some (.int x2), some (.int x3), some (.int x4), some (.int x5), some (.int x6), some (.int x7), some (.int x8), some (.int 1), some (.int (nI w)), some (.int x11), some (.int x12), some (.int x13)] [] := by
  intro I sz kk nn hA hF hkk hnn
  rcases hg with rfl | ⟨s0, rfl, hs0, hf⟩
  · skip
    refine v_iload (pc' := 707) dL_holds_705 rfl rfl ?_
    refine v_if_eq (tgt := 765) (pc' := 710) dL_holds_707 (by decide) rfl (fun c_707 => ?_) (fun c_707 => ?_)
    · exact absurd c_707 (by decide)
    · refine v_iload (pc' := 712) dL_holds_710 rfl rfl ?_
      refine v_iconst (pc' := 713) dL_holds_712 kc_1 rfl ?_
      refine v_icmp_lt (tgt := 761) (pc' := 716) dL_holds_713 (by decide) rfl (fun c_713 => ?_) (fun c_713 => ?_)
      · refine v_iconst (pc' := 762) dL_holds_761 kc_1 rfl ?_
        refine v_goto (tgt := 766) dL_holds_762 (by decide) ?_
        exact v_zret dL_holds_766 rfl (by omega) (by omega) rfl ⟨rfl, rfl, hA, hF⟩
      · exact absurd (by decide) c_713
  cases s0 with
  | zero =>
    refine v_iload (pc' := 707) dL_holds_705 rfl rfl ?_
    refine v_if_eq (tgt := 765) (pc' := 710) dL_holds_707 (by decide) rfl (fun c_707 => ?_) (fun c_707 => ?_)
    · exact absurd c_707 (by decide)
    · refine v_iload (pc' := 712) dL_holds_710 rfl rfl ?_
      refine v_iconst (pc' := 713) dL_holds_712 kc_1 rfl ?_
      refine v_icmp_lt (tgt := 761) (pc' := 716) dL_holds_713 (by decide) rfl (fun c_713 => ?_) (fun c_713 => ?_)
      · refine v_iconst (pc' := 762) dL_holds_761 kc_1 rfl ?_
        refine v_goto (tgt := 766) dL_holds_762 (by decide) ?_
        exact v_zret dL_holds_766 rfl (by omega) (by omega) rfl ⟨rfl, rfl, hA, hF⟩
      · exact absurd (by decide) c_713
  | succ u =>
    have hnf : ¬ (p_taker S.1 (nI u) = -1 ∧ p_comer S.1 (nI u) = -1 ∧ S.1 (11 + u) = 0) := fun q => by
      have q2 := hf (by omega)
      rw [Nat.add_sub_cancel, (free_iff S.1 u).mpr q] at q2
      cases q2
    refine v_iload (pc' := 707) dL_holds_705 rfl rfl ?_
    refine v_if_eq (tgt := 765) (pc' := 710) dL_holds_707 (by decide) rfl (fun c_707 => ?_) (fun c_707 => ?_)
    · exact absurd c_707 (by decide)
    · refine v_iload (pc' := 712) dL_holds_710 rfl rfl ?_
      refine v_iconst (pc' := 713) dL_holds_712 kc_1 rfl ?_
      refine v_icmp_lt (tgt := 761) (pc' := 716) dL_holds_713 (by decide) rfl (fun c_713 => ?_) (fun c_713 => ?_)
      · exact absurd c_713 (nI_nlt (a := u + 1) (b := 1) (by omega) (by omega))
      · refine v_aload_n (pc' := 717) dL_holds_716 rfl rfl ?_
        refine v_iconst (pc' := 718) dL_holds_717 kc_4 rfl ?_
        refine v_iload (pc' := 720) dL_holds_718 rfl rfl ?_
        refine v_iconst (pc' := 721) dL_holds_720 kc_1 rfl ?_
        refine v_isub (pc' := 722) dL_holds_721 rfl ?_
        rw [nI_pred]
        refine v_iconst (pc' := 723) dL_holds_722 kc_0 rfl ?_
        refine v_iconst (pc' := 724) dL_holds_723 kc_0 rfl ?_
        refine v_k1 (na := 5) (pc' := 727) (z_K1.to (call_4 hl hK hA _ _ _) (x_str0 (by omega)) (rfl)) hF dL_holds_724 lk_L_164 mwL_call msL_call rfl rfl (by decide) ⟨by omega, by omega⟩ (Nat.le_of_ble_eq_true rfl) rfl ?_
        intro I1 s1 hA1 hF1
        refine v_iconst (pc' := 728) dL_holds_727 kc_m1 rfl ?_
        refine v_icmp_ne (tgt := 761) (pc' := 731) dL_holds_728 (by decide) rfl (fun c_728 => ?_) (fun c_728 => ?_)
        · refine v_iconst (pc' := 762) dL_holds_761 kc_1 rfl ?_
          refine v_goto (tgt := 766) dL_holds_762 (by decide) ?_
          exact v_zret dL_holds_766 rfl (by omega) (by omega) rfl ⟨rfl, rfl, hA1, hF1⟩
        · refine v_aload_n (pc' := 732) dL_holds_731 rfl rfl ?_
          refine v_iconst (pc' := 733) dL_holds_732 kc_4 rfl ?_
          refine v_iload (pc' := 735) dL_holds_733 rfl rfl ?_
          refine v_iconst (pc' := 736) dL_holds_735 kc_1 rfl ?_
          refine v_isub (pc' := 737) dL_holds_736 rfl ?_
          rw [nI_pred]
          refine v_iconst (pc' := 738) dL_holds_737 kc_1 rfl ?_
          refine v_iconst (pc' := 739) dL_holds_738 kc_0 rfl ?_
          refine v_k1 (na := 5) (pc' := 742) (z_K1.to (call_4 hl hK hA1 _ _ _) (x_str1 (by omega)) (rfl)) hF1 dL_holds_739 lk_L_164 mwL_call msL_call rfl rfl (by decide) ⟨by omega, by omega⟩ (Nat.le_of_ble_eq_true rfl) rfl ?_
          intro I2 s2 hA2 hF2
          refine v_iconst (pc' := 743) dL_holds_742 kc_m1 rfl ?_
          refine v_icmp_ne (tgt := 761) (pc' := 746) dL_holds_743 (by decide) rfl (fun c_743 => ?_) (fun c_743 => ?_)
          · refine v_iconst (pc' := 762) dL_holds_761 kc_1 rfl ?_
            refine v_goto (tgt := 766) dL_holds_762 (by decide) ?_
            exact v_zret dL_holds_766 rfl (by omega) (by omega) rfl ⟨rfl, rfl, hA2, hF2⟩
          · refine v_aload_n (pc' := 747) dL_holds_746 rfl rfl ?_
            refine v_iconst (pc' := 748) dL_holds_747 kc_4 rfl ?_
            refine v_iload (pc' := 750) dL_holds_748 rfl rfl ?_
            refine v_iconst (pc' := 751) dL_holds_750 kc_1 rfl ?_
            refine v_isub (pc' := 752) dL_holds_751 rfl ?_
            rw [nI_pred]
            refine v_iconst (pc' := 753) dL_holds_752 kc_2 rfl ?_
            refine v_iconst (pc' := 754) dL_holds_753 kc_0 rfl ?_
            refine v_k1 (na := 5) (pc' := 757) (z_K1.to (call_4 hl hK hA2 _ _ _) (x_str2 (by omega)) (rfl)) hF2 dL_holds_754 lk_L_164 mwL_call msL_call rfl rfl (by decide) ⟨by omega, by omega⟩ (Nat.le_of_ble_eq_true rfl) rfl ?_
            intro I3 s3 hA3 hF3
            refine v_iconst (pc' := 758) dL_holds_757 kc_1 rfl ?_
            refine v_icmp_ne (tgt := 765) (pc' := 761) dL_holds_758 (by decide) rfl (fun c_758 => ?_) (fun c_758 => ?_)
            · exact absurd ⟨c_728, c_743, (hW.2.2.2.1 u (by omega)).resolve_right c_758⟩ hnf
            · refine v_iconst (pc' := 762) dL_holds_761 kc_1 rfl ?_
              refine v_goto (tgt := 766) dL_holds_762 (by decide) ?_
              exact v_zret dL_holds_766 rfl (by omega) (by omega) rfl ⟨rfl, rfl, hA3, hF3⟩
set_option maxRecDepth 20000 in
set_option maxHeartbeats 4000000 in
theorem hold3n (hl : l.stackTraces = false) (hK : ShK E G c) (hW : WF S.1) (w : Nat) (x1 x2 x3 x4 x5 x6 x7 x8 x12 : Int32) : ∀ (I : zI) (sz kk nn : Nat), AbsK I c S → FrK I0 I c → kk + 3 ≤ 300 → nn + 18 ≤ 1800 → z_V E l mL_holds (z_rm 11 300 1800) 300 1800 (z_q (z_wP c 1 S G I0 sz0)) kk nn G I sz 633 [some (.ref c), some (.int x1), some (.int x2), some (.int x3), some (.int x4), some (.int x5), some (.int x6), some (.int x7), some (.int x8), some (.int 1), some (.int (nI w)), some (.int (-1)), some (.int x12), some (.int (-1))] [] := by
  intro I sz kk nn hA hF hkk hnn
  have hg : (-1 : Int32) = -1 ∨ ∃ s0, (-1 : Int32) = nI s0 ∧ s0 < 12 ∧ (1 ≤ s0 → p_free S.1 (s0 - 1) = false) := Or.inl rfl
  refine v_iload (pc' := 635) dL_holds_633 rfl rfl ?_
  refine v_iload (pc' := 637) dL_holds_635 rfl rfl ?_
  refine v_iload (pc' := 639) dL_holds_637 rfl rfl ?_
  refine v_iadd (pc' := 640) dL_holds_639 rfl ?_
  refine v_icmp_ge (tgt := 705) (pc' := 643) dL_holds_640 (by decide) rfl (fun c_640 => ?_) (fun c_640 => ?_)
  · skip
    exact hold4 hl hK hW w x1 x2 x3 x4 x5 x6 x7 x8 _ x12 _ hg _ _ _ _ hA hF (by omega) (by omega)
  · refine v_iload (pc' := 645) dL_holds_643 rfl rfl ?_
    refine v_iconst (pc' := 646) dL_holds_645 kc_m1 rfl ?_
    refine v_icmp_eq (tgt := 705) (pc' := 649) dL_holds_646 (by decide) rfl (fun c_646 => ?_) (fun c_646 => ?_)
    · exact hold4 hl hK hW w x1 x2 x3 x4 x5 x6 x7 x8 _ x12 _ hg _ _ _ _ hA hF (by omega) (by omega)
    · exact absurd rfl c_646
set_option maxRecDepth 20000 in
set_option maxHeartbeats 4000000 in
theorem hold3 (hl : l.stackTraces = false) (hK : ShK E G c) (hW : WF S.1) (w s0 : Nat) (hsw : s0 + w ≤ 12) (hfree : ∀ j, s0 ≤ j → j < s0 + w → p_free S.1 j = true) (x1 x2 x3 x4 x5 x6 x7 x8 x12 : Int32) (hg : nI s0 = -1 ∨ ∃ s1, nI s0 = nI s1 ∧ s1 < 12 ∧ (1 ≤ s1 → p_free S.1 (s1 - 1) = false)) : ∀ (f j : Nat) (I : zI) (sz kk nn : Nat), w = j + f → AbsK I c S → FrK I0 I c → kk + 3 * f + 3 ≤ 300 → nn + 18 * f + 18 ≤ 1800 → z_V E l mL_holds (z_rm 11 300 1800) 300 1800 (z_q (z_wP c 1 S G I0 sz0)) kk nn G I sz 633 [some (.ref c), some (.int x1), some (.int x2), some (.int x3), some (.int x4), some (.int x5), some (.int x6), some (.int x7), some (.int x8), some (.int 1), some (.int (nI w)), some (.int (nI s0)), some (.int x12), some (.int (nI (s0 + j)))] [] := by
  intro f
  induction f with
  | zero =>
    intro j I sz kk nn hj hA hF hkk hnn
    subst hj
    refine v_iload (pc' := 635) dL_holds_633 rfl rfl ?_
    refine v_iload (pc' := 637) dL_holds_635 rfl rfl ?_
    refine v_iload (pc' := 639) dL_holds_637 rfl rfl ?_
    refine v_iadd (pc' := 640) dL_holds_639 rfl ?_
    refine v_icmp_ge (tgt := 705) (pc' := 643) dL_holds_640 (by decide) rfl (fun c_640 => ?_) (fun c_640 => ?_)
    · exact hold4 hl hK hW w x1 x2 x3 x4 x5 x6 x7 x8 _ x12 _ hg _ _ _ _ hA hF (by omega) (by omega)
    · exact absurd (by rw [nI_add]; exact Int32.le_refl _) c_640
  | succ f ih =>
    intro j I sz kk nn hj hA hF hkk hnn
    have hfr := (free_iff S.1 (s0 + j)).mp (hfree (s0 + j) (by omega) (by omega))
    refine v_iload (pc' := 635) dL_holds_633 rfl rfl ?_
    refine v_iload (pc' := 637) dL_holds_635 rfl rfl ?_
    refine v_iload (pc' := 639) dL_holds_637 rfl rfl ?_
    refine v_iadd (pc' := 640) dL_holds_639 rfl ?_
    refine v_icmp_ge (tgt := 705) (pc' := 643) dL_holds_640 (by decide) rfl (fun c_640 => ?_) (fun c_640 => ?_)
    · exact absurd c_640 (by rw [nI_add]; exact nI_ge (by omega) (by omega))
    · refine v_iload (pc' := 645) dL_holds_643 rfl rfl ?_
      refine v_iconst (pc' := 646) dL_holds_645 kc_m1 rfl ?_
      refine v_icmp_eq (tgt := 705) (pc' := 649) dL_holds_646 (by decide) rfl (fun c_646 => ?_) (fun c_646 => ?_)
      · exact absurd c_646 (nI_m1 (by omega))
      · refine v_iload (pc' := 651) dL_holds_649 rfl rfl ?_
        refine v_if_eq (tgt := 705) (pc' := 654) dL_holds_651 (by decide) rfl (fun c_651 => ?_) (fun c_651 => ?_)
        · exact absurd c_651 (by decide)
        · refine v_aload_n (pc' := 655) dL_holds_654 rfl rfl ?_
          refine v_iconst (pc' := 656) dL_holds_655 kc_4 rfl ?_
          refine v_iload (pc' := 658) dL_holds_656 rfl rfl ?_
          refine v_iconst (pc' := 659) dL_holds_658 kc_0 rfl ?_
          refine v_iconst (pc' := 660) dL_holds_659 kc_0 rfl ?_
          refine v_k1 (na := 5) (pc' := 663) (z_K1.to (call_4 hl hK hA _ _ _) (x_str0 (by omega)) (rfl)) hF dL_holds_660 lk_L_164 mwL_call msL_call rfl rfl (by decide) ⟨by omega, by omega⟩ (Nat.le_of_ble_eq_true rfl) rfl ?_
          intro I1 s1 hA1 hF1
          refine v_iconst (pc' := 664) dL_holds_663 kc_m1 rfl ?_
          refine v_icmp_ne (tgt := 696) (pc' := 667) dL_holds_664 (by decide) rfl (fun c_664 => ?_) (fun c_664 => ?_)
          · exact absurd hfr.1 c_664
          · refine v_aload_n (pc' := 668) dL_holds_667 rfl rfl ?_
            refine v_iconst (pc' := 669) dL_holds_668 kc_4 rfl ?_
            refine v_iload (pc' := 671) dL_holds_669 rfl rfl ?_
            refine v_iconst (pc' := 672) dL_holds_671 kc_1 rfl ?_
            refine v_iconst (pc' := 673) dL_holds_672 kc_0 rfl ?_
            refine v_k1 (na := 5) (pc' := 676) (z_K1.to (call_4 hl hK hA1 _ _ _) (x_str1 (by omega)) (rfl)) hF1 dL_holds_673 lk_L_164 mwL_call msL_call rfl rfl (by decide) ⟨by omega, by omega⟩ (Nat.le_of_ble_eq_true rfl) rfl ?_
            intro I2 s2 hA2 hF2
            refine v_iconst (pc' := 677) dL_holds_676 kc_m1 rfl ?_
            refine v_icmp_ne (tgt := 696) (pc' := 680) dL_holds_677 (by decide) rfl (fun c_677 => ?_) (fun c_677 => ?_)
            · exact absurd hfr.2.1 c_677
            · refine v_aload_n (pc' := 681) dL_holds_680 rfl rfl ?_
              refine v_iconst (pc' := 682) dL_holds_681 kc_4 rfl ?_
              refine v_iload (pc' := 684) dL_holds_682 rfl rfl ?_
              refine v_iconst (pc' := 685) dL_holds_684 kc_2 rfl ?_
              refine v_iconst (pc' := 686) dL_holds_685 kc_0 rfl ?_
              refine v_k1 (na := 5) (pc' := 689) (z_K1.to (call_4 hl hK hA2 _ _ _) (x_str2 (by omega)) (rfl)) hF2 dL_holds_686 lk_L_164 mwL_call msL_call rfl rfl (by decide) ⟨by omega, by omega⟩ (Nat.le_of_ble_eq_true rfl) rfl ?_
              intro I3 s3 hA3 hF3
              refine v_if_ne (tgt := 696) (pc' := 692) dL_holds_689 (by decide) rfl (fun c_689 => ?_) (fun c_689 => ?_)
              · exact absurd hfr.2.2 c_689
              · refine v_iconst (pc' := 693) dL_holds_692 kc_1 rfl ?_
                refine v_goto (tgt := 697) dL_holds_693 (by decide) ?_
                refine v_istore9 (pc' := 699) dL_holds_697 (by decide) rfl rfl ?_
                refine v_iinc13 (pc' := 702) dL_holds_699 (by decide) rfl kc_1 (nI_add _ 1) rfl ?_
                refine v_goto (tgt := 633) dL_holds_702 (by decide) ?_
                exact ih (j + 1) _ _ _ _ (by omega) hA3 hF3 (by omega) (by omega)
set_option maxRecDepth 20000 in
set_option maxHeartbeats 4000000 in
theorem holdm (hl : l.stackTraces = false) (hK : ShK E G c) (hW : WF S.1) (hHa : Ha S.1) (m : Nat) (hm : m < 2 ^ 31) (x2 x3 : Int32) (o10 o11 o12 o13 : Option Value) : ∀ (I : zI) (sz kk nn : Nat), AbsK I c S → FrK I0 I c → kk + 30 ≤ 300 → nn + 180 ≤ 1800 → z_V E l mL_holds (z_rm 11 300 1800) 300 1800 (z_q (z_wP c 1 S G I0 sz0)) kk nn G I sz 478 [some (.ref c), some (.int (nI m)), some (.int x2), some (.int x3), some (.int (p_takn S.1 12)), some (.int (p_wide S.1 (cnt S.1))), some (.int (p_rung S.1 (cnt S.1))), some (.int (p_sum (fun t => tf S.1 t 3) (cnt S.1))), some (.int (p_fre S.1 12)), some (.int 1), o10, o11, o12, o13] [] := by
  intro I sz kk nn hA hF hkk hnn
  have ew : 1 + (nI m - nI m / 6 * 6) = nI (1 + m % 6) := by
    rw [show nI m - nI m / 6 * 6 = nI (m % 6) from rm (d := 6) hm (by omega) (by omega)]
    exact nI_add 1 _
  have w1 : 1 ≤ 1 + m % 6 := by omega
  have w6 : 1 + m % 6 ≤ 6 := by have := Nat.mod_lt m (show 0 < 6 by omega); omega
  generalize 1 + m % 6 = w at ew w1 w6
  obtain ⟨M, M12, eM, hM, -⟩ := lon_of S.1
  have hlt : p_lonn S.1 12 0 0 < nI w ↔ ¬ Fit S.1 w := by
    rw [← hM w w1, eM, Int32.lt_iff_toInt_lt, nI_toInt (by omega), nI_toInt (by omega)]
    omega
  have f2 : (if v_gap S.1 (nI w) = -1 then (0 : Int32) else 1) = (if p_lonn S.1 12 0 0 < nI w then 0 else 1) := by
    rcases gap_fit S.1 w1 w6 with ⟨g1, g2⟩ | ⟨s0, g1, g2, g3, -⟩
    · rw [if_pos g1, if_pos (hlt.mpr g2)]
    · rw [if_neg (by rw [g2]; exact nI_m1 (by omega)), if_neg (fun q => hlt.mp q g3)]
  have f3 : (if v_win S.1 (nI w) 1 = 0 then (1 : Int32) else 0) = (if p_lonn S.1 12 0 0 < nI w then 0 else 1) := by
    by_cases q : Fit S.1 w
    · rw [if_pos ((win_fit hW w1 w6).mpr q), if_neg (fun q2 => hlt.mp q2 q)]
    · rw [if_neg (fun q2 => q ((win_fit hW w1 w6).mp q2)), if_pos (hlt.mpr q)]
  have f4 : ¬ p_fre S.1 12 < p_lonn S.1 12 0 0 := by
    obtain ⟨M2, F, q1, q2, q3, q4⟩ := lon_free S.1
    rw [← free_eq, q4, q3, Int32.lt_iff_toInt_lt, nI_toInt (by omega), nI_toInt (by omega)]
    omega
  refine v_iconst (pc' := 479) dL_holds_478 kc_1 rfl ?_
  refine v_iload_n (pc' := 480) dL_holds_479 rfl rfl ?_
  refine v_bipush (pc' := 482) dL_holds_480 kb_6 rfl ?_
  refine v_irem (pc' := 483) dL_holds_482 (by decide) rfl ?_
  refine v_iadd (pc' := 484) dL_holds_483 rfl ?_
  rw [ew]
  refine v_istore10 (pc' := 486) dL_holds_484 (by decide) rfl rfl ?_
  refine v_aload_n (pc' := 487) dL_holds_486 rfl rfl ?_
  refine v_bipush (pc' := 489) dL_holds_487 kb_15 rfl ?_
  refine v_iload (pc' := 491) dL_holds_489 rfl rfl ?_
  refine v_iconst (pc' := 492) dL_holds_491 kc_0 rfl ?_
  refine v_iconst (pc' := 493) dL_holds_492 kc_0 rfl ?_
  refine v_k1 (na := 5) (pc' := 496) (z_K1.to (call_15 hl hK hA _ _ _) (x_gap w1 w6) (rfl)) hF dL_holds_493 lk_L_164 mwL_call msL_call rfl rfl (by decide) ⟨by omega, by omega⟩ (Nat.le_of_ble_eq_true rfl) rfl ?_
  intro I1 s1 hA1 hF1
  refine v_istore11 (pc' := 498) dL_holds_496 (by decide) rfl rfl ?_
  refine v_aload_n (pc' := 499) dL_holds_498 rfl rfl ?_
  refine v_iconst (pc' := 500) dL_holds_499 kc_2 rfl ?_
  refine v_iconst (pc' := 501) dL_holds_500 kc_4 rfl ?_
  refine v_iconst (pc' := 502) dL_holds_501 kc_0 rfl ?_
  refine v_iconst (pc' := 503) dL_holds_502 kc_0 rfl ?_
  refine v_k1 (na := 5) (pc' := 506) (z_K1.to (call_2 hl hK hA1 _ _ _) (x_ab4) (rfl)) hF1 dL_holds_503 lk_L_164 mwL_call msL_call rfl rfl (by decide) ⟨by omega, by omega⟩ (Nat.le_of_ble_eq_true rfl) rfl ?_
  intro I2 s2 hA2 hF2
  refine v_iload (pc' := 508) dL_holds_506 rfl rfl ?_
  refine v_dclt (pc' := 516) dL_holds_508 dL_holds_511 dL_holds_512 dL_holds_515 kc_1 kc_0 rfl ?_
  refine v_istore12 (pc' := 518) dL_holds_516 (by decide) rfl rfl ?_
  refine v_iload (pc' := 520) dL_holds_518 rfl rfl ?_
  refine v_if_eq (tgt := 626) (pc' := 523) dL_holds_520 (by decide) rfl (fun c_520 => ?_) (fun c_520 => ?_)
  · exact absurd c_520 (by decide)
  · refine v_iload (pc' := 525) dL_holds_523 rfl rfl ?_
    refine v_iload (pc' := 527) dL_holds_525 rfl rfl ?_
    refine v_icmp_ne (tgt := 626) (pc' := 530) dL_holds_527 (by decide) rfl (fun c_527 => ?_) (fun c_527 => ?_)
    · exact absurd (taken_wide hW) c_527
    · refine v_aload_n (pc' := 531) dL_holds_530 rfl rfl ?_
      refine v_iconst (pc' := 532) dL_holds_531 kc_2 rfl ?_
      refine v_iconst (pc' := 533) dL_holds_532 kc_2 rfl ?_
      refine v_iconst (pc' := 534) dL_holds_533 kc_0 rfl ?_
      refine v_iconst (pc' := 535) dL_holds_534 kc_0 rfl ?_
      refine v_k1 (na := 5) (pc' := 538) (z_K1.to (call_2 hl hK hA2 _ _ _) (x_ab2) (rfl)) hF2 dL_holds_535 lk_L_164 mwL_call msL_call rfl rfl (by decide) ⟨by omega, by omega⟩ (Nat.le_of_ble_eq_true rfl) rfl ?_
      intro I3 s3 hA3 hF3
      refine v_iload (pc' := 540) dL_holds_538 rfl rfl ?_
      refine v_icmp_ne (tgt := 626) (pc' := 543) dL_holds_540 (by decide) rfl (fun c_540 => ?_) (fun c_540 => ?_)
      · exact absurd (running_eq S.1) c_540
      · refine v_aload_n (pc' := 544) dL_holds_543 rfl rfl ?_
        refine v_iconst (pc' := 545) dL_holds_544 kc_2 rfl ?_
        refine v_iconst (pc' := 546) dL_holds_545 kc_3 rfl ?_
        refine v_iconst (pc' := 547) dL_holds_546 kc_0 rfl ?_
        refine v_iconst (pc' := 548) dL_holds_547 kc_0 rfl ?_
        refine v_k1 (na := 5) (pc' := 551) (z_K1.to (call_2 hl hK hA3 _ _ _) (x_ab3) (rfl)) hF3 dL_holds_548 lk_L_164 mwL_call msL_call rfl rfl (by decide) ⟨by omega, by omega⟩ (Nat.le_of_ble_eq_true rfl) rfl ?_
        intro I4 s4 hA4 hF4
        refine v_iload (pc' := 553) dL_holds_551 rfl rfl ?_
        refine v_icmp_ne (tgt := 626) (pc' := 556) dL_holds_553 (by decide) rfl (fun c_553 => ?_) (fun c_553 => ?_)
        · exact absurd (free_eq S.1) c_553
        · refine v_aload_n (pc' := 557) dL_holds_556 rfl rfl ?_
          refine v_iconst (pc' := 558) dL_holds_557 kc_2 rfl ?_
          refine v_bipush (pc' := 560) dL_holds_558 kb_8 rfl ?_
          refine v_iconst (pc' := 561) dL_holds_560 kc_0 rfl ?_
          refine v_iconst (pc' := 562) dL_holds_561 kc_0 rfl ?_
          refine v_k1 (na := 5) (pc' := 565) (z_K1.to (call_2 hl hK hA4 _ _ _) (x_ab8) (rfl)) hF4 dL_holds_562 lk_L_164 mwL_call msL_call rfl rfl (by decide) ⟨by omega, by omega⟩ (Nat.le_of_ble_eq_true rfl) rfl ?_
          intro I5 s5 hA5 hF5
          refine v_iload (pc' := 567) dL_holds_565 rfl rfl ?_
          refine v_icmp_ne (tgt := 626) (pc' := 570) dL_holds_567 (by decide) rfl (fun c_567 => ?_) (fun c_567 => ?_)
          · exact absurd hHa c_567
          · refine v_iload (pc' := 572) dL_holds_570 rfl rfl ?_
            refine v_iconst (pc' := 573) dL_holds_572 kc_m1 rfl ?_
            refine v_dceq (pc' := 581) dL_holds_573 dL_holds_576 dL_holds_577 dL_holds_580 kc_1 kc_0 rfl ?_
            refine v_iload (pc' := 583) dL_holds_581 rfl rfl ?_
            refine v_icmp_ne (tgt := 626) (pc' := 586) dL_holds_583 (by decide) rfl (fun c_583 => ?_) (fun c_583 => ?_)
            · exact absurd f2 c_583
            · refine v_aload_n (pc' := 587) dL_holds_586 rfl rfl ?_
              refine v_bipush (pc' := 589) dL_holds_587 kb_16 rfl ?_
              refine v_iload (pc' := 591) dL_holds_589 rfl rfl ?_
              refine v_iconst (pc' := 592) dL_holds_591 kc_1 rfl ?_
              refine v_iconst (pc' := 593) dL_holds_592 kc_0 rfl ?_
              refine v_k1 (na := 5) (pc' := 596) (z_K1.to (call_16 hl hK hA5 _ _ _) (x_win w1 w6) (rfl)) hF5 dL_holds_593 lk_L_164 mwL_call msL_call rfl rfl (by decide) ⟨by omega, by omega⟩ (Nat.le_of_ble_eq_true rfl) rfl ?_
              intro I6 s6 hA6 hF6
              refine v_dne (pc' := 604) dL_holds_596 dL_holds_599 dL_holds_600 dL_holds_603 kc_1 kc_0 rfl ?_
              refine v_iload (pc' := 606) dL_holds_604 rfl rfl ?_
              refine v_icmp_ne (tgt := 626) (pc' := 609) dL_holds_606 (by decide) rfl (fun c_606 => ?_) (fun c_606 => ?_)
              · exact absurd f3 c_606
              · refine v_aload_n (pc' := 610) dL_holds_609 rfl rfl ?_
                refine v_iconst (pc' := 611) dL_holds_610 kc_2 rfl ?_
                refine v_iconst (pc' := 612) dL_holds_611 kc_4 rfl ?_
                refine v_iconst (pc' := 613) dL_holds_612 kc_0 rfl ?_
                refine v_iconst (pc' := 614) dL_holds_613 kc_0 rfl ?_
                refine v_k1 (na := 5) (pc' := 617) (z_K1.to (call_2 hl hK hA6 _ _ _) (x_ab4) (rfl)) hF6 dL_holds_614 lk_L_164 mwL_call msL_call rfl rfl (by decide) ⟨by omega, by omega⟩ (Nat.le_of_ble_eq_true rfl) rfl ?_
                intro I7 s7 hA7 hF7
                refine v_iload (pc' := 619) dL_holds_617 rfl rfl ?_
                refine v_icmp_gt (tgt := 626) (pc' := 622) dL_holds_619 (by decide) rfl (fun c_619 => ?_) (fun c_619 => ?_)
                · exact absurd c_619 f4
                · refine v_iconst (pc' := 623) dL_holds_622 kc_1 rfl ?_
                  refine v_goto (tgt := 627) dL_holds_623 (by decide) ?_
                  refine v_istore9 (pc' := 629) dL_holds_627 (by decide) rfl rfl ?_
                  refine v_iload (pc' := 631) dL_holds_629 rfl rfl ?_
                  refine v_istore13 (pc' := 633) dL_holds_631 (by decide) rfl rfl ?_
                  rcases gap_fit S.1 w1 w6 with ⟨g1, -⟩ | ⟨s0, g1, g2, -, g3, g4⟩
                  · rw [g1]
                    exact hold3n hl hK hW w _ _ _ _ _ _ _ _ _ _ _ _ _ hA7 hF7 (by omega) (by omega)
                  · rw [g2]
                    exact hold3 hl hK hW w s0 g1 g3 _ _ _ _ _ _ _ _ _ (Or.inr ⟨s0, rfl, by omega, g4⟩) w 0 _ _ _ _ (by omega) hA7 hF7 (by omega) (by omega)
theorem who_comes {r : zR} (hW : WF r) {s : Int32} (h1 : ¬ p_taker r s = -1) (h2 : ¬ p_comer r s = -1) : p_taker r s = p_comer r s := by
  rcases p_taker_cases r s with q | ⟨u, q1, q2, q3⟩
  · exact absurd q h1
  · have e := comer_taker hW h2 q1 q3
    have e2 := (p_comer_cases r s).resolve_left h2
    rw [q2, e2.1, (hW.job e2.2.1).2.1, e]
set_option maxRecDepth 20000 in
set_option maxHeartbeats 4000000 in
theorem hold2 (hl : l.stackTraces = false) (hK : ShK E G c) (hW : WF S.1) (hHa : Ha S.1) (hHb : Hb S.1) (m : Nat) (hm : m < 2 ^ 31) (x2 : Int32) : ∀ (f s : Nat) (o11 o12 o13 : Option Value) (I : zI) (sz kk nn : Nat), 12 = s + f → AbsK I c S → FrK I0 I c → kk + 4 * f + 30 ≤ 300 → nn + 24 * f + 180 ≤ 1800 → z_V E l mL_holds (z_rm 11 300 1800) 300 1800 (z_q (z_wP c 1 S G I0 sz0)) kk nn G I sz 310 [some (.ref c), some (.int (nI m)), some (.int x2), some (.int (S.1 5)), some (.int (p_takn S.1 s)), some (.int (p_wide S.1 (cnt S.1))), some (.int (p_rung S.1 (cnt S.1))), some (.int (p_sum (fun t => tf S.1 t 3) (cnt S.1))), some (.int (p_fre S.1 s)), some (.int 1), some (.int (nI s)), o11, o12, o13] [] := by
  intro f
  induction f with
  | zero =>
    intro s o11 o12 o13 I sz kk nn hs hA hF hkk hnn
    have hs12 : s = 12 := by omega
    refine v_iload (pc' := 312) dL_holds_310 rfl rfl ?_
    refine v_bipush (pc' := 314) dL_holds_312 kb_12 rfl ?_
    refine v_icmp_ge (tgt := 478) (pc' := 317) dL_holds_314 (by decide) rfl (fun c_314 => ?_) (fun c_314 => ?_)
    · subst hs12
      exact holdm hl hK hW hHa m hm _ _ _ _ _ _ _ _ _ _ hA hF (by omega) (by omega)
    · exact absurd (by rw [hs12]; exact Int32.le_refl _) c_314
  | succ f ih =>
    intro s o11 o12 o13 I sz kk nn hs hA hF hkk hnn
    refine v_iload (pc' := 312) dL_holds_310 rfl rfl ?_
    refine v_bipush (pc' := 314) dL_holds_312 kb_12 rfl ?_
    refine v_icmp_ge (tgt := 478) (pc' := 317) dL_holds_314 (by decide) rfl (fun c_314 => ?_) (fun c_314 => ?_)
    · exact absurd c_314 (nI_ge (a := s) (b := 12) (by omega) (by omega))
    · refine v_iload (pc' := 319) dL_holds_317 rfl rfl ?_
      refine v_if_eq (tgt := 478) (pc' := 322) dL_holds_319 (by decide) rfl (fun c_319 => ?_) (fun c_319 => ?_)
      · exact absurd c_319 (by decide)
      · refine v_aload_n (pc' := 323) dL_holds_322 rfl rfl ?_
        refine v_iconst (pc' := 324) dL_holds_323 kc_4 rfl ?_
        refine v_iload (pc' := 326) dL_holds_324 rfl rfl ?_
        refine v_iconst (pc' := 327) dL_holds_326 kc_0 rfl ?_
        refine v_iconst (pc' := 328) dL_holds_327 kc_0 rfl ?_
        refine v_k1 (na := 5) (pc' := 331) (z_K1.to (call_4 hl hK hA _ _ _) (x_str0 (by omega)) (rfl)) hF dL_holds_328 lk_L_164 mwL_call msL_call rfl rfl (by decide) ⟨by omega, by omega⟩ (Nat.le_of_ble_eq_true rfl) rfl ?_
        intro I1 s1 hA1 hF1
        refine v_istore11 (pc' := 333) dL_holds_331 (by decide) rfl rfl ?_
        refine v_aload_n (pc' := 334) dL_holds_333 rfl rfl ?_
        refine v_iconst (pc' := 335) dL_holds_334 kc_4 rfl ?_
        refine v_iload (pc' := 337) dL_holds_335 rfl rfl ?_
        refine v_iconst (pc' := 338) dL_holds_337 kc_1 rfl ?_
        refine v_iconst (pc' := 339) dL_holds_338 kc_0 rfl ?_
        refine v_k1 (na := 5) (pc' := 342) (z_K1.to (call_4 hl hK hA1 _ _ _) (x_str1 (by omega)) (rfl)) hF1 dL_holds_339 lk_L_164 mwL_call msL_call rfl rfl (by decide) ⟨by omega, by omega⟩ (Nat.le_of_ble_eq_true rfl) rfl ?_
        intro I2 s2 hA2 hF2
        refine v_istore12 (pc' := 344) dL_holds_342 (by decide) rfl rfl ?_
        refine v_aload_n (pc' := 345) dL_holds_344 rfl rfl ?_
        refine v_iconst (pc' := 346) dL_holds_345 kc_4 rfl ?_
        refine v_iload (pc' := 348) dL_holds_346 rfl rfl ?_
        refine v_iconst (pc' := 349) dL_holds_348 kc_2 rfl ?_
        refine v_iconst (pc' := 350) dL_holds_349 kc_0 rfl ?_
        refine v_k1 (na := 5) (pc' := 353) (z_K1.to (call_4 hl hK hA2 _ _ _) (x_str2 (by omega)) (rfl)) hF2 dL_holds_350 lk_L_164 mwL_call msL_call rfl rfl (by decide) ⟨by omega, by omega⟩ (Nat.le_of_ble_eq_true rfl) rfl ?_
        intro I3 s3 hA3 hF3
        refine v_istore13 (pc' := 355) dL_holds_353 (by decide) rfl rfl ?_
        refine v_iload (pc' := 357) dL_holds_355 rfl rfl ?_
        refine v_iload (pc' := 359) dL_holds_357 rfl rfl ?_
        refine v_iconst (pc' := 360) dL_holds_359 kc_m1 rfl ?_
        refine v_dcne (pc' := 368) dL_holds_360 dL_holds_363 dL_holds_364 dL_holds_367 kc_0 kc_1 rfl ?_
        refine v_iadd (pc' := 369) dL_holds_368 rfl ?_
        refine v_istore4 (pc' := 371) dL_holds_369 (by decide) rfl rfl ?_
        refine v_iload (pc' := 373) dL_holds_371 rfl rfl ?_
        refine v_jv 395 (if p_free S.1 s = true then 1 else 0) (fun J_373 => ?_) ?_
        · refine v_iload (pc' := 375) dL_holds_373 rfl rfl ?_
          refine v_iconst (pc' := 376) dL_holds_375 kc_m1 rfl ?_
          refine v_icmp_ne (tgt := 394) (pc' := 379) dL_holds_376 (by decide) rfl (fun c_376 => ?_) (fun c_376 => ?_)
          · refine v_iconst (pc' := 395) dL_holds_394 kc_0 rfl ?_
            exact v_top J_373 (if_neg (fun q => c_376 ((free_iff _ _).mp q).1))
          · refine v_iload (pc' := 381) dL_holds_379 rfl rfl ?_
            refine v_iconst (pc' := 382) dL_holds_381 kc_m1 rfl ?_
            refine v_icmp_ne (tgt := 394) (pc' := 385) dL_holds_382 (by decide) rfl (fun c_382 => ?_) (fun c_382 => ?_)
            · refine v_iconst (pc' := 395) dL_holds_394 kc_0 rfl ?_
              exact v_top J_373 (if_neg (fun q => c_382 ((free_iff _ _).mp q).2.1))
            · refine v_iload (pc' := 387) dL_holds_385 rfl rfl ?_
              refine v_if_ne (tgt := 394) (pc' := 390) dL_holds_387 (by decide) rfl (fun c_387 => ?_) (fun c_387 => ?_)
              · refine v_iconst (pc' := 395) dL_holds_394 kc_0 rfl ?_
                exact v_top J_373 (if_neg (fun q => c_387 ((free_iff _ _).mp q).2.2))
              · refine v_iconst (pc' := 391) dL_holds_390 kc_1 rfl ?_
                refine v_goto (tgt := 395) dL_holds_391 (by decide) ?_
                exact v_top J_373 (if_pos ((free_iff _ _).mpr ⟨c_376, c_382, c_387⟩))
        refine v_iadd (pc' := 396) dL_holds_395 rfl ?_
        refine v_istore8 (pc' := 398) dL_holds_396 (by decide) rfl rfl ?_
        refine v_jn 415 (fun J_398 => ?_) ?_
        · refine v_iload (pc' := 400) dL_holds_398 rfl rfl ?_
          refine v_if_eq (tgt := 415) (pc' := 403) dL_holds_400 (by decide) rfl (fun c_400 => ?_) (fun c_400 => ?_)
          · exact J_398
          · refine v_iload (pc' := 405) dL_holds_403 rfl rfl ?_
            refine v_iconst (pc' := 406) dL_holds_405 kc_m1 rfl ?_
            refine v_icmp_ne (tgt := 469) (pc' := 409) dL_holds_406 (by decide) rfl (fun c_406 => ?_) (fun c_406 => ?_)
            · exact absurd (bad_none hW hHb (by omega) c_400).1 c_406
            · refine v_iload (pc' := 411) dL_holds_409 rfl rfl ?_
              refine v_iconst (pc' := 412) dL_holds_411 kc_m1 rfl ?_
              refine v_icmp_ne (tgt := 469) (pc' := 415) dL_holds_412 (by decide) rfl (fun c_412 => ?_) (fun c_412 => ?_)
              · exact absurd (bad_none hW hHb (by omega) c_400).2 c_412
              · exact J_398
        refine v_jn 440 (fun J_415 => ?_) ?_
        · refine v_iload (pc' := 417) dL_holds_415 rfl rfl ?_
          refine v_iconst (pc' := 418) dL_holds_417 kc_m1 rfl ?_
          refine v_icmp_eq (tgt := 440) (pc' := 421) dL_holds_418 (by decide) rfl (fun c_418 => ?_) (fun c_418 => ?_)
          · exact J_415
          · refine v_iload (pc' := 423) dL_holds_421 rfl rfl ?_
            refine v_iload_n (pc' := 424) dL_holds_423 rfl rfl ?_
            refine v_icmp_ne (tgt := 469) (pc' := 427) dL_holds_424 (by decide) rfl (fun c_424 => ?_) (fun c_424 => ?_)
            · exact absurd ((p_comer_cases S.1 (nI s)).resolve_left c_418).1 c_424
            · refine v_iload (pc' := 429) dL_holds_427 rfl rfl ?_
              refine v_iconst (pc' := 430) dL_holds_429 kc_m1 rfl ?_
              refine v_icmp_eq (tgt := 440) (pc' := 433) dL_holds_430 (by decide) rfl (fun c_430 => ?_) (fun c_430 => ?_)
              · exact J_415
              · refine v_iload (pc' := 435) dL_holds_433 rfl rfl ?_
                refine v_iload (pc' := 437) dL_holds_435 rfl rfl ?_
                refine v_icmp_ne (tgt := 469) (pc' := 440) dL_holds_437 (by decide) rfl (fun c_437 => ?_) (fun c_437 => ?_)
                · exact absurd (who_comes hW c_430 c_418) c_437
                · exact J_415
        refine v_aload_n (pc' := 441) dL_holds_440 rfl rfl ?_
        refine v_bipush (pc' := 443) dL_holds_441 kb_18 rfl ?_
        refine v_iload (pc' := 445) dL_holds_443 rfl rfl ?_
        refine v_iconst (pc' := 446) dL_holds_445 kc_0 rfl ?_
        refine v_iconst (pc' := 447) dL_holds_446 kc_0 rfl ?_
        refine v_k1 (na := 5) (pc' := 450) (z_K1.to (call_18 hl hK hA3 _ _ _) (x_lost (by omega)) (rfl)) hF3 dL_holds_447 lk_L_164 mwL_call msL_call rfl rfl (by decide) ⟨by omega, by omega⟩ (Nat.le_of_ble_eq_true rfl) rfl ?_
        intro I4 s4 hA4 hF4
        refine v_if_eq (tgt := 465) (pc' := 453) dL_holds_450 (by decide) rfl (fun c_450 => ?_) (fun c_450 => ?_)
        · refine v_iconst (pc' := 466) dL_holds_465 kc_1 rfl ?_
          refine v_goto (tgt := 470) dL_holds_466 (by decide) ?_
          refine v_istore9 (pc' := 472) dL_holds_470 (by decide) rfl rfl ?_
          refine v_iinc10 (pc' := 475) dL_holds_472 (by decide) rfl kc_1 (nI_1 s) rfl ?_
          refine v_goto (tgt := 310) dL_holds_475 (by decide) ?_
          exact ih (s + 1) _ _ _ _ _ _ _ (by omega) hA4 hF4 (by omega) (by omega)
        · refine v_iload (pc' := 455) dL_holds_453 rfl rfl ?_
          refine v_iconst (pc' := 456) dL_holds_455 kc_m1 rfl ?_
          refine v_icmp_ne (tgt := 465) (pc' := 459) dL_holds_456 (by decide) rfl (fun c_456 => ?_) (fun c_456 => ?_)
          · refine v_iconst (pc' := 466) dL_holds_465 kc_1 rfl ?_
            refine v_goto (tgt := 470) dL_holds_466 (by decide) ?_
            refine v_istore9 (pc' := 472) dL_holds_470 (by decide) rfl rfl ?_
            refine v_iinc10 (pc' := 475) dL_holds_472 (by decide) rfl kc_1 (nI_1 s) rfl ?_
            refine v_goto (tgt := 310) dL_holds_475 (by decide) ?_
            exact ih (s + 1) _ _ _ _ _ _ _ (by omega) hA4 hF4 (by omega) (by omega)
          · refine v_iload (pc' := 461) dL_holds_459 rfl rfl ?_
            refine v_iconst (pc' := 462) dL_holds_461 kc_m1 rfl ?_
            refine v_icmp_eq (tgt := 469) (pc' := 465) dL_holds_462 (by decide) rfl (fun c_462 => ?_) (fun c_462 => ?_)
            · exact absurd (lost_0 (by
                rcases hurt_or S.1 (nI s) with q | q | q
                · exact q
                · rw [q]; exact c_456
                · rw [q]; exact c_462)) c_450
            · refine v_iconst (pc' := 466) dL_holds_465 kc_1 rfl ?_
              refine v_goto (tgt := 470) dL_holds_466 (by decide) ?_
              refine v_istore9 (pc' := 472) dL_holds_470 (by decide) rfl rfl ?_
              refine v_iinc10 (pc' := 475) dL_holds_472 (by decide) rfl kc_1 (nI_1 s) rfl ?_
              refine v_goto (tgt := 310) dL_holds_475 (by decide) ?_
              exact ih (s + 1) _ _ _ _ _ _ _ (by omega) hA4 hF4 (by omega) (by omega)
set_option maxRecDepth 20000 in
set_option maxHeartbeats 4000000 in
theorem hold1 (hl : l.stackTraces = false) (hK : ShK E G c) (hW : WF S.1) (hHa : Ha S.1) (hHb : Hb S.1) (m : Nat) (hm : m < 2 ^ 31) : ∀ (f t : Nat) (o11 o12 o13 : Option Value) (I : zI) (sz kk nn : Nat), cnt S.1 = t + f → AbsK I c S → FrK I0 I c → kk + 8 * f + 80 ≤ 300 → nn + 48 * f + 480 ≤ 1800 → z_V E l mL_holds (z_rm 11 300 1800) 300 1800 (z_q (z_wP c 1 S G I0 sz0)) kk nn G I sz 74 [some (.ref c), some (.int (nI m)), some (.int (S.1 0)), some (.int (S.1 5)), some (.int (0)), some (.int (p_wide S.1 t)), some (.int (p_rung S.1 t)), some (.int (p_sum (fun t => tf S.1 t 3) t)), some (.int (0)), some (.int 1), some (.int (nI t)), o11, o12, o13] [] := by
  have h6 := hW.1.1
  have e0 := hW.1.2
  intro f
  induction f with
  | zero =>
    intro t o11 o12 o13 I sz kk nn ht hA hF hkk hnn
    rw [Nat.add_zero] at ht
    refine v_iload (pc' := 76) dL_holds_74 rfl rfl ?_
    refine v_iload_n (pc' := 77) dL_holds_76 rfl rfl ?_
    refine v_icmp_ge (tgt := 307) (pc' := 80) dL_holds_77 (by decide) rfl (fun c_77 => ?_) (fun c_77 => ?_)
    · refine v_iconst (pc' := 308) dL_holds_307 kc_0 rfl ?_
      refine v_istore10 (pc' := 310) dL_holds_308 (by decide) rfl rfl ?_
      subst ht
      exact hold2 hl hK hW hHa hHb m hm _ 12 0 _ _ _ _ _ _ _ (by omega) hA hF (by omega) (by omega)
    · exact absurd (by rw [e0, ht]; exact Int32.le_refl _) c_77
  | succ f ih =>
    intro t o11 o12 o13 I sz kk nn htf hA hF hkk hnn
    have ht : t < cnt S.1 := by omega
    obtain ⟨-, v1, -, s4, s5⟩ := hW.2.1 t ht
    unfold tI at v1 s4 s5
    have hg0 : ¬ tf S.1 t 4 < 0 := fun q => by rw [Int32.lt_iff_toInt_lt, i_0] at q; omega
    have hg3 : ¬ (3 : Int32) < tf S.1 t 4 := fun q => by rw [Int32.lt_iff_toInt_lt, i_3] at q; omega
    have hg5 : (if tf S.1 t 5 = -1 then (1 : Int32) else 0) = (if tf S.1 t 4 = 0 then 1 else 0) := by
      rcases s5 with ⟨q1, q2⟩ | ⟨q1, q2, -⟩
      · rw [if_pos (Int32.toInt_inj.mp (by rw [i_m1]; exact q2)), if_pos (Int32.toInt_inj.mp (by rw [i_0]; exact q1))]
      · rw [if_neg (fun q => by rw [q, i_m1] at q2; omega), if_neg (fun q => by rw [q, i_0] at q1; omega)]
    have hg6 : ¬ tf S.1 t 1 < 0 := fun q => by rw [Int32.lt_iff_toInt_lt, i_0] at q; omega
    have hg7 : ¬ (997 : Int32) ≤ tf S.1 t 1 := fun q => by rw [Int32.le_iff_toInt_le, show (997 : Int32).toInt = 997 from by decide] at q; omega
    refine v_iload (pc' := 76) dL_holds_74 rfl rfl ?_
    refine v_iload_n (pc' := 77) dL_holds_76 rfl rfl ?_
    refine v_icmp_ge (tgt := 307) (pc' := 80) dL_holds_77 (by decide) rfl (fun c_77 => ?_) (fun c_77 => ?_)
    · exact absurd c_77 (by rw [e0]; exact nI_ge (by omega) (by omega))
    · refine v_iload (pc' := 82) dL_holds_80 rfl rfl ?_
      refine v_if_eq (tgt := 307) (pc' := 85) dL_holds_82 (by decide) rfl (fun c_82 => ?_) (fun c_82 => ?_)
      · exact absurd c_82 (by decide)
      · refine v_aload_n (pc' := 86) dL_holds_85 rfl rfl ?_
        refine v_iconst (pc' := 87) dL_holds_86 kc_3 rfl ?_
        refine v_iload (pc' := 89) dL_holds_87 rfl rfl ?_
        refine v_iconst (pc' := 90) dL_holds_89 kc_4 rfl ?_
        refine v_iconst (pc' := 91) dL_holds_90 kc_0 rfl ?_
        refine v_k1 (na := 5) (pc' := 94) (z_K1.to (call_3 hl hK hA _ _ _) (x_task 4 hW ht) (rfl)) hF dL_holds_91 lk_L_164 mwL_call msL_call rfl rfl (by decide) ⟨by omega, by omega⟩ (Nat.le_of_ble_eq_true rfl) rfl ?_
        intro I1 s1 hA1 hF1
        refine v_istore11 (pc' := 96) dL_holds_94 (by decide) rfl rfl ?_
        refine v_aload_n (pc' := 97) dL_holds_96 rfl rfl ?_
        refine v_iconst (pc' := 98) dL_holds_97 kc_3 rfl ?_
        refine v_iload (pc' := 100) dL_holds_98 rfl rfl ?_
        refine v_iconst (pc' := 101) dL_holds_100 kc_5 rfl ?_
        refine v_iconst (pc' := 102) dL_holds_101 kc_0 rfl ?_
        refine v_k1 (na := 5) (pc' := 105) (z_K1.to (call_3 hl hK hA1 _ _ _) (x_task 5 hW ht) (rfl)) hF1 dL_holds_102 lk_L_164 mwL_call msL_call rfl rfl (by decide) ⟨by omega, by omega⟩ (Nat.le_of_ble_eq_true rfl) rfl ?_
        intro I2 s2 hA2 hF2
        refine v_istore12 (pc' := 107) dL_holds_105 (by decide) rfl rfl ?_
        refine v_aload_n (pc' := 108) dL_holds_107 rfl rfl ?_
        refine v_iconst (pc' := 109) dL_holds_108 kc_3 rfl ?_
        refine v_iload (pc' := 111) dL_holds_109 rfl rfl ?_
        refine v_iconst (pc' := 112) dL_holds_111 kc_0 rfl ?_
        refine v_iconst (pc' := 113) dL_holds_112 kc_0 rfl ?_
        refine v_k1 (na := 5) (pc' := 116) (z_K1.to (call_3 hl hK hA2 _ _ _) (x_task 0 hW ht) (rfl)) hF2 dL_holds_113 lk_L_164 mwL_call msL_call rfl rfl (by decide) ⟨by omega, by omega⟩ (Nat.le_of_ble_eq_true rfl) rfl ?_
        intro I3 s3 hA3 hF3
        refine v_istore13 (pc' := 118) dL_holds_116 (by decide) rfl rfl ?_
        refine v_iload (pc' := 120) dL_holds_118 rfl rfl ?_
        refine v_iload (pc' := 122) dL_holds_120 rfl rfl ?_
        refine v_iconst (pc' := 123) dL_holds_122 kc_2 rfl ?_
        refine v_dcne (pc' := 131) dL_holds_123 dL_holds_126 dL_holds_127 dL_holds_130 kc_1 kc_0 rfl ?_
        refine v_iadd (pc' := 132) dL_holds_131 rfl ?_
        refine v_istore6 (pc' := 134) dL_holds_132 (by decide) rfl rfl ?_
        refine v_iload (pc' := 136) dL_holds_134 rfl rfl ?_
        refine v_aload_n (pc' := 137) dL_holds_136 rfl rfl ?_
        refine v_iconst (pc' := 138) dL_holds_137 kc_3 rfl ?_
        refine v_iload (pc' := 140) dL_holds_138 rfl rfl ?_
        refine v_iconst (pc' := 141) dL_holds_140 kc_3 rfl ?_
        refine v_iconst (pc' := 142) dL_holds_141 kc_0 rfl ?_
        refine v_k1 (na := 5) (pc' := 145) (z_K1.to (call_3 hl hK hA3 _ _ _) (x_task 3 hW ht) (rfl)) hF3 dL_holds_142 lk_L_164 mwL_call msL_call rfl rfl (by decide) ⟨by omega, by omega⟩ (Nat.le_of_ble_eq_true rfl) rfl ?_
        intro I4 s4 hA4 hF4
        refine v_iadd (pc' := 146) dL_holds_145 rfl ?_
        refine v_istore7 (pc' := 148) dL_holds_146 (by decide) rfl rfl ?_
        refine v_iload (pc' := 150) dL_holds_148 rfl rfl ?_
        refine v_jv 162 (if tf S.1 t 5 = -1 then 0 else tf S.1 t 0) (fun J_150 => ?_) ?_
        · refine v_iload (pc' := 152) dL_holds_150 rfl rfl ?_
          refine v_iconst (pc' := 153) dL_holds_152 kc_m1 rfl ?_
          refine v_icmp_ne (tgt := 160) (pc' := 156) dL_holds_153 (by decide) rfl (fun c_153 => ?_) (fun c_153 => ?_)
          · refine v_iload (pc' := 162) dL_holds_160 rfl rfl ?_
            exact v_top J_150 (if_neg c_153)
          · refine v_iconst (pc' := 157) dL_holds_156 kc_0 rfl ?_
            refine v_goto (tgt := 162) dL_holds_157 (by decide) ?_
            exact v_top J_150 (if_pos c_153)
        refine v_iadd (pc' := 163) dL_holds_162 rfl ?_
        refine v_istore5 (pc' := 165) dL_holds_163 (by decide) rfl rfl ?_
        refine v_iload (pc' := 167) dL_holds_165 rfl rfl ?_
        refine v_if_lt (tgt := 298) (pc' := 170) dL_holds_167 (by decide) rfl (fun c_167 => ?_) (fun c_167 => ?_)
        · exact absurd c_167 hg0
        · refine v_iload (pc' := 172) dL_holds_170 rfl rfl ?_
          refine v_iconst (pc' := 173) dL_holds_172 kc_3 rfl ?_
          refine v_icmp_gt (tgt := 298) (pc' := 176) dL_holds_173 (by decide) rfl (fun c_173 => ?_) (fun c_173 => ?_)
          · exact absurd c_173 hg3
          · refine v_iload (pc' := 178) dL_holds_176 rfl rfl ?_
            refine v_iconst (pc' := 179) dL_holds_178 kc_m1 rfl ?_
            refine v_dcne (pc' := 187) dL_holds_179 dL_holds_182 dL_holds_183 dL_holds_186 kc_1 kc_0 rfl ?_
            refine v_iload (pc' := 189) dL_holds_187 rfl rfl ?_
            refine v_dne (pc' := 197) dL_holds_189 dL_holds_192 dL_holds_193 dL_holds_196 kc_1 kc_0 rfl ?_
            refine v_icmp_ne (tgt := 298) (pc' := 200) dL_holds_197 (by decide) rfl (fun c_197 => ?_) (fun c_197 => ?_)
            · exact absurd hg5 c_197
            · refine v_aload_n (pc' := 201) dL_holds_200 rfl rfl ?_
              refine v_iconst (pc' := 202) dL_holds_201 kc_3 rfl ?_
              refine v_iload (pc' := 204) dL_holds_202 rfl rfl ?_
              refine v_iconst (pc' := 205) dL_holds_204 kc_1 rfl ?_
              refine v_iconst (pc' := 206) dL_holds_205 kc_0 rfl ?_
              refine v_k1 (na := 5) (pc' := 209) (z_K1.to (call_3 hl hK hA4 _ _ _) (x_task 1 hW ht) (rfl)) hF4 dL_holds_206 lk_L_164 mwL_call msL_call rfl rfl (by decide) ⟨by omega, by omega⟩ (Nat.le_of_ble_eq_true rfl) rfl ?_
              intro I5 s5 hA5 hF5
              refine v_if_lt (tgt := 298) (pc' := 212) dL_holds_209 (by decide) rfl (fun c_209 => ?_) (fun c_209 => ?_)
              · exact absurd c_209 hg6
              · refine v_aload_n (pc' := 213) dL_holds_212 rfl rfl ?_
                refine v_iconst (pc' := 214) dL_holds_213 kc_3 rfl ?_
                refine v_iload (pc' := 216) dL_holds_214 rfl rfl ?_
                refine v_iconst (pc' := 217) dL_holds_216 kc_1 rfl ?_
                refine v_iconst (pc' := 218) dL_holds_217 kc_0 rfl ?_
                refine v_k1 (na := 5) (pc' := 221) (z_K1.to (call_3 hl hK hA5 _ _ _) (x_task 1 hW ht) (rfl)) hF5 dL_holds_218 lk_L_164 mwL_call msL_call rfl rfl (by decide) ⟨by omega, by omega⟩ (Nat.le_of_ble_eq_true rfl) rfl ?_
                intro I6 s6 hA6 hF6
                refine v_sipush (pc' := 224) dL_holds_221 ks_997 rfl ?_
                refine v_icmp_ge (tgt := 298) (pc' := 227) dL_holds_224 (by decide) rfl (fun c_224 => ?_) (fun c_224 => ?_)
                · exact absurd c_224 hg7
                · refine v_jn 245 (fun J_227 => ?_) ?_
                  · refine v_iload (pc' := 229) dL_holds_227 rfl rfl ?_
                    refine v_iconst (pc' := 230) dL_holds_229 kc_1 rfl ?_
                    refine v_icmp_eq (tgt := 239) (pc' := 233) dL_holds_230 (by decide) rfl (fun c_230 => ?_) (fun c_230 => ?_)
                    · refine v_iload_n (pc' := 240) dL_holds_239 rfl rfl ?_
                      refine v_iload (pc' := 242) dL_holds_240 rfl rfl ?_
                      refine v_icmp_ne (tgt := 298) (pc' := 245) dL_holds_242 (by decide) rfl (fun c_242 => ?_) (fun c_242 => ?_)
                      · exact absurd (hHb.1 t ht (by first | exact Or.inl c_230 | exact Or.inr c_236)) c_242
                      · exact J_227
                    · refine v_iload (pc' := 235) dL_holds_233 rfl rfl ?_
                      refine v_iconst (pc' := 236) dL_holds_235 kc_3 rfl ?_
                      refine v_icmp_ne (tgt := 245) (pc' := 239) dL_holds_236 (by decide) rfl (fun c_236 => ?_) (fun c_236 => ?_)
                      · exact J_227
                      · refine v_iload_n (pc' := 240) dL_holds_239 rfl rfl ?_
                        refine v_iload (pc' := 242) dL_holds_240 rfl rfl ?_
                        refine v_icmp_ne (tgt := 298) (pc' := 245) dL_holds_242 (by decide) rfl (fun c_242 => ?_) (fun c_242 => ?_)
                        · exact absurd (hHb.1 t ht (by first | exact Or.inl c_230 | exact Or.inr c_236)) c_242
                        · exact J_227
                  refine v_iload (pc' := 247) dL_holds_245 rfl rfl ?_
                  refine v_iconst (pc' := 248) dL_holds_247 kc_m1 rfl ?_
                  refine v_icmp_eq (tgt := 294) (pc' := 251) dL_holds_248 (by decide) rfl (fun c_248 => ?_) (fun c_248 => ?_)
                  · refine v_iconst (pc' := 295) dL_holds_294 kc_1 rfl ?_
                    refine v_goto (tgt := 299) dL_holds_295 (by decide) ?_
                    refine v_istore9 (pc' := 301) dL_holds_299 (by decide) rfl rfl ?_
                    refine v_iinc10 (pc' := 304) dL_holds_301 (by decide) rfl kc_1 (nI_1 t) rfl ?_
                    refine v_goto (tgt := 74) dL_holds_304 (by decide) ?_
                    exact ih (t + 1) _ _ _ _ _ _ _ (by omega) hA6 hF6 (by omega) (by omega)
                  · obtain ⟨a, w, ea, ew, w1, w6, h12, hi⟩ := row_of hW ht c_248
                    refine v_iload (pc' := 253) dL_holds_251 rfl rfl ?_
                    refine v_iload (pc' := 255) dL_holds_253 rfl rfl ?_
                    refine v_iadd (pc' := 256) dL_holds_255 rfl ?_
                    refine v_bipush (pc' := 258) dL_holds_256 kb_12 rfl ?_
                    refine v_icmp_gt (tgt := 298) (pc' := 261) dL_holds_258 (by decide) rfl (fun c_258 => ?_) (fun c_258 => ?_)
                    · exact absurd c_258 (by rw [ea, ew, nI_add]; exact fun q => by rw [Int32.lt_iff_toInt_lt, nI_toInt (by omega), show (12 : Int32) = nI 12 from rfl, nI_toInt (by omega)] at q; omega)
                    · refine v_aload_n (pc' := 262) dL_holds_261 rfl rfl ?_
                      refine v_iconst (pc' := 263) dL_holds_262 kc_4 rfl ?_
                      refine v_iload (pc' := 265) dL_holds_263 rfl rfl ?_
                      refine v_iconst (pc' := 266) dL_holds_265 kc_0 rfl ?_
                      refine v_iconst (pc' := 267) dL_holds_266 kc_0 rfl ?_
                      refine v_k1 (na := 5) (pc' := 270) (z_K1.to (call_4 hl hK hA6 _ _ _) (x_str0' (s := a) ea (by omega)) (rfl)) hF6 dL_holds_267 lk_L_164 mwL_call msL_call rfl rfl (by decide) ⟨by omega, by omega⟩ (Nat.le_of_ble_eq_true rfl) rfl ?_
                      intro I7 s7 hA7 hF7
                      refine v_iload (pc' := 272) dL_holds_270 rfl rfl ?_
                      refine v_icmp_ne (tgt := 298) (pc' := 275) dL_holds_272 (by decide) rfl (fun c_272 => ?_) (fun c_272 => ?_)
                      · exact absurd (taker_of hW ht ((hi a (by omega)).mpr ⟨by omega, by omega⟩)) c_272
                      · refine v_aload_n (pc' := 276) dL_holds_275 rfl rfl ?_
                        refine v_iconst (pc' := 277) dL_holds_276 kc_4 rfl ?_
                        refine v_iload (pc' := 279) dL_holds_277 rfl rfl ?_
                        refine v_iload (pc' := 281) dL_holds_279 rfl rfl ?_
                        refine v_iadd (pc' := 282) dL_holds_281 rfl ?_
                        refine v_iconst (pc' := 283) dL_holds_282 kc_1 rfl ?_
                        refine v_isub (pc' := 284) dL_holds_283 rfl ?_
                        refine v_iconst (pc' := 285) dL_holds_284 kc_0 rfl ?_
                        refine v_iconst (pc' := 286) dL_holds_285 kc_0 rfl ?_
                        refine v_k1 (na := 5) (pc' := 289) (z_K1.to (call_4 hl hK hA7 _ _ _) (x_str0' (s := a + w - 1) (by rw [ea, ew, nI_add, show (1 : Int32) = nI 1 from rfl, pk_sub (by omega)]) (by omega)) (rfl)) hF7 dL_holds_286 lk_L_164 mwL_call msL_call rfl rfl (by decide) ⟨by omega, by omega⟩ (Nat.le_of_ble_eq_true rfl) rfl ?_
                        intro I8 s8 hA8 hF8
                        refine v_iload (pc' := 291) dL_holds_289 rfl rfl ?_
                        refine v_icmp_ne (tgt := 298) (pc' := 294) dL_holds_291 (by decide) rfl (fun c_291 => ?_) (fun c_291 => ?_)
                        · exact absurd (taker_of hW ht ((hi (a + w - 1) (by omega)).mpr ⟨by omega, by omega⟩)) c_291
                        · refine v_iconst (pc' := 295) dL_holds_294 kc_1 rfl ?_
                          refine v_goto (tgt := 299) dL_holds_295 (by decide) ?_
                          refine v_istore9 (pc' := 301) dL_holds_299 (by decide) rfl rfl ?_
                          refine v_iinc10 (pc' := 304) dL_holds_301 (by decide) rfl kc_1 (nI_1 t) rfl ?_
                          refine v_goto (tgt := 74) dL_holds_304 (by decide) ?_
                          exact ih (t + 1) _ _ _ _ _ _ _ (by omega) hA8 hF8 (by omega) (by omega)
set_option maxRecDepth 20000 in
set_option maxHeartbeats 4000000 in
theorem c_holds {I : zI} {sz : Nat} (hl : l.stackTraces = false) (hK : ShK E G c) (hA : AbsK I c S) (hHa : Ha S.1) (hHb : Hb S.1) (m : Nat) (hm : m < 2 ^ 31) : z_K1 E l mL_holds 11 300 1800 [.ref c, .int (nI m)] G I sz c 1 S := by
  refine z_Ct.of hl pn_L [some (.ref c), some (.int (nI m)), none, none, none, none, none, none, none, none, none, none, none, none] rfl (Nat.le_of_ble_eq_true rfl) ?_
  have hF : FrK I I c := FrK.rf
  have hW : WF S.1 := hA.2.2.1
  have h6 := hW.1.1
  have hj : (if S.1 5 = -1 then (1 : Int32) else 0) = (if p_idle S.1 = 0 then 1 else 0) := by
    by_cases q : S.1 5 = -1
    · rw [if_pos q, if_pos ((idle_0 hW).mpr q)]
    · rw [if_neg q, if_neg (fun q2 => q ((idle_0 hW).mp q2))]
  refine v_aload_n (pc' := 1) dL_holds_0 rfl rfl ?_
  refine v_iconst (pc' := 2) dL_holds_1 kc_2 rfl ?_
  refine v_iconst (pc' := 3) dL_holds_2 kc_0 rfl ?_
  refine v_iconst (pc' := 4) dL_holds_3 kc_0 rfl ?_
  refine v_iconst (pc' := 5) dL_holds_4 kc_0 rfl ?_
  refine v_k1 (na := 5) (pc' := 8) (z_K1.to (call_2 hl hK hA _ _ _) (x_ab0) (rfl)) hF dL_holds_5 lk_L_164 mwL_call msL_call rfl rfl (by decide) ⟨by omega, by omega⟩ (Nat.le_of_ble_eq_true rfl) rfl ?_
  intro I1 s1 hA1 hF1
  refine v_istore_n2 (pc' := 9) dL_holds_8 (by decide) rfl rfl ?_
  refine v_aload_n (pc' := 10) dL_holds_9 rfl rfl ?_
  refine v_iconst (pc' := 11) dL_holds_10 kc_5 rfl ?_
  refine v_iconst (pc' := 12) dL_holds_11 kc_0 rfl ?_
  refine v_iconst (pc' := 13) dL_holds_12 kc_0 rfl ?_
  refine v_iconst (pc' := 14) dL_holds_13 kc_0 rfl ?_
  refine v_k1 (na := 5) (pc' := 17) (z_K1.to (call_5 hl hK hA1 _ _ _) (x_job) (rfl)) hF1 dL_holds_14 lk_L_164 mwL_call msL_call rfl rfl (by decide) ⟨by omega, by omega⟩ (Nat.le_of_ble_eq_true rfl) rfl ?_
  intro I2 s2 hA2 hF2
  refine v_istore_n3 (pc' := 18) dL_holds_17 (by decide) rfl rfl ?_
  refine v_iconst (pc' := 19) dL_holds_18 kc_0 rfl ?_
  refine v_istore4 (pc' := 21) dL_holds_19 (by decide) rfl rfl ?_
  refine v_iconst (pc' := 22) dL_holds_21 kc_0 rfl ?_
  refine v_istore5 (pc' := 24) dL_holds_22 (by decide) rfl rfl ?_
  refine v_iconst (pc' := 25) dL_holds_24 kc_0 rfl ?_
  refine v_istore6 (pc' := 27) dL_holds_25 (by decide) rfl rfl ?_
  refine v_iconst (pc' := 28) dL_holds_27 kc_0 rfl ?_
  refine v_istore7 (pc' := 30) dL_holds_28 (by decide) rfl rfl ?_
  refine v_iconst (pc' := 31) dL_holds_30 kc_0 rfl ?_
  refine v_istore8 (pc' := 33) dL_holds_31 (by decide) rfl rfl ?_
  refine v_iload_n (pc' := 34) dL_holds_33 rfl rfl ?_
  refine v_bipush (pc' := 36) dL_holds_34 kb_6 rfl ?_
  refine v_icmp_gt (tgt := 68) (pc' := 39) dL_holds_36 (by decide) rfl (fun c_36 => ?_) (fun c_36 => ?_)
  · exact absurd c_36 (by rw [hW.1.2]; exact fun q => by rw [Int32.lt_iff_toInt_lt, nI_toInt (by omega), show (6 : Int32) = nI 6 from rfl, nI_toInt (by omega)] at q; omega)
  · refine v_iload_n (pc' := 40) dL_holds_39 rfl rfl ?_
    refine v_iconst (pc' := 41) dL_holds_40 kc_m1 rfl ?_
    refine v_dcne (pc' := 49) dL_holds_41 dL_holds_44 dL_holds_45 dL_holds_48 kc_1 kc_0 rfl ?_
    refine v_aload_n (pc' := 50) dL_holds_49 rfl rfl ?_
    refine v_i1 (pc' := 53) hl rfl hK hA2 hF2 dL_holds_50 rfl (by decide) ⟨by omega, by omega⟩ (Nat.le_of_ble_eq_true rfl) rfl ?_
    intro I3 s3 hA3 hF3
    refine v_dne (pc' := 61) dL_holds_53 dL_holds_56 dL_holds_57 dL_holds_60 kc_1 kc_0 rfl ?_
    refine v_icmp_ne (tgt := 68) (pc' := 64) dL_holds_61 (by decide) rfl (fun c_61 => ?_) (fun c_61 => ?_)
    · exact absurd hj c_61
    · refine v_iconst (pc' := 65) dL_holds_64 kc_1 rfl ?_
      refine v_goto (tgt := 69) dL_holds_65 (by decide) ?_
      refine v_istore9 (pc' := 71) dL_holds_69 (by decide) rfl rfl ?_
      refine v_iconst (pc' := 72) dL_holds_71 kc_0 rfl ?_
      refine v_istore10 (pc' := 74) dL_holds_72 (by decide) rfl rfl ?_
      exact hold1 hl hK hW hHa hHb m hm (cnt S.1) 0 _ _ _ _ _ _ _ (by omega) hA3 hF3 (by omega) (by omega)
end LHOLD
